/-! CoreText$Core at its cells -/
def told (X : Nat → Nat → Int32) (J : Nat → Nat → Int64) (key : Int64) : Bool := !decide (nfi (J 7) key ((X 6 1).toNatClampNeg) 0 = -1) || (!decide (nfi (J 9) key ((X 8 1).toNatClampNeg) 0 = -1) || (!decide (nfi (J 11) key ((X 10 1).toNatClampNeg) 0 = -1) || !decide (nfi (J 13) key ((X 12 1).toNatClampNeg) 0 = -1)))
theorem told_iff {X : Nat → Nat → Int32} {J : Nat → Nat → Int64} {key : Int64} : told X J key = true ↔ ¬ nfi (J 7) key ((X 6 1).toNatClampNeg) 0 = -1 ∨ ¬ nfi (J 9) key ((X 8 1).toNatClampNeg) 0 = -1 ∨ ¬ nfi (J 11) key ((X 10 1).toNatClampNeg) 0 = -1 ∨ ¬ nfi (J 13) key ((X 12 1).toNatClampNeg) 0 = -1 := by simp [told]
/-- the sizes stand within their bounds -/
abbrev Bd (X : Nat → Nat → Int32) : Prop := (0 ≤ X 1 1) ∧ (X 1 1 ≤ 4160) ∧ (0 ≤ X 3 1) ∧ (X 3 1 ≤ 4160) ∧ (0 ≤ X 6 1) ∧ (X 6 1 ≤ 12) ∧ (0 ≤ X 8 1) ∧ (X 8 1 ≤ 12) ∧ (0 ≤ X 10 1) ∧ (X 10 1 ≤ 8) ∧ (0 ≤ X 12 1) ∧ (X 12 1 ≤ 8) ∧ (0 ≤ X 5 13) ∧ (X 5 13 ≤ 24)
theorem Bd.a1 {X : Nat → Nat → Int32} (h : Bd X) : 0 ≤ X 1 1 := h.1
theorem Bd.b1 {X : Nat → Nat → Int32} (h : Bd X) : X 1 1 ≤ 4160 := h.2.1
theorem Bd.a3 {X : Nat → Nat → Int32} (h : Bd X) : 0 ≤ X 3 1 := h.2.2.1
theorem Bd.b3 {X : Nat → Nat → Int32} (h : Bd X) : X 3 1 ≤ 4160 := h.2.2.2.1
theorem Bd.a6 {X : Nat → Nat → Int32} (h : Bd X) : 0 ≤ X 6 1 := h.2.2.2.2.1
theorem Bd.b6 {X : Nat → Nat → Int32} (h : Bd X) : X 6 1 ≤ 12 := h.2.2.2.2.2.1
theorem Bd.a8 {X : Nat → Nat → Int32} (h : Bd X) : 0 ≤ X 8 1 := h.2.2.2.2.2.2.1
theorem Bd.b8 {X : Nat → Nat → Int32} (h : Bd X) : X 8 1 ≤ 12 := h.2.2.2.2.2.2.2.1
theorem Bd.a10 {X : Nat → Nat → Int32} (h : Bd X) : 0 ≤ X 10 1 := h.2.2.2.2.2.2.2.2.1
theorem Bd.b10 {X : Nat → Nat → Int32} (h : Bd X) : X 10 1 ≤ 8 := h.2.2.2.2.2.2.2.2.2.1
theorem Bd.a12 {X : Nat → Nat → Int32} (h : Bd X) : 0 ≤ X 12 1 := h.2.2.2.2.2.2.2.2.2.2.1
theorem Bd.b12 {X : Nat → Nat → Int32} (h : Bd X) : X 12 1 ≤ 8 := h.2.2.2.2.2.2.2.2.2.2.2.1
theorem Bd.ap {X : Nat → Nat → Int32} (h : Bd X) : 0 ≤ X 5 13 := h.2.2.2.2.2.2.2.2.2.2.2.2.1
theorem Bd.bp {X : Nat → Nat → Int32} (h : Bd X) : X 5 13 ≤ 24 := h.2.2.2.2.2.2.2.2.2.2.2.2.2
def hasP (I : Nat → Nat → Int32) (n : Nat) (u v : Int32) : Bool := anyF (fun i => decide (I 23 i = u) && decide (I 25 i = v)) n 0
def bitP (x c : Int32) : Bool := !decide ((x >>> (c &&& 31)) &&& 1 = 0)
theorem bitP_iff {x c : Int32} : bitP x c = true ↔ ¬ (x >>> (c &&& 31)) &&& 1 = 0 := by simp [bitP]
def prtN (X : Nat → Nat → Int32) (I : Nat → Nat → Int32) (c : Int32) : Nat := cntF (fun i => bitP (I 31 i) c) ((X 12 1).toNatClampNeg) 0
def resA (X : Nat → Nat → Int32) (I : Nat → Nat → Int32) (s : Int32) : Bool := anyF (fun i => decide (I 17 i = s)) ((X 6 1).toNatClampNeg) 0
def idle (X : Nat → Nat → Int32) (I : Nat → Nat → Int32) (s : Int32) : Bool := !anyF (fun i => decide (I 21 i = s)) 7 0 && !anyF (fun i => decide (I 29 i = s)) ((X 10 1).toNatClampNeg) 0
def latO (I : Nat → Nat → Int32) (c : Int32) : Int32 := if rget (I 15) 12 (-1) c = -1 then 1 else rget (I 15) 12 (-1) c
section
variable {X : Nat → Nat → Int32} {y : Int64} {I : Nat → Nat → Int32} {J : Nat → Nat → Int64} {b : ip_B} {post : Option Value → ip_H → Prop} {px : String → ip_H → Prop}
theorem co_told {key : Int64} (a6 : 0 ≤ X 6 1) (b6 : X 6 1 ≤ 12) (a8 : 0 ≤ X 8 1) (b8 : X 8 1 ≤ 12) (a10 : 0 ≤ X 10 1) (b10 : X 10 1 ≤ 8) (a12 : 0 ≤ X 12 1) (b12 : X 12 1 ≤ 8) : ip_WP 106 0 [some (.ref 5), some (.long key), none] [] (g0, fld X y, I, J) b post px ↔ post (some (.int (bI (told X J key)))) (g0, fld X y, I, J) := by
  simp only [s106_0, s106_1, s106_4, s106_5, s106_8, s106_9, s106_12, s106_13, s106_16, s106_17, s106_20, s106_21, s106_24, s106_25, s106_28, s106_29, s106_32, s106_33, s106_36, s106_37, s106_40, s106_41, s106_44, s106_45, s106_48, s106_49, s106_52, s106_53, f_5_0, f_5_1, f_5_2, f_5_3, f_5_4, f_5_5, f_5_6, f_5_7, f_5_8, f_5_9, f_5_10, f_5_11, f_5_12, f_5_13, u_5_13, f_5_14, u_5_14, f_6_0, f_6_1, u_6_1, f_8_0, f_8_1, u_8_1, f_10_0, f_10_1, u_10_1, f_12_0, f_12_1, u_12_1, o_5, o_6, o_8, o_10, o_12, nf_6 a6 b6, nf_8 a8 b8, nf_10 a10 b10, nf_12 a12 b12, Option.toList_some, Option.toList_none, List.cons_append, List.nil_append, List.append_nil, ip_on_some, true_and, and_true, if_true, if_false, not_true_eq_false, not_false_eq_true, decide_true, true_or, or_true, or_self, Bool.false_eq_true]
  by_cases h1 : nfi (J 7) key (X 6 1).toNatClampNeg 0 = -1
  · by_cases h2 : nfi (J 9) key (X 8 1).toNatClampNeg 0 = -1
    · by_cases h3 : nfi (J 11) key (X 10 1).toNatClampNeg 0 = -1
      · by_cases h4 : nfi (J 13) key (X 12 1).toNatClampNeg 0 = -1
        · rw [bI_f (show ¬ told X J key = true from fun q => by rcases told_iff.mp q with q | q | q | q <;> contradiction)]
          simp [h1, h2, h3, h4]
        · rw [bI_t (show told X J key = true from told_iff.mpr (Or.inr (Or.inr (Or.inr h4))))]
          simp [h1, h2, h3, h4]
      · rw [bI_t (show told X J key = true from told_iff.mpr (Or.inr (Or.inr (Or.inl h3))))]
        simp [h1, h2, h3]
    · rw [bI_t (show told X J key = true from told_iff.mpr (Or.inr (Or.inl h2)))]
      simp [h1, h2]
  · rw [bI_t (show told X J key = true from told_iff.mpr (Or.inl h1))]
    simp [h1]
theorem co_lat {i : Int32} : ip_WP 107 0 [some (.ref 5), some (.int i), none] [] (g0, fld X y, I, J) b post px ↔ post (some (.int (latO I i))) (g0, fld X y, I, J) := by
  simp only [s107_0, s107_1, s107_4, s107_5, s107_8, s107_9, s107_10, s107_11, s107_14, s107_15, s107_18, s107_19, f_5_0, f_5_1, f_5_2, f_5_3, f_5_4, f_5_5, f_5_6, f_5_7, f_5_8, f_5_9, f_5_10, f_5_11, f_5_12, f_5_13, u_5_13, f_5_14, u_5_14, f_14_0, f_14_1, o_5, o_14, rg_14, Option.toList_some, Option.toList_none, List.cons_append, List.nil_append, List.append_nil, ip_on_some, true_and, and_true, if_true, if_false, not_true_eq_false, not_false_eq_true, decide_true, true_or, or_true, or_self, Bool.false_eq_true]
  unfold latO
  by_cases h : rget (I 15) 12 (-1) i = -1
  · simp [h]
  · simp [h]
theorem co_stall {i : Int32} : ip_WP 108 0 [some (.ref 5), some (.int i)] [] (g0, fld X y, I, J) b post px ↔ post (some (.int (bI (¬ rget (I 19) 12 0 i = 0)))) (g0, fld X y, I, J) := by
  simp only [s108_0, s108_1, s108_4, s108_5, s108_8, s108_11, s108_12, s108_15, s108_16, f_5_0, f_5_1, f_5_2, f_5_3, f_5_4, f_5_5, f_5_6, f_5_7, f_5_8, f_5_9, f_5_10, f_5_11, f_5_12, f_5_13, u_5_13, f_5_14, u_5_14, f_18_0, f_18_1, o_5, o_18, rg_18, Option.toList_some, Option.toList_none, List.cons_append, List.nil_append, List.append_nil, ip_on_some, true_and, and_true, if_true, if_false, not_true_eq_false, not_false_eq_true, decide_true, true_or, or_true, or_self, Bool.false_eq_true]
  by_cases h : rget (I 19) 12 0 i = 0
  · simp [h, bI]
  · simp [h, bI]
theorem co_does {s t : Int32} : ip_WP 109 0 [some (.ref 5), some (.int s), some (.int t)] [] (g0, fld X y, I, J) b post px ↔ post (some (.int (bI (rget (I 21) 7 (-1) t = s)))) (g0, fld X y, I, J) := by
  simp only [s109_0, s109_1, s109_4, s109_5, s109_8, s109_9, s109_12, s109_13, s109_16, s109_17, f_5_0, f_5_1, f_5_2, f_5_3, f_5_4, f_5_5, f_5_6, f_5_7, f_5_8, f_5_9, f_5_10, f_5_11, f_5_12, f_5_13, u_5_13, f_5_14, u_5_14, f_20_0, f_20_1, o_5, o_20, rg_20, Option.toList_some, Option.toList_none, List.cons_append, List.nil_append, List.append_nil, ip_on_some, true_and, and_true, if_true, if_false, not_true_eq_false, not_false_eq_true, decide_true, true_or, or_true, or_self, Bool.false_eq_true]
  by_cases h : rget (I 21) 7 (-1) t = s
  · simp [h, bI]
  · simp [h, bI]
theorem co_paths : ip_WP 110 0 [some (.ref 5)] [] (g0, fld X y, I, J) b post px ↔ post (some (.int (X 5 13))) (g0, fld X y, I, J) := by
  simp only [s110_0, s110_1, s110_4, f_5_0, f_5_1, f_5_2, f_5_3, f_5_4, f_5_5, f_5_6, f_5_7, f_5_8, f_5_9, f_5_10, f_5_11, f_5_12, f_5_13, u_5_13, f_5_14, u_5_14, o_5, Option.toList_some, Option.toList_none, List.cons_append, List.nil_append, List.append_nil, ip_on_some, true_and, and_true, if_true, if_false, not_true_eq_false, not_false_eq_true, decide_true, true_or, or_true, or_self, Bool.false_eq_true]
theorem co_stmts : ip_WP 104 0 [some (.ref 5)] [] (g0, fld X y, I, J) b post px ↔ post (some (.int (X 5 14))) (g0, fld X y, I, J) := by
  simp only [s104_0, s104_1, s104_4, f_5_0, f_5_1, f_5_2, f_5_3, f_5_4, f_5_5, f_5_6, f_5_7, f_5_8, f_5_9, f_5_10, f_5_11, f_5_12, f_5_13, u_5_13, f_5_14, u_5_14, o_5, Option.toList_some, Option.toList_none, List.cons_append, List.nil_append, List.append_nil, ip_on_some, true_and, and_true, if_true, if_false, not_true_eq_false, not_false_eq_true, decide_true, true_or, or_true, or_self, Bool.false_eq_true]
theorem co_addS : ip_WP 105 0 [some (.ref 5)] [] (g0, fld X y, I, J) b post px ↔ post none (g0, fld (ip_up X 5 14 (X 5 14 + 1)) y, I, J) := by
  simp only [s105_0, s105_1, s105_2, s105_5, s105_6, s105_7, s105_10, f_5_0, f_5_1, f_5_2, f_5_3, f_5_4, f_5_5, f_5_6, f_5_7, f_5_8, f_5_9, f_5_10, f_5_11, f_5_12, f_5_13, u_5_13, f_5_14, u_5_14, o_5, Option.toList_some, Option.toList_none, List.cons_append, List.nil_append, List.append_nil, ip_on_some, true_and, and_true, if_true, if_false, not_true_eq_false, not_false_eq_true, decide_true, true_or, or_true, or_self, Bool.false_eq_true]
theorem co_pfull : ip_WP 111 0 [some (.ref 5)] [] (g0, fld X y, I, J) b post px ↔ post (some (.int (bI (24 ≤ X 5 13)))) (g0, fld X y, I, J) := by
  simp only [s111_0, s111_1, s111_4, s111_6, s111_9, s111_10, s111_13, s111_14, f_5_0, f_5_1, f_5_2, f_5_3, f_5_4, f_5_5, f_5_6, f_5_7, f_5_8, f_5_9, f_5_10, f_5_11, f_5_12, f_5_13, u_5_13, f_5_14, u_5_14, o_5, Option.toList_some, Option.toList_none, List.cons_append, List.nil_append, List.append_nil, ip_on_some, true_and, and_true, if_true, if_false, not_true_eq_false, not_false_eq_true, decide_true, true_or, or_true, or_self, Bool.false_eq_true]
  by_cases h : (24 : Int32) ≤ X 5 13
  · have h' : ¬ X 5 13 < 24 := Int32.not_lt.mpr h
    simp [h, h', bI]
  · have h' : X 5 13 < 24 := Int32.not_le.mp h
    simp [h, h', bI]
theorem co_addP {u v : Int32} : ip_WP 112 0 [some (.ref 5), some (.int u), some (.int v)] [] (g0, fld X y, I, J) b post px ↔ post none (g0, fld (ip_up X 5 13 (X 5 13 + 1)) y, rset (rset I 23 24 (X 5 13) u) 25 24 (X 5 13) v, J) := by
  simp only [s112_0, s112_1, s112_4, s112_5, s112_8, s112_9, s112_12, s112_13, s112_16, s112_17, s112_20, s112_21, s112_24, s112_25, s112_26, s112_29, s112_30, s112_31, s112_34, f_5_0, f_5_1, f_5_2, f_5_3, f_5_4, f_5_5, f_5_6, f_5_7, f_5_8, f_5_9, f_5_10, f_5_11, f_5_12, f_5_13, u_5_13, f_5_14, u_5_14, f_22_0, f_22_1, f_24_0, f_24_1, o_5, o_22, o_24, rs_22, rs_24, Option.toList_some, Option.toList_none, List.cons_append, List.nil_append, List.append_nil, ip_on_some, true_and, and_true, if_true, if_false, not_true_eq_false, not_false_eq_true, decide_true, true_or, or_true, or_self, Bool.false_eq_true]
theorem co_hasP {u v : Int32} (ap : 0 ≤ X 5 13) (bp : X 5 13 ≤ 24) : ip_WP 113 0 [some (.ref 5), some (.int u), some (.int v), none] [] (g0, fld X y, I, J) b post px ↔ post (some (.int (bI (hasP I ((X 5 13).toNatClampNeg) u v = true)))) (g0, fld X y, I, J) := by
  have e := cn_eq ap
  have hl := cn_le (n := 24) ap bp (by decide)
  rw [s113_0, s113_1]
  refine (srchW (L := fun x => [some (.ref 5), some (.int u), some (.int v), some (.int x)]) (A := post (some (.int 1)) (g0, fld X y, I, J)) (B := post (some (.int 0)) (g0, fld X y, I, J)) (fun i => decide (I 23 i = u) && decide (I 25 i = v)) ((X 5 13).toNatClampNeg) (fun i hi => ?_) ?_).trans ?_
  · have c1 : ¬ X 5 13 ≤ nI i := by rw [e]; exact nI_ge hi (by omega)
    rw [s113_2]
    simp only [s113_0, s113_1, s113_3, s113_4, s113_7, s113_10, s113_11, s113_14, s113_15, s113_18, s113_19, s113_22, s113_23, s113_26, s113_27, s113_30, s113_31, s113_34, s113_35, s113_36, s113_39, s113_42, s113_43, f_5_0, f_5_1, f_5_2, f_5_3, f_5_4, f_5_5, f_5_6, f_5_7, f_5_8, f_5_9, f_5_10, f_5_11, f_5_12, f_5_13, u_5_13, f_5_14, u_5_14, f_22_0, f_22_1, f_24_0, f_24_1, o_5, o_22, o_24, rg_22, rg_24, c1, rget_nI (show i < 24 by omega) (by decide), nI_1, Option.toList_some, Option.toList_none, List.cons_append, List.nil_append, List.append_nil, ip_on_some, true_and, and_true, if_true, if_false, not_true_eq_false, not_false_eq_true, decide_true, true_or, or_true, or_self, Bool.false_eq_true]
    by_cases q1 : I 23 i = u
    · by_cases q2 : I 25 i = v
      · simp [q1, q2]
      · simp [q1, q2]
    · simp [q1]
  · have c1 : X 5 13 ≤ nI ((X 5 13).toNatClampNeg) := by rw [← e]; exact Int32.le_refl _
    rw [s113_2]
    simp only [s113_0, s113_1, s113_3, s113_4, s113_7, s113_10, s113_11, s113_14, s113_15, s113_18, s113_19, s113_22, s113_23, s113_26, s113_27, s113_30, s113_31, s113_34, s113_35, s113_36, s113_39, s113_42, s113_43, f_5_0, f_5_1, f_5_2, f_5_3, f_5_4, f_5_5, f_5_6, f_5_7, f_5_8, f_5_9, f_5_10, f_5_11, f_5_12, f_5_13, u_5_13, f_5_14, u_5_14, o_5, c1, Option.toList_some, Option.toList_none, List.cons_append, List.nil_append, List.append_nil, ip_on_some, true_and, and_true, if_true, if_false, not_true_eq_false, not_false_eq_true, decide_true, true_or, or_true, or_self, Bool.false_eq_true]
  · unfold bI hasP
    split <;> rfl
theorem co_pHas {k c : Int32} : ip_WP 114 0 [some (.ref 5), some (.int k), some (.int c)] [] (g0, fld X y, I, J) b post px ↔ post (some (.int (bI (bitP (rget (I 31) 8 0 k) c)))) (g0, fld X y, I, J) := by
  simp only [s114_0, s114_1, s114_4, s114_5, s114_8, s114_9, s114_10, s114_11, s114_12, s114_15, s114_16, s114_19, s114_20, f_5_0, f_5_1, f_5_2, f_5_3, f_5_4, f_5_5, f_5_6, f_5_7, f_5_8, f_5_9, f_5_10, f_5_11, f_5_12, f_5_13, u_5_13, f_5_14, u_5_14, f_30_0, f_30_1, o_5, o_30, rg_30, Option.toList_some, Option.toList_none, List.cons_append, List.nil_append, List.append_nil, ip_on_some, true_and, and_true, if_true, if_false, not_true_eq_false, not_false_eq_true, decide_true, true_or, or_true, or_self, Bool.false_eq_true]
  by_cases h : (rget (I 31) 8 0 k >>> (c &&& 31)) &&& 1 = 0
  · rw [if_pos h, bI_f (show ¬ bitP (rget (I 31) 8 0 k) c = true from fun q => bitP_iff.mp q h)]
  · rw [if_neg h, bI_t (show bitP (rget (I 31) 8 0 k) c = true from bitP_iff.mpr h)]
theorem co_addTo {k c : Int32} : ip_WP 115 0 [some (.ref 5), some (.int k), some (.int c)] [] (g0, fld X y, I, J) b post px ↔ post none (g0, fld X y, rset I 31 8 k (rget (I 31) 8 0 k ||| 1 <<< (c &&& 31)), J) := by
  simp only [s115_0, s115_1, s115_4, s115_5, s115_6, s115_9, s115_10, s115_13, s115_14, s115_15, s115_16, s115_17, s115_20, f_5_0, f_5_1, f_5_2, f_5_3, f_5_4, f_5_5, f_5_6, f_5_7, f_5_8, f_5_9, f_5_10, f_5_11, f_5_12, f_5_13, u_5_13, f_5_14, u_5_14, f_30_0, f_30_1, o_5, o_30, rg_30, rs_30, Option.toList_some, Option.toList_none, List.cons_append, List.nil_append, List.append_nil, ip_on_some, true_and, and_true, if_true, if_false, not_true_eq_false, not_false_eq_true, decide_true, true_or, or_true, or_self, Bool.false_eq_true]
theorem co_ports {c : Int32} (a12 : 0 ≤ X 12 1) (b12 : X 12 1 ≤ 8) : ip_WP 116 0 [some (.ref 5), some (.int c), none, none] [] (g0, fld X y, I, J) b post px ↔ post (some (.int (nI (prtN X I c)))) (g0, fld X y, I, J) := by
  have e := cn_eq a12
  have hl := cn_le (n := 8) a12 b12 (by decide)
  have key : ∀ m i f, i + m = (X 12 1).toNatClampNeg → (ip_WP 116 4 [some (.ref 5), some (.int c), some (.int (nI f)), some (.int (nI i))] [] (g0, fld X y, I, J) b post px ↔ post (some (.int (nI (f + cntF (fun i => bitP (I 31 i) c) m i)))) (g0, fld X y, I, J)) := by
    intro m
    induction m with
    | zero =>
      intro i f hi
      have c1 : X 12 1 ≤ nI i := by rw [e]; exact nI_le (by omega) (by omega)
      rw [s116_4]
      simp only [s116_0, s116_1, s116_2, s116_3, s116_5, s116_6, s116_9, s116_12, s116_15, s116_16, s116_17, s116_18, s116_21, s116_24, s116_27, s116_30, s116_33, s116_34, f_5_0, f_5_1, f_5_2, f_5_3, f_5_4, f_5_5, f_5_6, f_5_7, f_5_8, f_5_9, f_5_10, f_5_11, f_5_12, f_5_13, u_5_13, f_5_14, u_5_14, f_12_0, f_12_1, u_12_1, o_5, o_12, ns_12, c1, Option.toList_some, Option.toList_none, List.cons_append, List.nil_append, List.append_nil, ip_on_some, true_and, and_true, if_true, if_false, not_true_eq_false, not_false_eq_true, decide_true, true_or, or_true, or_self, Bool.false_eq_true, cntF, Nat.add_zero]
    | succ m ih =>
      intro i f hi
      have c1 : ¬ X 12 1 ≤ nI i := by rw [e]; exact nI_ge (by omega) (by omega)
      rw [s116_4]
      simp only [s116_0, s116_1, s116_2, s116_3, s116_5, s116_6, s116_9, s116_12, s116_15, s116_16, s116_17, s116_18, s116_21, s116_24, s116_27, s116_30, s116_33, s116_34, f_5_0, f_5_1, f_5_2, f_5_3, f_5_4, f_5_5, f_5_6, f_5_7, f_5_8, f_5_9, f_5_10, f_5_11, f_5_12, f_5_13, u_5_13, f_5_14, u_5_14, f_12_0, f_12_1, u_12_1, o_5, o_12, ns_12, co_pHas, c1, rget_nI (show i < 8 by omega) (by decide), bI_0, nI_1, Option.toList_some, Option.toList_none, List.cons_append, List.nil_append, List.append_nil, ip_on_some, true_and, and_true, if_true, if_false, not_true_eq_false, not_false_eq_true, decide_true, true_or, or_true, or_self, Bool.false_eq_true, cntF]
      by_cases q : bitP (I 31 i) c = true
      · simp only [q, not_true_eq_false, if_false, if_true]
        rw [ih (i + 1) (f + 1) (by omega), Nat.add_assoc]
      · simp only [q, Bool.false_eq_true, not_false_eq_true, if_true, if_false]
        rw [ih (i + 1) f (by omega), Nat.zero_add]
  have h := key ((X 12 1).toNatClampNeg) 0 0 (Nat.zero_add _)
  rw [nI_0, Nat.zero_add] at h
  simp only [s116_0, s116_1, s116_2, s116_3]
  exact h
theorem co_resA {s : Int32} (a6 : 0 ≤ X 6 1) (b6 : X 6 1 ≤ 12) : ip_WP 117 0 [some (.ref 5), some (.int s), none] [] (g0, fld X y, I, J) b post px ↔ post (some (.int (bI (resA X I s = true)))) (g0, fld X y, I, J) := by
  have e := cn_eq a6
  have hl := cn_le (n := 12) a6 b6 (by decide)
  rw [s117_0, s117_1]
  refine (srchW (L := fun x => [some (.ref 5), some (.int s), some (.int x)]) (A := post (some (.int 1)) (g0, fld X y, I, J)) (B := post (some (.int 0)) (g0, fld X y, I, J)) (fun i => decide (I 17 i = s)) ((X 6 1).toNatClampNeg) (fun i hi => ?_) ?_).trans ?_
  · have c1 : ¬ X 6 1 ≤ nI i := by rw [e]; exact nI_ge hi (by omega)
    rw [s117_2]
    simp only [s117_0, s117_1, s117_3, s117_4, s117_7, s117_10, s117_13, s117_14, s117_17, s117_18, s117_21, s117_22, s117_25, s117_26, s117_27, s117_30, s117_33, s117_34, f_5_0, f_5_1, f_5_2, f_5_3, f_5_4, f_5_5, f_5_6, f_5_7, f_5_8, f_5_9, f_5_10, f_5_11, f_5_12, f_5_13, u_5_13, f_5_14, u_5_14, f_6_0, f_6_1, u_6_1, f_16_0, f_16_1, o_5, o_6, o_16, ns_6, rg_16, c1, rget_nI (show i < 12 by omega) (by decide), nI_1, Option.toList_some, Option.toList_none, List.cons_append, List.nil_append, List.append_nil, ip_on_some, true_and, and_true, if_true, if_false, not_true_eq_false, not_false_eq_true, decide_true, true_or, or_true, or_self, Bool.false_eq_true]
    by_cases q1 : I 17 i = s
    · simp [q1]
    · simp [q1]
  · have c1 : X 6 1 ≤ nI ((X 6 1).toNatClampNeg) := by rw [← e]; exact Int32.le_refl _
    rw [s117_2]
    simp only [s117_0, s117_1, s117_3, s117_4, s117_7, s117_10, s117_13, s117_14, s117_17, s117_18, s117_21, s117_22, s117_25, s117_26, s117_27, s117_30, s117_33, s117_34, f_5_0, f_5_1, f_5_2, f_5_3, f_5_4, f_5_5, f_5_6, f_5_7, f_5_8, f_5_9, f_5_10, f_5_11, f_5_12, f_5_13, u_5_13, f_5_14, u_5_14, f_6_0, f_6_1, u_6_1, o_5, o_6, ns_6, c1, Option.toList_some, Option.toList_none, List.cons_append, List.nil_append, List.append_nil, ip_on_some, true_and, and_true, if_true, if_false, not_true_eq_false, not_false_eq_true, decide_true, true_or, or_true, or_self, Bool.false_eq_true]
  · unfold bI resA
    split <;> rfl
theorem co_idle {s : Int32} (a10 : 0 ≤ X 10 1) (b10 : X 10 1 ≤ 8) : ip_WP 118 0 [some (.ref 5), some (.int s), none] [] (g0, fld X y, I, J) b post px ↔ post (some (.int (bI (idle X I s)))) (g0, fld X y, I, J) := by
  have e := cn_eq a10
  have hl := cn_le (n := 8) a10 b10 (by decide)
  rw [s118_0, s118_1]
  refine (srchW (L := fun x => [some (.ref 5), some (.int s), some (.int x)]) (A := post (some (.int 0)) (g0, fld X y, I, J)) (B := ip_WP 118 27 [some (.ref 5), some (.int s), some (.int 0)] [] (g0, fld X y, I, J) b post px) (fun i => decide (I 21 i = s)) 7 (fun i hi => ?_) ?_).trans ?_
  · have c1 : ¬ (7 : Int32) ≤ nI i := nI_ge (b := 7) hi (by decide)
    rw [s118_2]
    simp only [s118_0, s118_1, s118_3, s118_5, s118_8, s118_9, s118_10, s118_11, s118_14, s118_17, s118_18, s118_19, s118_22, s118_25, s118_26, s118_28, s118_29, s118_32, s118_35, s118_38, s118_39, s118_42, s118_43, s118_46, s118_47, s118_50, s118_51, s118_52, s118_55, s118_58, s118_59, f_5_0, f_5_1, f_5_2, f_5_3, f_5_4, f_5_5, f_5_6, f_5_7, f_5_8, f_5_9, f_5_10, f_5_11, f_5_12, f_5_13, u_5_13, f_5_14, u_5_14, f_20_0, f_20_1, o_5, o_20, co_does, c1, rget_nI (show i < 7 by omega) (by decide), nI_1, bI_0, Option.toList_some, Option.toList_none, List.cons_append, List.nil_append, List.append_nil, ip_on_some, true_and, and_true, if_true, if_false, not_true_eq_false, not_false_eq_true, decide_true, true_or, or_true, or_self, Bool.false_eq_true]
    by_cases q1 : I 21 i = s
    · simp [q1]
    · simp [q1]
  · have c1 : (7 : Int32) ≤ nI 7 := by decide
    rw [s118_2]
    simp only [s118_0, s118_1, s118_3, s118_5, s118_8, s118_9, s118_10, s118_11, s118_14, s118_17, s118_18, s118_19, s118_22, s118_25, s118_26, s118_28, s118_29, s118_32, s118_35, s118_38, s118_39, s118_42, s118_43, s118_46, s118_47, s118_50, s118_51, s118_52, s118_55, s118_58, s118_59, f_5_0, f_5_1, f_5_2, f_5_3, f_5_4, f_5_5, f_5_6, f_5_7, f_5_8, f_5_9, f_5_10, f_5_11, f_5_12, f_5_13, u_5_13, f_5_14, u_5_14, o_5, c1, Option.toList_some, Option.toList_none, List.cons_append, List.nil_append, List.append_nil, ip_on_some, true_and, and_true, if_true, if_false, not_true_eq_false, not_false_eq_true, decide_true, true_or, or_true, or_self, Bool.false_eq_true]
  · have h2 := srchW (mi := 118) (pc := 27) (h := (g0, fld X y, I, J)) (b := b) (post := post) (px := px) (L := fun x => [some (.ref 5), some (.int s), some (.int x)]) (A := post (some (.int 0)) (g0, fld X y, I, J)) (B := post (some (.int 1)) (g0, fld X y, I, J)) (fun i => decide (I 29 i = s)) ((X 10 1).toNatClampNeg) (fun i hi => by
      have c1 : ¬ X 10 1 ≤ nI i := by rw [e]; exact nI_ge hi (by omega)
      rw [s118_27]
      simp only [s118_0, s118_1, s118_3, s118_5, s118_8, s118_9, s118_10, s118_11, s118_14, s118_17, s118_18, s118_19, s118_22, s118_25, s118_26, s118_28, s118_29, s118_32, s118_35, s118_38, s118_39, s118_42, s118_43, s118_46, s118_47, s118_50, s118_51, s118_52, s118_55, s118_58, s118_59, f_5_0, f_5_1, f_5_2, f_5_3, f_5_4, f_5_5, f_5_6, f_5_7, f_5_8, f_5_9, f_5_10, f_5_11, f_5_12, f_5_13, u_5_13, f_5_14, u_5_14, f_10_0, f_10_1, u_10_1, f_28_0, f_28_1, o_5, o_10, o_28, ns_10, rg_28, c1, rget_nI (show i < 8 by omega) (by decide), nI_1, Option.toList_some, Option.toList_none, List.cons_append, List.nil_append, List.append_nil, ip_on_some, true_and, and_true, if_true, if_false, not_true_eq_false, not_false_eq_true, decide_true, true_or, or_true, or_self, Bool.false_eq_true]
      by_cases q1 : I 29 i = s
      · simp [q1]
      · simp [q1]) (by
      have c1 : X 10 1 ≤ nI ((X 10 1).toNatClampNeg) := by rw [← e]; exact Int32.le_refl _
      rw [s118_27]
      simp only [s118_0, s118_1, s118_3, s118_5, s118_8, s118_9, s118_10, s118_11, s118_14, s118_17, s118_18, s118_19, s118_22, s118_25, s118_26, s118_28, s118_29, s118_32, s118_35, s118_38, s118_39, s118_42, s118_43, s118_46, s118_47, s118_50, s118_51, s118_52, s118_55, s118_58, s118_59, f_5_0, f_5_1, f_5_2, f_5_3, f_5_4, f_5_5, f_5_6, f_5_7, f_5_8, f_5_9, f_5_10, f_5_11, f_5_12, f_5_13, u_5_13, f_5_14, u_5_14, f_10_0, f_10_1, u_10_1, o_5, o_10, ns_10, c1, Option.toList_some, Option.toList_none, List.cons_append, List.nil_append, List.append_nil, ip_on_some, true_and, and_true, if_true, if_false, not_true_eq_false, not_false_eq_true, decide_true, true_or, or_true, or_self, Bool.false_eq_true])
    rw [h2]
    unfold bI idle
    cases q1 : anyF (fun i => decide (I 21 i = s)) 7 0 <;> cases q2 : anyF (fun i => decide (I 29 i = s)) ((X 10 1).toNatClampNeg) 0 <;> simp
/-- the rows emptied -/
def coI (I : Nat → Nat → Int32) : Nat → Nat → Int32 := rclr (rclr (rclr (rclr (rclr (rclr (rclr (rclr (rclr I 15 0 12 (-1)) 17 0 12 (-1)) 19 0 12 0) 21 0 7 (-1)) 23 0 24 (-1)) 25 0 24 (-1)) 27 0 8 (-1)) 29 0 8 (-1)) 31 0 8 0
def coX (X : Nat → Nat → Int32) : Nat → Nat → Int32 := ip_up (ip_up (ip_up (ip_up (ip_up (ip_up X 6 1 0) 8 1 0) 10 1 0) 12 1 0) 5 13 0) 5 14 0
theorem co_clear : ip_WP 103 0 [some (.ref 5)] [] (g0, fld X y, I, J) b post px ↔ post none (g0, fld (coX X) y, coI I, J) := by
  simp only [s103_0, s103_1, s103_4, s103_7, s103_8, s103_11, s103_14, s103_15, s103_18, s103_21, s103_22, s103_25, s103_28, s103_29, s103_32, s103_35, s103_36, s103_39, s103_42, s103_43, s103_46, s103_49, s103_50, s103_53, s103_56, s103_57, s103_60, s103_63, s103_64, s103_67, s103_70, s103_71, s103_74, s103_77, s103_78, s103_81, s103_84, s103_85, s103_88, s103_91, s103_92, s103_93, s103_96, s103_97, s103_98, s103_101, f_5_0, f_5_1, f_5_2, f_5_3, f_5_4, f_5_5, f_5_6, f_5_7, f_5_8, f_5_9, f_5_10, f_5_11, f_5_12, f_5_13, u_5_13, f_5_14, u_5_14, f_6_0, f_6_1, u_6_1, f_8_0, f_8_1, u_8_1, f_10_0, f_10_1, u_10_1, f_12_0, f_12_1, u_12_1, f_14_0, f_14_1, f_16_0, f_16_1, f_18_0, f_18_1, f_20_0, f_20_1, f_22_0, f_22_1, f_24_0, f_24_1, f_26_0, f_26_1, f_28_0, f_28_1, f_30_0, f_30_1, o_5, o_6, o_8, o_10, o_12, o_14, o_16, o_18, o_20, o_22, o_24, o_26, o_28, o_30, nc_6, nc_8, nc_10, nc_12, rc_14, rc_16, rc_18, rc_20, rc_22, rc_24, rc_26, rc_28, rc_30, Option.toList_some, Option.toList_none, List.cons_append, List.nil_append, List.append_nil, ip_on_some, true_and, and_true, if_true, if_false, not_true_eq_false, not_false_eq_true, decide_true, true_or, or_true, or_self, Bool.false_eq_true]
  exact Iff.rfl
end
