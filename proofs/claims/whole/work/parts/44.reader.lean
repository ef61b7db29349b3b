/-! CoreText$Reader at its cells, as functions: (answer, X, I, J) -/
abbrev RS : Type := Int32 × (Nat → Nat → Int32) × (Nat → Nat → Int32) × (Nat → Nat → Int64)
section
variable (X : Nat → Nat → Int32) (y : Int64) (I : Nat → Nat → Int32) (J : Nat → Nat → Int64)
def rSign (c : Int32) : RS := if X 33 3 = c then (0, X, I, J) else (2, X, I, J)
def rClose : RS := if X 33 3 = 59 then (0, ip_up (ip_up X 5 14 (X 5 14 + 1)) 32 5 (-1), I, J) else (2, X, I, J)
def rComma (e : Int32) : RS := if X 33 3 = 44 then (0, ip_up X 32 6 e, I, J) else rClose X I J
def rWord (w : Int32) : RS := if X 33 3 = w then (0, X, I, J) else rClose X I J
def rNew (c : Nat) (m : Int32) : RS := if X 33 3 = 2 then (if m ≤ X c 1 then (3, X, I, J) else if told X J y then (4, X, I, J) else (0, ip_up (ip_up X c 1 (X c 1 + 1)) 32 7 (X c 1), I, ip_up J (c + 1) ((X c 1).toNatClampNeg) y)) else (2, X, I, J)
def rOld (c : Nat) : RS := if X 33 3 = 2 then (if nfi (J (c + 1)) y ((X c 1).toNatClampNeg) 0 = -1 then (if told X J y then (6, ip_up X 32 8 (nfi (J (c + 1)) y ((X c 1).toNatClampNeg) 0), I, J) else (5, ip_up X 32 8 (nfi (J (c + 1)) y ((X c 1).toNatClampNeg) 0), I, J)) else (0, ip_up X 32 8 (nfi (J (c + 1)) y ((X c 1).toNatClampNeg) 0), I, J)) else (2, X, I, J)
def rTask : RS := if X 33 3 - 266 < 0 ∨ 7 ≤ X 33 3 - 266 then (2, X, I, J) else if rget (I 21) 7 (-1) (X 33 3 - 266) = -1 then (0, X, rset I 21 7 (X 33 3 - 266) (X 32 7), J) else (7, X, I, J)
def rWout (a : Nat) : RS := if (rOld X y I J 6).1 = 0 then (if rget (I a) 12 (-1) ((rOld X y I J 6).2.1 32 8) = -1 then (0, ip_up (rOld X y I J 6).2.1 32 7 ((rOld X y I J 6).2.1 32 8), I, J) else (7, ip_up (rOld X y I J 6).2.1 32 7 ((rOld X y I J 6).2.1 32 8), I, J)) else rOld X y I J 6
def rNum (a n : Nat) (most : Int32) : RS := if X 33 3 = 3 then (if X 33 6 < 1 ∨ most < X 33 6 then (8, X, I, J) else (0, X, rset I a n (X 32 7) (X 33 6), J)) else (2, X, I, J)
def rStg (a n : Nat) : RS := if (rOld X y I J 8).1 = 0 then (0, (rOld X y I J 8).2.1, rset I a n ((rOld X y I J 8).2.1 32 7) ((rOld X y I J 8).2.1 32 8), J) else rOld X y I J 8
def rPS : RS := ((rOld X y I J 8).1, ip_up (rOld X y I J 8).2.1 32 7 ((rOld X y I J 8).2.1 32 8), I, J)
def rPE : RS := if X 33 3 = 2 ∧ 24 ≤ X 5 13 then (3, X, I, J) else if (rOld X y I J 8).1 = 0 then (if hasP I (((rOld X y I J 8).2.1 5 13).toNatClampNeg) ((rOld X y I J 8).2.1 32 7) ((rOld X y I J 8).2.1 32 8) = true then (7, (rOld X y I J 8).2.1, I, J) else (0, ip_up (rOld X y I J 8).2.1 5 13 ((rOld X y I J 8).2.1 5 13 + 1), rset (rset I 23 24 ((rOld X y I J 8).2.1 5 13) ((rOld X y I J 8).2.1 32 7)) 25 24 ((rOld X y I J 8).2.1 5 13) ((rOld X y I J 8).2.1 32 8), J)) else rOld X y I J 8
def rStall : RS := if (rOld X y I J 6).1 = 0 then (if rget (I 19) 12 0 ((rOld X y I J 6).2.1 32 8) = 0 then (0, (rOld X y I J 6).2.1, rset I 19 12 ((rOld X y I J 6).2.1 32 8) 1, J) else (7, (rOld X y I J 6).2.1, I, J)) else rOld X y I J 6
def rPrt : RS := if (rOld X y I J 6).1 = 0 then (if bitP (rget (I 31) 8 0 ((rOld X y I J 6).2.1 32 7)) ((rOld X y I J 6).2.1 32 8) then (7, (rOld X y I J 6).2.1, I, J) else (0, (rOld X y I J 6).2.1, rset I 31 8 ((rOld X y I J 6).2.1 32 7) (rget (I 31) 8 0 ((rOld X y I J 6).2.1 32 7) ||| 1 <<< ((rOld X y I J 6).2.1 32 8 &&& 31)), J)) else rOld X y I J 6
def pClass (p : Int32) : RS := if p = 0 then rNew X y I J 6 12 else rComma X I J 0
def pStage (p : Int32) : RS := if p = 0 then rNew X y I J 8 12 else if p = 1 then rWord X I J 258 else if p = 2 then rTask X I J else rComma X I J 2
def pLat (p : Int32) : RS := if p = 0 then rWout X y I J 15 else if p = 1 then rSign X I J 61 else if p = 2 then rNum X I J 15 12 99 else rClose X I J
def pRes (p : Int32) : RS := if p = 0 then rWout X y I J 17 else if p = 1 then rSign X I J 62 else if p = 2 then rStg X y I J 17 12 else rClose X I J
def pPath (p : Int32) : RS := if p = 0 then rPS X y I J else if p = 1 then rSign X I J 62 else if p = 2 then rPE X y I J else rClose X I J
def pStall (p : Int32) : RS := if p = 0 then rStall X y I J else rComma X I J 0
def pQue (p : Int32) : RS := if p = 0 then rNew X y I J 10 8 else if p = 1 then rSign X I J 61 else if p = 2 then rNum X I J 27 8 999 else if p = 3 then rWord X I J 264 else if p = 4 then rStg X y I J 29 8 else rClose X I J
def pPort (p : Int32) : RS := if p = 0 then rNew X y I J 12 8 else if p = 1 then rSign X I J 58 else if p = 2 then rPrt X y I J else rComma X I J 2
def rOpen : RS := if X 33 3 = 256 ∨ X 33 3 = 257 ∨ X 33 3 = 259 ∨ X 33 3 = 260 ∨ X 33 3 = 261 ∨ X 33 3 = 262 ∨ X 33 3 = 263 ∨ X 33 3 = 265 then (0, ip_up (ip_up X 32 5 (X 33 3)) 32 6 0, I, J) else (2, X, I, J)
/-- behind the part's number -/
def rPart (st p : Int32) : RS := if st = 256 then pClass X y I J p else if st = 257 then pStage X y I J p else if st = 259 then pLat X y I J p else if st = 260 then pRes X y I J p else if st = 261 then pPath X y I J p else if st = 262 then pStall X y I J p else if st = 263 then pQue X y I J p else if st = 265 then pPort X y I J p else rOpen X I J
def rTake : RS := if X 33 3 = 0 then (1, X, I, J) else rPart (ip_up X 32 6 (X 32 6 + 1)) y I J (X 32 5) (X 32 6)
end
theorem Bd.u32 {X : Nat → Nat → Int32} (h : Bd X) (j : Nat) (v : Int32) : Bd (ip_up X 32 j v) := by
  and_intros <;> simp only [up1, Nat.reduceEqDiff, if_false, h.a1, h.b1, h.a3, h.b3, h.a6, h.b6, h.a8, h.b8, h.a10, h.b10, h.a12, h.b12, h.ap, h.bp]
theorem rOld_Bd {X : Nat → Nat → Int32} {y : Int64} {I : Nat → Nat → Int32} {J : Nat → Nat → Int64} {c : Nat} (h : Bd X) : Bd (rOld X y I J c).2.1 := by
  unfold rOld
  split
  · split
    · split <;> exact h.u32 _ _
    · exact h.u32 _ _
  · exact h
theorem rOld_I {X : Nat → Nat → Int32} {y : Int64} {I : Nat → Nat → Int32} {J : Nat → Nat → Int64} {c : Nat} : (rOld X y I J c).2.2 = (I, J) := by
  unfold rOld
  split
  · split
    · split <;> rfl
    · rfl
  · rfl
section
variable {X : Nat → Nat → Int32} {y : Int64} {I : Nat → Nat → Int32} {J : Nat → Nat → Int64} {b : ip_B} {post : Option Value → ip_H → Prop} {px : String → ip_H → Prop}
theorem rd_fn : ip_WP 161 0 [some (.ref 32)] [] (g0, fld X y, I, J) b post px ↔ post (some (.int (X 32 3))) (g0, fld X y, I, J) := by
  simp only [s161_0, s161_1, s161_4, f_32_0, f_32_1, f_32_2, f_32_3, u_32_3, f_32_4, u_32_4, f_32_5, u_32_5, f_32_6, u_32_6, f_32_7, u_32_7, f_32_8, u_32_8, o_32, Option.toList_some, Option.toList_none, List.cons_append, List.nil_append, List.append_nil, ip_on_some, true_and, and_true, if_true, if_false, not_true_eq_false, not_false_eq_true, decide_true, true_or, or_true, or_self, Bool.false_eq_true]
theorem rd_fp : ip_WP 162 0 [some (.ref 32)] [] (g0, fld X y, I, J) b post px ↔ post (some (.int (X 32 4))) (g0, fld X y, I, J) := by
  simp only [s162_0, s162_1, s162_4, f_32_0, f_32_1, f_32_2, f_32_3, u_32_3, f_32_4, u_32_4, f_32_5, u_32_5, f_32_6, u_32_6, f_32_7, u_32_7, f_32_8, u_32_8, o_32, Option.toList_some, Option.toList_none, List.cons_append, List.nil_append, List.append_nil, ip_on_some, true_and, and_true, if_true, if_false, not_true_eq_false, not_false_eq_true, decide_true, true_or, or_true, or_self, Bool.false_eq_true]
theorem rd_sign {c : Int32} : ip_WP 175 0 [some (.ref 32), some (.int c)] [] (g0, fld X y, I, J) b post px ↔ post (some (.int (rSign X I J c).1)) (g0, fld (rSign X I J c).2.1 y, (rSign X I J c).2.2.1, (rSign X I J c).2.2.2) := by
  simp only [s175_0, s175_1, s175_4, s175_7, s175_8, s175_11, s175_12, s175_15, s175_16, f_32_0, f_32_1, f_32_2, f_32_3, u_32_3, f_32_4, u_32_4, f_32_5, u_32_5, f_32_6, u_32_6, f_32_7, u_32_7, f_32_8, u_32_8, f_33_0, f_33_1, f_33_2, u_33_2, f_33_3, u_33_3, f_33_4, u_33_4, f_33_5, u_33_5, f_33_6, u_33_6, o_32, o_33, lx_kind, Option.toList_some, Option.toList_none, List.cons_append, List.nil_append, List.append_nil, ip_on_some, true_and, and_true, if_true, if_false, not_true_eq_false, not_false_eq_true, decide_true, true_or, or_true, or_self, Bool.false_eq_true]
  unfold rSign
  by_cases h : X 33 3 = c
  · simp [h]
  · simp [h]
theorem rd_close : ip_WP 176 0 [some (.ref 32)] [] (g0, fld X y, I, J) b post px ↔ post (some (.int (rClose X I J).1)) (g0, fld (rClose X I J).2.1 y, (rClose X I J).2.2.1, (rClose X I J).2.2.2) := by
  simp only [s176_0, s176_1, s176_4, s176_7, s176_9, s176_12, s176_13, s176_14, s176_15, s176_18, s176_21, s176_22, s176_23, s176_26, s176_27, f_5_0, f_5_1, f_5_2, f_5_3, f_5_4, f_5_5, f_5_6, f_5_7, f_5_8, f_5_9, f_5_10, f_5_11, f_5_12, f_5_13, u_5_13, f_5_14, u_5_14, f_32_0, f_32_1, f_32_2, f_32_3, u_32_3, f_32_4, u_32_4, f_32_5, u_32_5, f_32_6, u_32_6, f_32_7, u_32_7, f_32_8, u_32_8, f_33_0, f_33_1, f_33_2, u_33_2, f_33_3, u_33_3, f_33_4, u_33_4, f_33_5, u_33_5, f_33_6, u_33_6, o_5, o_32, o_33, lx_kind, co_addS, Option.toList_some, Option.toList_none, List.cons_append, List.nil_append, List.append_nil, ip_on_some, true_and, and_true, if_true, if_false, not_true_eq_false, not_false_eq_true, decide_true, true_or, or_true, or_self, Bool.false_eq_true]
  unfold rClose
  by_cases h : X 33 3 = 59
  · simp [h]
  · simp [h]
theorem rd_comma {e : Int32} : ip_WP 177 0 [some (.ref 32), some (.int e)] [] (g0, fld X y, I, J) b post px ↔ post (some (.int (rComma X I J e).1)) (g0, fld (rComma X I J e).2.1 y, (rComma X I J e).2.2.1, (rComma X I J e).2.2.2) := by
  simp only [s177_0, s177_1, s177_4, s177_7, s177_9, s177_12, s177_13, s177_16, s177_17, s177_18, s177_19, s177_22, s177_23, f_32_0, f_32_1, f_32_2, f_32_3, u_32_3, f_32_4, u_32_4, f_32_5, u_32_5, f_32_6, u_32_6, f_32_7, u_32_7, f_32_8, u_32_8, f_33_0, f_33_1, f_33_2, u_33_2, f_33_3, u_33_3, f_33_4, u_33_4, f_33_5, u_33_5, f_33_6, u_33_6, o_32, o_33, lx_kind, rd_close, Option.toList_some, Option.toList_none, List.cons_append, List.nil_append, List.append_nil, ip_on_some, true_and, and_true, if_true, if_false, not_true_eq_false, not_false_eq_true, decide_true, true_or, or_true, or_self, Bool.false_eq_true]
  unfold rComma
  by_cases h : X 33 3 = 44
  · simp [h]
  · simp [h]
theorem rd_word {w : Int32} : ip_WP 178 0 [some (.ref 32), some (.int w)] [] (g0, fld X y, I, J) b post px ↔ post (some (.int (rWord X I J w).1)) (g0, fld (rWord X I J w).2.1 y, (rWord X I J w).2.2.1, (rWord X I J w).2.2.2) := by
  simp only [s178_0, s178_1, s178_4, s178_7, s178_8, s178_11, s178_12, s178_15, s178_16, s178_19, f_32_0, f_32_1, f_32_2, f_32_3, u_32_3, f_32_4, u_32_4, f_32_5, u_32_5, f_32_6, u_32_6, f_32_7, u_32_7, f_32_8, u_32_8, f_33_0, f_33_1, f_33_2, u_33_2, f_33_3, u_33_3, f_33_4, u_33_4, f_33_5, u_33_5, f_33_6, u_33_6, o_32, o_33, lx_kind, rd_close, Option.toList_some, Option.toList_none, List.cons_append, List.nil_append, List.append_nil, ip_on_some, true_and, and_true, if_true, if_false, not_true_eq_false, not_false_eq_true, decide_true, true_or, or_true, or_self, Bool.false_eq_true]
  unfold rWord
  by_cases h : X 33 3 = w
  · simp [h]
  · simp [h]
theorem rd_new6 (h : Bd X) : ip_WP 179 0 [some (.ref 32), some (.ref 6)] [] (g0, fld X y, I, J) b post px ↔ post (some (.int (rNew X y I J 6 12).1)) (g0, fld (rNew X y I J 6 12).2.1 y, (rNew X y I J 6 12).2.2.1, (rNew X y I J 6 12).2.2.2) := by
  simp only [s179_0, s179_1, s179_4, s179_7, s179_8, s179_11, s179_12, s179_13, s179_14, s179_17, s179_20, s179_21, s179_22, s179_23, s179_26, s179_27, s179_30, s179_33, s179_36, s179_39, s179_40, s179_41, s179_42, s179_43, s179_44, s179_47, s179_50, s179_53, s179_56, s179_57, f_5_0, f_5_1, f_5_2, f_5_3, f_5_4, f_5_5, f_5_6, f_5_7, f_5_8, f_5_9, f_5_10, f_5_11, f_5_12, f_5_13, u_5_13, f_5_14, u_5_14, f_6_0, f_6_1, u_6_1, f_32_0, f_32_1, f_32_2, f_32_3, u_32_3, f_32_4, u_32_4, f_32_5, u_32_5, f_32_6, u_32_6, f_32_7, u_32_7, f_32_8, u_32_8, f_33_0, f_33_1, f_33_2, u_33_2, f_33_3, u_33_3, f_33_4, u_33_4, f_33_5, u_33_5, f_33_6, u_33_6, o_5, o_6, o_32, o_33, lx_kind, lx_key, nF_6, co_told h.a6 h.b6 h.a8 h.b8 h.a10 h.b10 h.a12 h.b12, na_6 h.a6 h.b6, bI_0, Option.toList_some, Option.toList_none, List.cons_append, List.nil_append, List.append_nil, ip_on_some, true_and, and_true, if_true, if_false, not_true_eq_false, not_false_eq_true, decide_true, true_or, or_true, or_self, Bool.false_eq_true]
  unfold rNew
  by_cases c1 : X 33 3 = 2
  · by_cases c2 : (12 : Int32) ≤ X 6 1
    · simp [c1, c2]
    · have c3 : X 6 1 < 12 := Int32.not_le.mp c2
      by_cases c4 : told X J y
      · simp [c1, c2, c4]
      · simp [c1, c2, c3, c4, f_32_0, f_32_1, f_32_2, f_32_3, u_32_3, f_32_4, u_32_4, f_32_5, u_32_5, f_32_6, u_32_6, f_32_7, u_32_7, f_32_8, u_32_8, o_32]
  · simp [c1]
theorem rd_new8 (h : Bd X) : ip_WP 179 0 [some (.ref 32), some (.ref 8)] [] (g0, fld X y, I, J) b post px ↔ post (some (.int (rNew X y I J 8 12).1)) (g0, fld (rNew X y I J 8 12).2.1 y, (rNew X y I J 8 12).2.2.1, (rNew X y I J 8 12).2.2.2) := by
  simp only [s179_0, s179_1, s179_4, s179_7, s179_8, s179_11, s179_12, s179_13, s179_14, s179_17, s179_20, s179_21, s179_22, s179_23, s179_26, s179_27, s179_30, s179_33, s179_36, s179_39, s179_40, s179_41, s179_42, s179_43, s179_44, s179_47, s179_50, s179_53, s179_56, s179_57, f_5_0, f_5_1, f_5_2, f_5_3, f_5_4, f_5_5, f_5_6, f_5_7, f_5_8, f_5_9, f_5_10, f_5_11, f_5_12, f_5_13, u_5_13, f_5_14, u_5_14, f_8_0, f_8_1, u_8_1, f_32_0, f_32_1, f_32_2, f_32_3, u_32_3, f_32_4, u_32_4, f_32_5, u_32_5, f_32_6, u_32_6, f_32_7, u_32_7, f_32_8, u_32_8, f_33_0, f_33_1, f_33_2, u_33_2, f_33_3, u_33_3, f_33_4, u_33_4, f_33_5, u_33_5, f_33_6, u_33_6, o_5, o_8, o_32, o_33, lx_kind, lx_key, nF_8, co_told h.a6 h.b6 h.a8 h.b8 h.a10 h.b10 h.a12 h.b12, na_8 h.a8 h.b8, bI_0, Option.toList_some, Option.toList_none, List.cons_append, List.nil_append, List.append_nil, ip_on_some, true_and, and_true, if_true, if_false, not_true_eq_false, not_false_eq_true, decide_true, true_or, or_true, or_self, Bool.false_eq_true]
  unfold rNew
  by_cases c1 : X 33 3 = 2
  · by_cases c2 : (12 : Int32) ≤ X 8 1
    · simp [c1, c2]
    · have c3 : X 8 1 < 12 := Int32.not_le.mp c2
      by_cases c4 : told X J y
      · simp [c1, c2, c4]
      · simp [c1, c2, c3, c4, f_32_0, f_32_1, f_32_2, f_32_3, u_32_3, f_32_4, u_32_4, f_32_5, u_32_5, f_32_6, u_32_6, f_32_7, u_32_7, f_32_8, u_32_8, o_32]
  · simp [c1]
theorem rd_new10 (h : Bd X) : ip_WP 179 0 [some (.ref 32), some (.ref 10)] [] (g0, fld X y, I, J) b post px ↔ post (some (.int (rNew X y I J 10 8).1)) (g0, fld (rNew X y I J 10 8).2.1 y, (rNew X y I J 10 8).2.2.1, (rNew X y I J 10 8).2.2.2) := by
  simp only [s179_0, s179_1, s179_4, s179_7, s179_8, s179_11, s179_12, s179_13, s179_14, s179_17, s179_20, s179_21, s179_22, s179_23, s179_26, s179_27, s179_30, s179_33, s179_36, s179_39, s179_40, s179_41, s179_42, s179_43, s179_44, s179_47, s179_50, s179_53, s179_56, s179_57, f_5_0, f_5_1, f_5_2, f_5_3, f_5_4, f_5_5, f_5_6, f_5_7, f_5_8, f_5_9, f_5_10, f_5_11, f_5_12, f_5_13, u_5_13, f_5_14, u_5_14, f_10_0, f_10_1, u_10_1, f_32_0, f_32_1, f_32_2, f_32_3, u_32_3, f_32_4, u_32_4, f_32_5, u_32_5, f_32_6, u_32_6, f_32_7, u_32_7, f_32_8, u_32_8, f_33_0, f_33_1, f_33_2, u_33_2, f_33_3, u_33_3, f_33_4, u_33_4, f_33_5, u_33_5, f_33_6, u_33_6, o_5, o_10, o_32, o_33, lx_kind, lx_key, nF_10, co_told h.a6 h.b6 h.a8 h.b8 h.a10 h.b10 h.a12 h.b12, na_10 h.a10 h.b10, bI_0, Option.toList_some, Option.toList_none, List.cons_append, List.nil_append, List.append_nil, ip_on_some, true_and, and_true, if_true, if_false, not_true_eq_false, not_false_eq_true, decide_true, true_or, or_true, or_self, Bool.false_eq_true]
  unfold rNew
  by_cases c1 : X 33 3 = 2
  · by_cases c2 : (8 : Int32) ≤ X 10 1
    · simp [c1, c2]
    · have c3 : X 10 1 < 8 := Int32.not_le.mp c2
      by_cases c4 : told X J y
      · simp [c1, c2, c4]
      · simp [c1, c2, c3, c4, f_32_0, f_32_1, f_32_2, f_32_3, u_32_3, f_32_4, u_32_4, f_32_5, u_32_5, f_32_6, u_32_6, f_32_7, u_32_7, f_32_8, u_32_8, o_32]
  · simp [c1]
theorem rd_new12 (h : Bd X) : ip_WP 179 0 [some (.ref 32), some (.ref 12)] [] (g0, fld X y, I, J) b post px ↔ post (some (.int (rNew X y I J 12 8).1)) (g0, fld (rNew X y I J 12 8).2.1 y, (rNew X y I J 12 8).2.2.1, (rNew X y I J 12 8).2.2.2) := by
  simp only [s179_0, s179_1, s179_4, s179_7, s179_8, s179_11, s179_12, s179_13, s179_14, s179_17, s179_20, s179_21, s179_22, s179_23, s179_26, s179_27, s179_30, s179_33, s179_36, s179_39, s179_40, s179_41, s179_42, s179_43, s179_44, s179_47, s179_50, s179_53, s179_56, s179_57, f_5_0, f_5_1, f_5_2, f_5_3, f_5_4, f_5_5, f_5_6, f_5_7, f_5_8, f_5_9, f_5_10, f_5_11, f_5_12, f_5_13, u_5_13, f_5_14, u_5_14, f_12_0, f_12_1, u_12_1, f_32_0, f_32_1, f_32_2, f_32_3, u_32_3, f_32_4, u_32_4, f_32_5, u_32_5, f_32_6, u_32_6, f_32_7, u_32_7, f_32_8, u_32_8, f_33_0, f_33_1, f_33_2, u_33_2, f_33_3, u_33_3, f_33_4, u_33_4, f_33_5, u_33_5, f_33_6, u_33_6, o_5, o_12, o_32, o_33, lx_kind, lx_key, nF_12, co_told h.a6 h.b6 h.a8 h.b8 h.a10 h.b10 h.a12 h.b12, na_12 h.a12 h.b12, bI_0, Option.toList_some, Option.toList_none, List.cons_append, List.nil_append, List.append_nil, ip_on_some, true_and, and_true, if_true, if_false, not_true_eq_false, not_false_eq_true, decide_true, true_or, or_true, or_self, Bool.false_eq_true]
  unfold rNew
  by_cases c1 : X 33 3 = 2
  · by_cases c2 : (8 : Int32) ≤ X 12 1
    · simp [c1, c2]
    · have c3 : X 12 1 < 8 := Int32.not_le.mp c2
      by_cases c4 : told X J y
      · simp [c1, c2, c4]
      · simp [c1, c2, c3, c4, f_32_0, f_32_1, f_32_2, f_32_3, u_32_3, f_32_4, u_32_4, f_32_5, u_32_5, f_32_6, u_32_6, f_32_7, u_32_7, f_32_8, u_32_8, o_32]
  · simp [c1]
theorem rd_old6 (h : Bd X) : ip_WP 180 0 [some (.ref 32), some (.ref 6)] [] (g0, fld X y, I, J) b post px ↔ post (some (.int (rOld X y I J 6).1)) (g0, fld (rOld X y I J 6).2.1 y, (rOld X y I J 6).2.2.1, (rOld X y I J 6).2.2.2) := by
  have ht := fun (v : Int32) (b : ip_B) (post : Option Value → ip_H → Prop) (px : String → ip_H → Prop) => co_told (X := ip_up X 32 8 v) (y := y) (I := I) (J := J) (b := b) (post := post) (px := px) (key := y) (h.u32 8 v).a6 (h.u32 8 v).b6 (h.u32 8 v).a8 (h.u32 8 v).b8 (h.u32 8 v).a10 (h.u32 8 v).b10 (h.u32 8 v).a12 (h.u32 8 v).b12
  have hq : ∀ v : Int32, told (ip_up X 32 8 v) J y = told X J y := fun v => by simp only [told, up1, Nat.reduceEqDiff, if_false]
  simp only [s180_0, s180_1, s180_4, s180_7, s180_8, s180_11, s180_12, s180_13, s180_14, s180_15, s180_16, s180_19, s180_22, s180_25, s180_28, s180_29, s180_32, s180_33, s180_36, s180_37, s180_38, s180_39, s180_42, s180_43, s180_46, s180_49, s180_52, s180_55, s180_57, s180_60, s180_61, f_5_0, f_5_1, f_5_2, f_5_3, f_5_4, f_5_5, f_5_6, f_5_7, f_5_8, f_5_9, f_5_10, f_5_11, f_5_12, f_5_13, u_5_13, f_5_14, u_5_14, f_6_0, f_6_1, u_6_1, f_32_0, f_32_1, f_32_2, f_32_3, u_32_3, f_32_4, u_32_4, f_32_5, u_32_5, f_32_6, u_32_6, f_32_7, u_32_7, f_32_8, u_32_8, f_33_0, f_33_1, f_33_2, u_33_2, f_33_3, u_33_3, f_33_4, u_33_4, f_33_5, u_33_5, f_33_6, u_33_6, o_5, o_6, o_32, o_33, lx_kind, lx_key, nf_6 h.a6 h.b6, ht, hq, up1, updF_ap, bI_0, Nat.reduceEqDiff, Option.toList_some, Option.toList_none, List.cons_append, List.nil_append, List.append_nil, ip_on_some, true_and, and_true, if_true, if_false, not_true_eq_false, not_false_eq_true, decide_true, true_or, or_true, or_self, Bool.false_eq_true]
  unfold rOld
  by_cases c1 : X 33 3 = 2
  · by_cases c2 : nfi (J 7) y (X 6 1).toNatClampNeg 0 = -1
    · by_cases c4 : told X J y
      · simp [c1, c2, c4]
      · simp [c1, c2, c4]
    · simp [c1, c2]
  · simp [c1]
theorem rd_old8 (h : Bd X) : ip_WP 180 0 [some (.ref 32), some (.ref 8)] [] (g0, fld X y, I, J) b post px ↔ post (some (.int (rOld X y I J 8).1)) (g0, fld (rOld X y I J 8).2.1 y, (rOld X y I J 8).2.2.1, (rOld X y I J 8).2.2.2) := by
  have ht := fun (v : Int32) (b : ip_B) (post : Option Value → ip_H → Prop) (px : String → ip_H → Prop) => co_told (X := ip_up X 32 8 v) (y := y) (I := I) (J := J) (b := b) (post := post) (px := px) (key := y) (h.u32 8 v).a6 (h.u32 8 v).b6 (h.u32 8 v).a8 (h.u32 8 v).b8 (h.u32 8 v).a10 (h.u32 8 v).b10 (h.u32 8 v).a12 (h.u32 8 v).b12
  have hq : ∀ v : Int32, told (ip_up X 32 8 v) J y = told X J y := fun v => by simp only [told, up1, Nat.reduceEqDiff, if_false]
  simp only [s180_0, s180_1, s180_4, s180_7, s180_8, s180_11, s180_12, s180_13, s180_14, s180_15, s180_16, s180_19, s180_22, s180_25, s180_28, s180_29, s180_32, s180_33, s180_36, s180_37, s180_38, s180_39, s180_42, s180_43, s180_46, s180_49, s180_52, s180_55, s180_57, s180_60, s180_61, f_5_0, f_5_1, f_5_2, f_5_3, f_5_4, f_5_5, f_5_6, f_5_7, f_5_8, f_5_9, f_5_10, f_5_11, f_5_12, f_5_13, u_5_13, f_5_14, u_5_14, f_8_0, f_8_1, u_8_1, f_32_0, f_32_1, f_32_2, f_32_3, u_32_3, f_32_4, u_32_4, f_32_5, u_32_5, f_32_6, u_32_6, f_32_7, u_32_7, f_32_8, u_32_8, f_33_0, f_33_1, f_33_2, u_33_2, f_33_3, u_33_3, f_33_4, u_33_4, f_33_5, u_33_5, f_33_6, u_33_6, o_5, o_8, o_32, o_33, lx_kind, lx_key, nf_8 h.a8 h.b8, ht, hq, up1, updF_ap, bI_0, Nat.reduceEqDiff, Option.toList_some, Option.toList_none, List.cons_append, List.nil_append, List.append_nil, ip_on_some, true_and, and_true, if_true, if_false, not_true_eq_false, not_false_eq_true, decide_true, true_or, or_true, or_self, Bool.false_eq_true]
  unfold rOld
  by_cases c1 : X 33 3 = 2
  · by_cases c2 : nfi (J 9) y (X 8 1).toNatClampNeg 0 = -1
    · by_cases c4 : told X J y
      · simp [c1, c2, c4]
      · simp [c1, c2, c4]
    · simp [c1, c2]
  · simp [c1]
theorem rd_task : ip_WP 181 0 [some (.ref 32), none] [] (g0, fld X y, I, J) b post px ↔ post (some (.int (rTask X I J).1)) (g0, fld (rTask X I J).2.1 y, (rTask X I J).2.2.1, (rTask X I J).2.2.2) := by
  simp only [s181_0, s181_1, s181_4, s181_7, s181_10, s181_11, s181_12, s181_13, s181_16, s181_17, s181_19, s181_22, s181_23, s181_24, s181_25, s181_28, s181_31, s181_32, s181_35, s181_36, s181_39, s181_41, s181_42, s181_43, s181_46, s181_49, s181_50, s181_51, s181_54, s181_57, s181_58, f_5_0, f_5_1, f_5_2, f_5_3, f_5_4, f_5_5, f_5_6, f_5_7, f_5_8, f_5_9, f_5_10, f_5_11, f_5_12, f_5_13, u_5_13, f_5_14, u_5_14, f_20_0, f_20_1, f_32_0, f_32_1, f_32_2, f_32_3, u_32_3, f_32_4, u_32_4, f_32_5, u_32_5, f_32_6, u_32_6, f_32_7, u_32_7, f_32_8, u_32_8, f_33_0, f_33_1, f_33_2, u_33_2, f_33_3, u_33_3, f_33_4, u_33_4, f_33_5, u_33_5, f_33_6, u_33_6, o_5, o_20, o_32, o_33, lx_kind, rg_20, rs_20, Option.toList_some, Option.toList_none, List.cons_append, List.nil_append, List.append_nil, ip_on_some, true_and, and_true, if_true, if_false, not_true_eq_false, not_false_eq_true, decide_true, true_or, or_true, or_self, Bool.false_eq_true]
  unfold rTask
  by_cases c1 : X 33 3 - 266 < 0
  · simp [c1]
  · by_cases c2 : (7 : Int32) ≤ X 33 3 - 266
    · have c3 : ¬ X 33 3 - 266 < 7 := Int32.not_lt.mpr c2
      simp [c1, c2, c3]
    · have c3 : X 33 3 - 266 < 7 := Int32.not_le.mp c2
      by_cases c4 : rget (I 21) 7 (-1) (X 33 3 - 266) = -1
      · simp [c1, c2, c3, c4]
      · simp [c1, c2, c3, c4]
theorem rd_wout15 (h : Bd X) : ip_WP 182 0 [some (.ref 32), some (.ref 14), none] [] (g0, fld X y, I, J) b post px ↔ post (some (.int (rWout X y I J 15).1)) (g0, fld (rWout X y I J 15).2.1 y, (rWout X y I J 15).2.2.1, (rWout X y I J 15).2.2.2) := by
  simp only [s182_0, s182_1, s182_2, s182_5, s182_8, s182_11, s182_12, s182_13, s182_16, s182_17, s182_18, s182_19, s182_20, s182_23, s182_26, s182_27, s182_28, s182_31, s182_34, s182_35, s182_38, s182_39, s182_42, s182_44, f_5_0, f_5_1, f_5_2, f_5_3, f_5_4, f_5_5, f_5_6, f_5_7, f_5_8, f_5_9, f_5_10, f_5_11, f_5_12, f_5_13, u_5_13, f_5_14, u_5_14, f_6_0, f_6_1, u_6_1, f_14_0, f_14_1, f_32_0, f_32_1, f_32_2, f_32_3, u_32_3, f_32_4, u_32_4, f_32_5, u_32_5, f_32_6, u_32_6, f_32_7, u_32_7, f_32_8, u_32_8, o_5, o_6, o_14, o_32, rd_old6 h, rOld_I, rg_14, up1, updF_ap, Nat.reduceEqDiff, Option.toList_some, Option.toList_none, List.cons_append, List.nil_append, List.append_nil, ip_on_some, true_and, and_true, if_true, if_false, not_true_eq_false, not_false_eq_true, decide_true, true_or, or_true, or_self, Bool.false_eq_true]
  unfold rWout
  by_cases c1 : (rOld X y I J 6).1 = 0
  · by_cases c2 : rget (I 15) 12 (-1) ((rOld X y I J 6).2.1 32 8) = -1
    · simp [c1, c2]
    · simp [c1, c2]
  · simp [c1, rOld_I]
theorem rd_wout17 (h : Bd X) : ip_WP 182 0 [some (.ref 32), some (.ref 16), none] [] (g0, fld X y, I, J) b post px ↔ post (some (.int (rWout X y I J 17).1)) (g0, fld (rWout X y I J 17).2.1 y, (rWout X y I J 17).2.2.1, (rWout X y I J 17).2.2.2) := by
  simp only [s182_0, s182_1, s182_2, s182_5, s182_8, s182_11, s182_12, s182_13, s182_16, s182_17, s182_18, s182_19, s182_20, s182_23, s182_26, s182_27, s182_28, s182_31, s182_34, s182_35, s182_38, s182_39, s182_42, s182_44, f_5_0, f_5_1, f_5_2, f_5_3, f_5_4, f_5_5, f_5_6, f_5_7, f_5_8, f_5_9, f_5_10, f_5_11, f_5_12, f_5_13, u_5_13, f_5_14, u_5_14, f_6_0, f_6_1, u_6_1, f_16_0, f_16_1, f_32_0, f_32_1, f_32_2, f_32_3, u_32_3, f_32_4, u_32_4, f_32_5, u_32_5, f_32_6, u_32_6, f_32_7, u_32_7, f_32_8, u_32_8, o_5, o_6, o_16, o_32, rd_old6 h, rOld_I, rg_16, up1, updF_ap, Nat.reduceEqDiff, Option.toList_some, Option.toList_none, List.cons_append, List.nil_append, List.append_nil, ip_on_some, true_and, and_true, if_true, if_false, not_true_eq_false, not_false_eq_true, decide_true, true_or, or_true, or_self, Bool.false_eq_true]
  unfold rWout
  by_cases c1 : (rOld X y I J 6).1 = 0
  · by_cases c2 : rget (I 17) 12 (-1) ((rOld X y I J 6).2.1 32 8) = -1
    · simp [c1, c2]
    · simp [c1, c2]
  · simp [c1, rOld_I]
theorem rd_num15 {most : Int32} : ip_WP 183 0 [some (.ref 32), some (.ref 14), some (.int most)] [] (g0, fld X y, I, J) b post px ↔ post (some (.int (rNum X I J 15 12 most).1)) (g0, fld (rNum X I J 15 12 most).2.1 y, (rNum X I J 15 12 most).2.2.1, (rNum X I J 15 12 most).2.2.2) := by
  simp only [s183_0, s183_1, s183_4, s183_7, s183_8, s183_11, s183_12, s183_13, s183_14, s183_17, s183_20, s183_21, s183_24, s183_25, s183_28, s183_31, s183_32, s183_35, s183_37, s183_38, s183_39, s183_40, s183_43, s183_44, s183_47, s183_50, s183_53, s183_54, f_14_0, f_14_1, f_32_0, f_32_1, f_32_2, f_32_3, u_32_3, f_32_4, u_32_4, f_32_5, u_32_5, f_32_6, u_32_6, f_32_7, u_32_7, f_32_8, u_32_8, f_33_0, f_33_1, f_33_2, u_33_2, f_33_3, u_33_3, f_33_4, u_33_4, f_33_5, u_33_5, f_33_6, u_33_6, o_14, o_32, o_33, lx_kind, lx_num, rs_14, Option.toList_some, Option.toList_none, List.cons_append, List.nil_append, List.append_nil, ip_on_some, true_and, and_true, if_true, if_false, not_true_eq_false, not_false_eq_true, decide_true, true_or, or_true, or_self, Bool.false_eq_true]
  unfold rNum
  by_cases c1 : X 33 3 = 3
  · by_cases c2 : X 33 6 < 1
    · simp [c1, c2]
    · by_cases c3 : most < X 33 6
      · have c4 : ¬ X 33 6 ≤ most := Int32.not_le.mpr c3
        simp [c1, c2, c3, c4]
      · have c4 : X 33 6 ≤ most := Int32.not_lt.mp c3
        simp [c1, c2, c3, c4]
  · simp [c1]
theorem rd_num27 {most : Int32} : ip_WP 183 0 [some (.ref 32), some (.ref 26), some (.int most)] [] (g0, fld X y, I, J) b post px ↔ post (some (.int (rNum X I J 27 8 most).1)) (g0, fld (rNum X I J 27 8 most).2.1 y, (rNum X I J 27 8 most).2.2.1, (rNum X I J 27 8 most).2.2.2) := by
  simp only [s183_0, s183_1, s183_4, s183_7, s183_8, s183_11, s183_12, s183_13, s183_14, s183_17, s183_20, s183_21, s183_24, s183_25, s183_28, s183_31, s183_32, s183_35, s183_37, s183_38, s183_39, s183_40, s183_43, s183_44, s183_47, s183_50, s183_53, s183_54, f_26_0, f_26_1, f_32_0, f_32_1, f_32_2, f_32_3, u_32_3, f_32_4, u_32_4, f_32_5, u_32_5, f_32_6, u_32_6, f_32_7, u_32_7, f_32_8, u_32_8, f_33_0, f_33_1, f_33_2, u_33_2, f_33_3, u_33_3, f_33_4, u_33_4, f_33_5, u_33_5, f_33_6, u_33_6, o_26, o_32, o_33, lx_kind, lx_num, rs_26, Option.toList_some, Option.toList_none, List.cons_append, List.nil_append, List.append_nil, ip_on_some, true_and, and_true, if_true, if_false, not_true_eq_false, not_false_eq_true, decide_true, true_or, or_true, or_self, Bool.false_eq_true]
  unfold rNum
  by_cases c1 : X 33 3 = 3
  · by_cases c2 : X 33 6 < 1
    · simp [c1, c2]
    · by_cases c3 : most < X 33 6
      · have c4 : ¬ X 33 6 ≤ most := Int32.not_le.mpr c3
        simp [c1, c2, c3, c4]
      · have c4 : X 33 6 ≤ most := Int32.not_lt.mp c3
        simp [c1, c2, c3, c4]
  · simp [c1]
theorem rd_stg17 (h : Bd X) : ip_WP 184 0 [some (.ref 32), some (.ref 16), none] [] (g0, fld X y, I, J) b post px ↔ post (some (.int (rStg X y I J 17 12).1)) (g0, fld (rStg X y I J 17 12).2.1 y, (rStg X y I J 17 12).2.2.1, (rStg X y I J 17 12).2.2.2) := by
  simp only [s184_0, s184_1, s184_2, s184_5, s184_8, s184_11, s184_12, s184_13, s184_16, s184_17, s184_18, s184_21, s184_22, s184_25, s184_28, s184_29, f_5_0, f_5_1, f_5_2, f_5_3, f_5_4, f_5_5, f_5_6, f_5_7, f_5_8, f_5_9, f_5_10, f_5_11, f_5_12, f_5_13, u_5_13, f_5_14, u_5_14, f_8_0, f_8_1, u_8_1, f_16_0, f_16_1, f_32_0, f_32_1, f_32_2, f_32_3, u_32_3, f_32_4, u_32_4, f_32_5, u_32_5, f_32_6, u_32_6, f_32_7, u_32_7, f_32_8, u_32_8, o_5, o_8, o_16, o_32, rd_old8 h, rOld_I, rs_16, Option.toList_some, Option.toList_none, List.cons_append, List.nil_append, List.append_nil, ip_on_some, true_and, and_true, if_true, if_false, not_true_eq_false, not_false_eq_true, decide_true, true_or, or_true, or_self, Bool.false_eq_true]
  unfold rStg
  by_cases c1 : (rOld X y I J 8).1 = 0
  · simp [c1]
  · simp [c1, rOld_I]
theorem rd_stg29 (h : Bd X) : ip_WP 184 0 [some (.ref 32), some (.ref 28), none] [] (g0, fld X y, I, J) b post px ↔ post (some (.int (rStg X y I J 29 8).1)) (g0, fld (rStg X y I J 29 8).2.1 y, (rStg X y I J 29 8).2.2.1, (rStg X y I J 29 8).2.2.2) := by
  simp only [s184_0, s184_1, s184_2, s184_5, s184_8, s184_11, s184_12, s184_13, s184_16, s184_17, s184_18, s184_21, s184_22, s184_25, s184_28, s184_29, f_5_0, f_5_1, f_5_2, f_5_3, f_5_4, f_5_5, f_5_6, f_5_7, f_5_8, f_5_9, f_5_10, f_5_11, f_5_12, f_5_13, u_5_13, f_5_14, u_5_14, f_8_0, f_8_1, u_8_1, f_28_0, f_28_1, f_32_0, f_32_1, f_32_2, f_32_3, u_32_3, f_32_4, u_32_4, f_32_5, u_32_5, f_32_6, u_32_6, f_32_7, u_32_7, f_32_8, u_32_8, o_5, o_8, o_28, o_32, rd_old8 h, rOld_I, rs_28, Option.toList_some, Option.toList_none, List.cons_append, List.nil_append, List.append_nil, ip_on_some, true_and, and_true, if_true, if_false, not_true_eq_false, not_false_eq_true, decide_true, true_or, or_true, or_self, Bool.false_eq_true]
  unfold rStg
  by_cases c1 : (rOld X y I J 8).1 = 0
  · simp [c1]
  · simp [c1, rOld_I]
theorem rd_ps (h : Bd X) : ip_WP 185 0 [some (.ref 32), none] [] (g0, fld X y, I, J) b post px ↔ post (some (.int (rPS X y I J).1)) (g0, fld (rPS X y I J).2.1 y, (rPS X y I J).2.2.1, (rPS X y I J).2.2.2) := by
  simp only [s185_0, s185_1, s185_2, s185_5, s185_8, s185_11, s185_12, s185_13, s185_14, s185_17, s185_20, s185_21, f_5_0, f_5_1, f_5_2, f_5_3, f_5_4, f_5_5, f_5_6, f_5_7, f_5_8, f_5_9, f_5_10, f_5_11, f_5_12, f_5_13, u_5_13, f_5_14, u_5_14, f_8_0, f_8_1, u_8_1, f_32_0, f_32_1, f_32_2, f_32_3, u_32_3, f_32_4, u_32_4, f_32_5, u_32_5, f_32_6, u_32_6, f_32_7, u_32_7, f_32_8, u_32_8, o_5, o_8, o_32, rd_old8 h, rOld_I, Option.toList_some, Option.toList_none, List.cons_append, List.nil_append, List.append_nil, ip_on_some, true_and, and_true, if_true, if_false, not_true_eq_false, not_false_eq_true, decide_true, true_or, or_true, or_self, Bool.false_eq_true]
  exact Iff.rfl
theorem rd_pe (h : Bd X) : ip_WP 186 0 [some (.ref 32), none] [] (g0, fld X y, I, J) b post px ↔ post (some (.int (rPE X y I J).1)) (g0, fld (rPE X y I J).2.1 y, (rPE X y I J).2.2.1, (rPE X y I J).2.2.2) := by
  have hB := rOld_Bd (y := y) (I := I) (J := J) (c := 8) h
  simp only [s186_0, s186_1, s186_4, s186_7, s186_8, s186_11, s186_12, s186_15, s186_18, s186_21, s186_22, s186_23, s186_24, s186_25, s186_28, s186_31, s186_34, s186_35, s186_36, s186_39, s186_40, s186_41, s186_42, s186_45, s186_46, s186_49, s186_50, s186_53, s186_56, s186_59, s186_61, s186_62, s186_63, s186_66, s186_67, s186_70, s186_71, s186_74, s186_77, s186_78, f_5_0, f_5_1, f_5_2, f_5_3, f_5_4, f_5_5, f_5_6, f_5_7, f_5_8, f_5_9, f_5_10, f_5_11, f_5_12, f_5_13, u_5_13, f_5_14, u_5_14, f_8_0, f_8_1, u_8_1, f_32_0, f_32_1, f_32_2, f_32_3, u_32_3, f_32_4, u_32_4, f_32_5, u_32_5, f_32_6, u_32_6, f_32_7, u_32_7, f_32_8, u_32_8, f_33_0, f_33_1, f_33_2, u_33_2, f_33_3, u_33_3, f_33_4, u_33_4, f_33_5, u_33_5, f_33_6, u_33_6, o_5, o_8, o_32, o_33, lx_kind, co_pfull, rd_old8 h, rOld_I, co_hasP hB.ap hB.bp, co_addP, bI_0, Option.toList_some, Option.toList_none, List.cons_append, List.nil_append, List.append_nil, ip_on_some, true_and, and_true, if_true, if_false, not_true_eq_false, not_false_eq_true, decide_true, true_or, or_true, or_self, Bool.false_eq_true]
  unfold rPE
  by_cases c1 : X 33 3 = 2
  · by_cases c2 : (24 : Int32) ≤ X 5 13
    · simp [c1, c2]
    · by_cases c3 : (rOld X y I J 8).1 = 0
      · by_cases c4 : hasP I (((rOld X y I J 8).2.1 5 13).toNatClampNeg) ((rOld X y I J 8).2.1 32 7) ((rOld X y I J 8).2.1 32 8) = true
        · simp [c1, c2, c3, c4]
        · simp [c1, c2, c3, c4]
      · simp [c1, c2, c3, rOld_I]
  · by_cases c3 : (rOld X y I J 8).1 = 0
    · by_cases c4 : hasP I (((rOld X y I J 8).2.1 5 13).toNatClampNeg) ((rOld X y I J 8).2.1 32 7) ((rOld X y I J 8).2.1 32 8) = true
      · simp [c1, c3, c4]
      · simp [c1, c3, c4]
    · simp [c1, c3, rOld_I]
theorem rd_stall (h : Bd X) : ip_WP 187 0 [some (.ref 32), none] [] (g0, fld X y, I, J) b post px ↔ post (some (.int (rStall X y I J).1)) (g0, fld (rStall X y I J).2.1 y, (rStall X y I J).2.2.1, (rStall X y I J).2.2.2) := by
  simp only [s187_0, s187_1, s187_2, s187_5, s187_8, s187_11, s187_12, s187_13, s187_16, s187_17, s187_18, s187_19, s187_22, s187_23, s187_26, s187_29, s187_32, s187_34, s187_35, s187_36, s187_39, s187_42, s187_43, s187_46, s187_47, s187_50, s187_51, f_5_0, f_5_1, f_5_2, f_5_3, f_5_4, f_5_5, f_5_6, f_5_7, f_5_8, f_5_9, f_5_10, f_5_11, f_5_12, f_5_13, u_5_13, f_5_14, u_5_14, f_6_0, f_6_1, u_6_1, f_18_0, f_18_1, f_32_0, f_32_1, f_32_2, f_32_3, u_32_3, f_32_4, u_32_4, f_32_5, u_32_5, f_32_6, u_32_6, f_32_7, u_32_7, f_32_8, u_32_8, o_5, o_6, o_18, o_32, rd_old6 h, rOld_I, co_stall, rs_18, bI_0, Option.toList_some, Option.toList_none, List.cons_append, List.nil_append, List.append_nil, ip_on_some, true_and, and_true, if_true, if_false, not_true_eq_false, not_false_eq_true, decide_true, true_or, or_true, or_self, Bool.false_eq_true]
  unfold rStall
  by_cases c3 : (rOld X y I J 6).1 = 0
  · by_cases c4 : rget (I 19) 12 0 ((rOld X y I J 6).2.1 32 8) = 0
    · simp [c3, c4]
    · simp [c3, c4]
  · simp [c3, rOld_I]
theorem rd_prt (h : Bd X) : ip_WP 188 0 [some (.ref 32), none] [] (g0, fld X y, I, J) b post px ↔ post (some (.int (rPrt X y I J).1)) (g0, fld (rPrt X y I J).2.1 y, (rPrt X y I J).2.2.1, (rPrt X y I J).2.2.2) := by
  simp only [s188_0, s188_1, s188_2, s188_5, s188_8, s188_11, s188_12, s188_13, s188_16, s188_17, s188_18, s188_19, s188_22, s188_23, s188_26, s188_27, s188_30, s188_33, s188_36, s188_38, s188_39, s188_40, s188_43, s188_44, s188_47, s188_48, s188_51, s188_54, s188_55, f_5_0, f_5_1, f_5_2, f_5_3, f_5_4, f_5_5, f_5_6, f_5_7, f_5_8, f_5_9, f_5_10, f_5_11, f_5_12, f_5_13, u_5_13, f_5_14, u_5_14, f_6_0, f_6_1, u_6_1, f_32_0, f_32_1, f_32_2, f_32_3, u_32_3, f_32_4, u_32_4, f_32_5, u_32_5, f_32_6, u_32_6, f_32_7, u_32_7, f_32_8, u_32_8, o_5, o_6, o_32, rd_old6 h, rOld_I, co_pHas, co_addTo, bI_0, Option.toList_some, Option.toList_none, List.cons_append, List.nil_append, List.append_nil, ip_on_some, true_and, and_true, if_true, if_false, not_true_eq_false, not_false_eq_true, decide_true, true_or, or_true, or_self, Bool.false_eq_true]
  unfold rPrt
  by_cases c3 : (rOld X y I J 6).1 = 0
  · by_cases c4 : bitP (rget (I 31) 8 0 ((rOld X y I J 6).2.1 32 7)) ((rOld X y I J 6).2.1 32 8)
    · simp [c3, c4]
    · simp [c3, c4]
  · simp [c3, rOld_I]
theorem rd_open : ip_WP 166 0 [some (.ref 32)] [] (g0, fld X y, I, J) b post px ↔ post (some (.int (rOpen X I J).1)) (g0, fld (rOpen X I J).2.1 y, (rOpen X I J).2.2.1, (rOpen X I J).2.2.2) := by
  simp only [s166_0, s166_1, s166_4, s166_7, s166_60, s166_61, s166_62, s166_65, s166_68, s166_71, s166_72, s166_73, s166_76, s166_77, s166_78, s166_79, f_32_0, f_32_1, f_32_2, f_32_3, u_32_3, f_32_4, u_32_4, f_32_5, u_32_5, f_32_6, u_32_6, f_32_7, u_32_7, f_32_8, u_32_8, f_33_0, f_33_1, f_33_2, u_33_2, f_33_3, u_33_3, f_33_4, u_33_4, f_33_5, u_33_5, f_33_6, u_33_6, o_32, o_33, lx_kind, Option.toList_some, Option.toList_none, List.cons_append, List.nil_append, List.append_nil, ip_on_some, true_and, and_true, if_true, if_false, not_true_eq_false, not_false_eq_true, decide_true, true_or, or_true, or_self, Bool.false_eq_true]
  unfold rOpen
  by_cases c : X 33 3 = 256 ∨ X 33 3 = 257 ∨ X 33 3 = 259 ∨ X 33 3 = 260 ∨ X 33 3 = 261 ∨ X 33 3 = 262 ∨ X 33 3 = 263 ∨ X 33 3 = 265
  · rw [if_pos c]
    rcases c with c | c | c | c | c | c | c | c <;> simp [c]
  · rw [if_neg c]
    simp only [not_or] at c
    obtain ⟨c1, c2, c3, c4, c5, c6, c7, c8⟩ := c
    simp [c1, c2, c3, c4, c5, c6, c7, c8]
theorem rd_pClass (h : Bd X) {p : Int32} : ip_WP 167 0 [some (.ref 32), some (.int p)] [] (g0, fld X y, I, J) b post px ↔ post (some (.int (pClass X y I J p).1)) (g0, fld (pClass X y I J p).2.1 y, (pClass X y I J p).2.2.1, (pClass X y I J p).2.2.2) := by
  simp only [s167_0, s167_1, s167_4, s167_5, s167_6, s167_9, s167_12, s167_15, s167_18, s167_19, s167_20, s167_23, f_5_0, f_5_1, f_5_2, f_5_3, f_5_4, f_5_5, f_5_6, f_5_7, f_5_8, f_5_9, f_5_10, f_5_11, f_5_12, f_5_13, u_5_13, f_5_14, u_5_14, f_6_0, f_6_1, u_6_1, f_32_0, f_32_1, f_32_2, f_32_3, u_32_3, f_32_4, u_32_4, f_32_5, u_32_5, f_32_6, u_32_6, f_32_7, u_32_7, f_32_8, u_32_8, o_5, o_6, o_32, rd_new6 h, rd_comma, Option.toList_some, Option.toList_none, List.cons_append, List.nil_append, List.append_nil, ip_on_some, true_and, and_true, if_true, if_false, not_true_eq_false, not_false_eq_true, decide_true, true_or, or_true, or_self, Bool.false_eq_true]
  unfold pClass
  (repeat' split) <;> first | rfl | contradiction | (exfalso; simp_all; done) | simp_all
theorem rd_pStage (h : Bd X) {p : Int32} : ip_WP 168 0 [some (.ref 32), some (.int p)] [] (g0, fld X y, I, J) b post px ↔ post (some (.int (pStage X y I J p).1)) (g0, fld (pStage X y I J p).2.1 y, (pStage X y I J p).2.2.1, (pStage X y I J p).2.2.2) := by
  simp only [s168_0, s168_1, s168_28, s168_29, s168_30, s168_33, s168_36, s168_39, s168_40, s168_41, s168_44, s168_47, s168_48, s168_49, s168_52, s168_53, s168_54, s168_55, s168_58, f_5_0, f_5_1, f_5_2, f_5_3, f_5_4, f_5_5, f_5_6, f_5_7, f_5_8, f_5_9, f_5_10, f_5_11, f_5_12, f_5_13, u_5_13, f_5_14, u_5_14, f_8_0, f_8_1, u_8_1, f_32_0, f_32_1, f_32_2, f_32_3, u_32_3, f_32_4, u_32_4, f_32_5, u_32_5, f_32_6, u_32_6, f_32_7, u_32_7, f_32_8, u_32_8, o_5, o_8, o_32, rd_new8 h, rd_word, rd_task, rd_comma, Option.toList_some, Option.toList_none, List.cons_append, List.nil_append, List.append_nil, ip_on_some, true_and, and_true, if_true, if_false, not_true_eq_false, not_false_eq_true, decide_true, true_or, or_true, or_self, Bool.false_eq_true]
  unfold pStage
  (repeat' split) <;> first | rfl | contradiction | (exfalso; simp_all; done) | simp_all
theorem rd_pLat (h : Bd X) {p : Int32} : ip_WP 169 0 [some (.ref 32), some (.int p)] [] (g0, fld X y, I, J) b post px ↔ post (some (.int (pLat X y I J p).1)) (g0, fld (pLat X y I J p).2.1 y, (pLat X y I J p).2.2.1, (pLat X y I J p).2.2.2) := by
  simp only [s169_0, s169_1, s169_28, s169_29, s169_30, s169_33, s169_36, s169_39, s169_40, s169_41, s169_43, s169_46, s169_47, s169_48, s169_49, s169_52, s169_55, s169_57, s169_60, s169_61, s169_62, s169_65, f_5_0, f_5_1, f_5_2, f_5_3, f_5_4, f_5_5, f_5_6, f_5_7, f_5_8, f_5_9, f_5_10, f_5_11, f_5_12, f_5_13, u_5_13, f_5_14, u_5_14, f_14_0, f_14_1, f_32_0, f_32_1, f_32_2, f_32_3, u_32_3, f_32_4, u_32_4, f_32_5, u_32_5, f_32_6, u_32_6, f_32_7, u_32_7, f_32_8, u_32_8, o_5, o_14, o_32, rd_wout15 h, rd_sign, rd_num15, rd_close, Option.toList_some, Option.toList_none, List.cons_append, List.nil_append, List.append_nil, ip_on_some, true_and, and_true, if_true, if_false, not_true_eq_false, not_false_eq_true, decide_true, true_or, or_true, or_self, Bool.false_eq_true]
  unfold pLat
  (repeat' split) <;> first | rfl | contradiction | (exfalso; simp_all; done) | simp_all
theorem rd_pRes (h : Bd X) {p : Int32} : ip_WP 170 0 [some (.ref 32), some (.int p)] [] (g0, fld X y, I, J) b post px ↔ post (some (.int (pRes X y I J p).1)) (g0, fld (pRes X y I J p).2.1 y, (pRes X y I J p).2.2.1, (pRes X y I J p).2.2.2) := by
  simp only [s170_0, s170_1, s170_28, s170_29, s170_30, s170_33, s170_36, s170_39, s170_40, s170_41, s170_43, s170_46, s170_47, s170_48, s170_49, s170_52, s170_55, s170_58, s170_59, s170_60, s170_63, f_5_0, f_5_1, f_5_2, f_5_3, f_5_4, f_5_5, f_5_6, f_5_7, f_5_8, f_5_9, f_5_10, f_5_11, f_5_12, f_5_13, u_5_13, f_5_14, u_5_14, f_16_0, f_16_1, f_32_0, f_32_1, f_32_2, f_32_3, u_32_3, f_32_4, u_32_4, f_32_5, u_32_5, f_32_6, u_32_6, f_32_7, u_32_7, f_32_8, u_32_8, o_5, o_16, o_32, rd_wout17 h, rd_sign, rd_stg17 h, rd_close, Option.toList_some, Option.toList_none, List.cons_append, List.nil_append, List.append_nil, ip_on_some, true_and, and_true, if_true, if_false, not_true_eq_false, not_false_eq_true, decide_true, true_or, or_true, or_self, Bool.false_eq_true]
  unfold pRes
  (repeat' split) <;> first | rfl | contradiction | (exfalso; simp_all; done) | simp_all
theorem rd_pPath (h : Bd X) {p : Int32} : ip_WP 171 0 [some (.ref 32), some (.int p)] [] (g0, fld X y, I, J) b post px ↔ post (some (.int (pPath X y I J p).1)) (g0, fld (pPath X y I J p).2.1 y, (pPath X y I J p).2.2.1, (pPath X y I J p).2.2.2) := by
  simp only [s171_0, s171_1, s171_28, s171_29, s171_32, s171_33, s171_34, s171_36, s171_39, s171_40, s171_41, s171_44, s171_45, s171_46, s171_49, f_5_0, f_5_1, f_5_2, f_5_3, f_5_4, f_5_5, f_5_6, f_5_7, f_5_8, f_5_9, f_5_10, f_5_11, f_5_12, f_5_13, u_5_13, f_5_14, u_5_14, f_32_0, f_32_1, f_32_2, f_32_3, u_32_3, f_32_4, u_32_4, f_32_5, u_32_5, f_32_6, u_32_6, f_32_7, u_32_7, f_32_8, u_32_8, o_5, o_32, rd_ps h, rd_sign, rd_pe h, rd_close, Option.toList_some, Option.toList_none, List.cons_append, List.nil_append, List.append_nil, ip_on_some, true_and, and_true, if_true, if_false, not_true_eq_false, not_false_eq_true, decide_true, true_or, or_true, or_self, Bool.false_eq_true]
  unfold pPath
  (repeat' split) <;> first | rfl | contradiction | (exfalso; simp_all; done) | simp_all
theorem rd_pStall (h : Bd X) {p : Int32} : ip_WP 172 0 [some (.ref 32), some (.int p)] [] (g0, fld X y, I, J) b post px ↔ post (some (.int (pStall X y I J p).1)) (g0, fld (pStall X y I J p).2.1 y, (pStall X y I J p).2.2.1, (pStall X y I J p).2.2.2) := by
  simp only [s172_0, s172_1, s172_4, s172_5, s172_8, s172_11, s172_12, s172_13, s172_16, f_5_0, f_5_1, f_5_2, f_5_3, f_5_4, f_5_5, f_5_6, f_5_7, f_5_8, f_5_9, f_5_10, f_5_11, f_5_12, f_5_13, u_5_13, f_5_14, u_5_14, f_32_0, f_32_1, f_32_2, f_32_3, u_32_3, f_32_4, u_32_4, f_32_5, u_32_5, f_32_6, u_32_6, f_32_7, u_32_7, f_32_8, u_32_8, o_5, o_32, rd_stall h, rd_comma, Option.toList_some, Option.toList_none, List.cons_append, List.nil_append, List.append_nil, ip_on_some, true_and, and_true, if_true, if_false, not_true_eq_false, not_false_eq_true, decide_true, true_or, or_true, or_self, Bool.false_eq_true]
  unfold pStall
  (repeat' split) <;> first | rfl | contradiction | (exfalso; simp_all; done) | simp_all
theorem rd_pQue (h : Bd X) {p : Int32} : ip_WP 173 0 [some (.ref 32), some (.int p)] [] (g0, fld X y, I, J) b post px ↔ post (some (.int (pQue X y I J p).1)) (g0, fld (pQue X y I J p).2.1 y, (pQue X y I J p).2.2.1, (pQue X y I J p).2.2.2) := by
  simp only [s173_0, s173_1, s173_36, s173_37, s173_38, s173_41, s173_44, s173_47, s173_48, s173_49, s173_51, s173_54, s173_55, s173_56, s173_57, s173_60, s173_63, s173_66, s173_69, s173_70, s173_71, s173_74, s173_77, s173_78, s173_79, s173_80, s173_83, s173_86, s173_89, s173_90, s173_91, s173_94, f_5_0, f_5_1, f_5_2, f_5_3, f_5_4, f_5_5, f_5_6, f_5_7, f_5_8, f_5_9, f_5_10, f_5_11, f_5_12, f_5_13, u_5_13, f_5_14, u_5_14, f_10_0, f_10_1, u_10_1, f_26_0, f_26_1, f_28_0, f_28_1, f_32_0, f_32_1, f_32_2, f_32_3, u_32_3, f_32_4, u_32_4, f_32_5, u_32_5, f_32_6, u_32_6, f_32_7, u_32_7, f_32_8, u_32_8, o_5, o_10, o_26, o_28, o_32, rd_new10 h, rd_sign, rd_num27, rd_word, rd_stg29 h, rd_close, Option.toList_some, Option.toList_none, List.cons_append, List.nil_append, List.append_nil, ip_on_some, true_and, and_true, if_true, if_false, not_true_eq_false, not_false_eq_true, decide_true, true_or, or_true, or_self, Bool.false_eq_true]
  unfold pQue
  (repeat' split) <;> first | rfl | contradiction | (exfalso; simp_all; done) | simp_all
theorem rd_pPort (h : Bd X) {p : Int32} : ip_WP 174 0 [some (.ref 32), some (.int p)] [] (g0, fld X y, I, J) b post px ↔ post (some (.int (pPort X y I J p).1)) (g0, fld (pPort X y I J p).2.1 y, (pPort X y I J p).2.2.1, (pPort X y I J p).2.2.2) := by
  simp only [s174_0, s174_1, s174_28, s174_29, s174_30, s174_33, s174_36, s174_39, s174_40, s174_41, s174_43, s174_46, s174_47, s174_48, s174_51, s174_52, s174_53, s174_54, s174_57, f_5_0, f_5_1, f_5_2, f_5_3, f_5_4, f_5_5, f_5_6, f_5_7, f_5_8, f_5_9, f_5_10, f_5_11, f_5_12, f_5_13, u_5_13, f_5_14, u_5_14, f_12_0, f_12_1, u_12_1, f_32_0, f_32_1, f_32_2, f_32_3, u_32_3, f_32_4, u_32_4, f_32_5, u_32_5, f_32_6, u_32_6, f_32_7, u_32_7, f_32_8, u_32_8, o_5, o_12, o_32, rd_new12 h, rd_sign, rd_prt h, rd_comma, Option.toList_some, Option.toList_none, List.cons_append, List.nil_append, List.append_nil, ip_on_some, true_and, and_true, if_true, if_false, not_true_eq_false, not_false_eq_true, decide_true, true_or, or_true, or_self, Bool.false_eq_true]
  unfold pPort
  (repeat' split) <;> first | rfl | contradiction | (exfalso; simp_all; done) | simp_all
theorem rd_take (h : Bd X) : ip_WP 165 0 [some (.ref 32), none] [] (g0, fld X y, I, J) b post px ↔ post (some (.int (rTake X y I J).1)) (g0, fld (rTake X y I J).2.1 y, (rTake X y I J).2.2.1, (rTake X y I J).2.2.2) := by
  have h' := h.u32 6 (X 32 6 + 1)
  simp only [s165_0, s165_1, s165_4, s165_7, s165_10, s165_11, s165_12, s165_13, s165_16, s165_17, s165_18, s165_19, s165_20, s165_21, s165_24, s165_25, s165_28, s165_84, s165_85, s165_86, s165_89, s165_90, s165_91, s165_92, s165_95, s165_96, s165_97, s165_98, s165_101, s165_102, s165_103, s165_104, s165_107, s165_108, s165_109, s165_110, s165_113, s165_114, s165_115, s165_116, s165_119, s165_120, s165_121, s165_122, s165_125, s165_126, s165_127, s165_128, s165_131, s165_132, s165_133, s165_136, f_32_0, f_32_1, f_32_2, f_32_3, u_32_3, f_32_4, u_32_4, f_32_5, u_32_5, f_32_6, u_32_6, f_32_7, u_32_7, f_32_8, u_32_8, f_33_0, f_33_1, f_33_2, u_33_2, f_33_3, u_33_3, f_33_4, u_33_4, f_33_5, u_33_5, f_33_6, u_33_6, o_32, o_33, lx_kind, up1, updF_ap, Nat.reduceEqDiff, rd_pClass h', rd_pStage h', rd_pLat h', rd_pRes h', rd_pPath h', rd_pStall h', rd_pQue h', rd_pPort h', rd_open, Option.toList_some, Option.toList_none, List.cons_append, List.nil_append, List.append_nil, ip_on_some, true_and, and_true, if_true, if_false, not_true_eq_false, not_false_eq_true, decide_true, true_or, or_true, or_self, Bool.false_eq_true]
  unfold rTake rPart
  by_cases c : X 33 3 = 0
  · simp [c]
  · simp only [c, Option.toList_some, Option.toList_none, List.cons_append, List.nil_append, List.append_nil, ip_on_some, true_and, and_true, if_true, if_false, not_true_eq_false, not_false_eq_true, decide_true, true_or, or_true, or_self, Bool.false_eq_true]
    by_cases s256 : X 32 5 = 256
    · simp [s256]
    · skip
      by_cases s257 : X 32 5 = 257
      · simp [s257]
      · skip
        by_cases s258 : X 32 5 = 258
        · simp [s258]
        · skip
          by_cases s259 : X 32 5 = 259
          · simp [s259]
          · skip
            by_cases s260 : X 32 5 = 260
            · simp [s260]
            · skip
              by_cases s261 : X 32 5 = 261
              · simp [s261]
              · skip
                by_cases s262 : X 32 5 = 262
                · simp [s262]
                · skip
                  by_cases s263 : X 32 5 = 263
                  · simp [s263]
                  · skip
                    by_cases s264 : X 32 5 = 264
                    · simp [s264]
                    · skip
                      by_cases s265 : X 32 5 = 265
                      · simp [s265]
                      · skip
                        simp only [s256, s257, s258, s259, s260, s261, s262, s263, s264, s265, Option.toList_some, Option.toList_none, List.cons_append, List.nil_append, List.append_nil, ip_on_some, true_and, and_true, if_true, if_false, not_true_eq_false, not_false_eq_true, decide_true, true_or, or_true, or_self, Bool.false_eq_true]
def rbX (X : Nat → Nat → Int32) : Nat → Nat → Int32 := ip_up (ip_up (ip_up (ip_up (ip_up (ip_up (bgX X) 32 3 0) 32 4 0) 32 5 (-1)) 32 6 0) 32 7 (-1)) 32 8 (-1)
theorem rd_begin : ip_WP 164 0 [some (.ref 32)] [] (g0, fld X y, I, J) b post px ↔ post none (g0, fld (rbX X) 0, I, J) := by
  simp only [s164_0, s164_1, s164_4, s164_7, s164_8, s164_9, s164_12, s164_13, s164_14, s164_17, s164_18, s164_19, s164_22, s164_23, s164_24, s164_27, s164_28, s164_29, s164_32, s164_33, s164_34, s164_37, f_32_0, f_32_1, f_32_2, f_32_3, u_32_3, f_32_4, u_32_4, f_32_5, u_32_5, f_32_6, u_32_6, f_32_7, u_32_7, f_32_8, u_32_8, f_33_0, f_33_1, f_33_2, u_33_2, f_33_3, u_33_3, f_33_4, u_33_4, f_33_5, u_33_5, f_33_6, u_33_6, o_32, o_33, lx_begin, Option.toList_some, Option.toList_none, List.cons_append, List.nil_append, List.append_nil, ip_on_some, true_and, and_true, if_true, if_false, not_true_eq_false, not_false_eq_true, decide_true, true_or, or_true, or_self, Bool.false_eq_true]
  exact Iff.rfl
end
