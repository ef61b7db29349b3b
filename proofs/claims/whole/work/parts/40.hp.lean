theorem qe_m1_0 : ((-1 : Int32) = 0) = False := by decide
theorem qe_m1_1 : ((-1 : Int32) = 1) = False := by decide
theorem qe_m1_2 : ((-1 : Int32) = 2) = False := by decide
theorem qe_m1_3 : ((-1 : Int32) = 3) = False := by decide
theorem qe_m1_4 : ((-1 : Int32) = 4) = False := by decide
theorem qe_m1_5 : ((-1 : Int32) = 5) = False := by decide
theorem qe_m1_6 : ((-1 : Int32) = 6) = False := by decide
theorem qe_m1_7 : ((-1 : Int32) = 7) = False := by decide
theorem qe_m1_8 : ((-1 : Int32) = 8) = False := by decide
theorem qe_0_m1 : ((0 : Int32) = -1) = False := by decide
theorem qe_0_1 : ((0 : Int32) = 1) = False := by decide
theorem qe_0_2 : ((0 : Int32) = 2) = False := by decide
theorem qe_0_3 : ((0 : Int32) = 3) = False := by decide
theorem qe_0_4 : ((0 : Int32) = 4) = False := by decide
theorem qe_0_5 : ((0 : Int32) = 5) = False := by decide
theorem qe_0_6 : ((0 : Int32) = 6) = False := by decide
theorem qe_0_7 : ((0 : Int32) = 7) = False := by decide
theorem qe_0_8 : ((0 : Int32) = 8) = False := by decide
theorem qe_1_m1 : ((1 : Int32) = -1) = False := by decide
theorem qe_1_0 : ((1 : Int32) = 0) = False := by decide
theorem qe_1_2 : ((1 : Int32) = 2) = False := by decide
theorem qe_1_3 : ((1 : Int32) = 3) = False := by decide
theorem qe_1_4 : ((1 : Int32) = 4) = False := by decide
theorem qe_1_5 : ((1 : Int32) = 5) = False := by decide
theorem qe_1_6 : ((1 : Int32) = 6) = False := by decide
theorem qe_1_7 : ((1 : Int32) = 7) = False := by decide
theorem qe_1_8 : ((1 : Int32) = 8) = False := by decide
theorem qe_2_m1 : ((2 : Int32) = -1) = False := by decide
theorem qe_2_0 : ((2 : Int32) = 0) = False := by decide
theorem qe_2_1 : ((2 : Int32) = 1) = False := by decide
theorem qe_2_3 : ((2 : Int32) = 3) = False := by decide
theorem qe_2_4 : ((2 : Int32) = 4) = False := by decide
theorem qe_2_5 : ((2 : Int32) = 5) = False := by decide
theorem qe_2_6 : ((2 : Int32) = 6) = False := by decide
theorem qe_2_7 : ((2 : Int32) = 7) = False := by decide
theorem qe_2_8 : ((2 : Int32) = 8) = False := by decide
theorem qe_3_m1 : ((3 : Int32) = -1) = False := by decide
theorem qe_3_0 : ((3 : Int32) = 0) = False := by decide
theorem qe_3_1 : ((3 : Int32) = 1) = False := by decide
theorem qe_3_2 : ((3 : Int32) = 2) = False := by decide
theorem qe_3_4 : ((3 : Int32) = 4) = False := by decide
theorem qe_3_5 : ((3 : Int32) = 5) = False := by decide
theorem qe_3_6 : ((3 : Int32) = 6) = False := by decide
theorem qe_3_7 : ((3 : Int32) = 7) = False := by decide
theorem qe_3_8 : ((3 : Int32) = 8) = False := by decide
theorem qe_4_m1 : ((4 : Int32) = -1) = False := by decide
theorem qe_4_0 : ((4 : Int32) = 0) = False := by decide
theorem qe_4_1 : ((4 : Int32) = 1) = False := by decide
theorem qe_4_2 : ((4 : Int32) = 2) = False := by decide
theorem qe_4_3 : ((4 : Int32) = 3) = False := by decide
theorem qe_4_5 : ((4 : Int32) = 5) = False := by decide
theorem qe_4_6 : ((4 : Int32) = 6) = False := by decide
theorem qe_4_7 : ((4 : Int32) = 7) = False := by decide
theorem qe_4_8 : ((4 : Int32) = 8) = False := by decide
theorem qe_5_m1 : ((5 : Int32) = -1) = False := by decide
theorem qe_5_0 : ((5 : Int32) = 0) = False := by decide
theorem qe_5_1 : ((5 : Int32) = 1) = False := by decide
theorem qe_5_2 : ((5 : Int32) = 2) = False := by decide
theorem qe_5_3 : ((5 : Int32) = 3) = False := by decide
theorem qe_5_4 : ((5 : Int32) = 4) = False := by decide
theorem qe_5_6 : ((5 : Int32) = 6) = False := by decide
theorem qe_5_7 : ((5 : Int32) = 7) = False := by decide
theorem qe_5_8 : ((5 : Int32) = 8) = False := by decide
theorem qe_6_m1 : ((6 : Int32) = -1) = False := by decide
theorem qe_6_0 : ((6 : Int32) = 0) = False := by decide
theorem qe_6_1 : ((6 : Int32) = 1) = False := by decide
theorem qe_6_2 : ((6 : Int32) = 2) = False := by decide
theorem qe_6_3 : ((6 : Int32) = 3) = False := by decide
theorem qe_6_4 : ((6 : Int32) = 4) = False := by decide
theorem qe_6_5 : ((6 : Int32) = 5) = False := by decide
theorem qe_6_7 : ((6 : Int32) = 7) = False := by decide
theorem qe_6_8 : ((6 : Int32) = 8) = False := by decide
theorem qe_7_m1 : ((7 : Int32) = -1) = False := by decide
theorem qe_7_0 : ((7 : Int32) = 0) = False := by decide
theorem qe_7_1 : ((7 : Int32) = 1) = False := by decide
theorem qe_7_2 : ((7 : Int32) = 2) = False := by decide
theorem qe_7_3 : ((7 : Int32) = 3) = False := by decide
theorem qe_7_4 : ((7 : Int32) = 4) = False := by decide
theorem qe_7_5 : ((7 : Int32) = 5) = False := by decide
theorem qe_7_6 : ((7 : Int32) = 6) = False := by decide
theorem qe_7_8 : ((7 : Int32) = 8) = False := by decide
theorem qe_8_m1 : ((8 : Int32) = -1) = False := by decide
theorem qe_8_0 : ((8 : Int32) = 0) = False := by decide
theorem qe_8_1 : ((8 : Int32) = 1) = False := by decide
theorem qe_8_2 : ((8 : Int32) = 2) = False := by decide
theorem qe_8_3 : ((8 : Int32) = 3) = False := by decide
theorem qe_8_4 : ((8 : Int32) = 4) = False := by decide
theorem qe_8_5 : ((8 : Int32) = 5) = False := by decide
theorem qe_8_6 : ((8 : Int32) = 6) = False := by decide
theorem qe_8_7 : ((8 : Int32) = 7) = False := by decide
/-! THE HEAP BEHIND THE CONSTRUCTORS: kinds of the 73 cells, fields that never change (ctab); the other fields are ints X k j, but for one long y (Lexer.key) -/
def g0 : List ip_K := [.inr (0, 7), .inr (2, 2), .inl (1, 4160), .inr (2, 2), .inl (1, 4160), .inr (3, 15), .inr (6, 2), .inl (2, 12), .inr (6, 2), .inl (2, 12), .inr (6, 2), .inl (2, 8), .inr (6, 2), .inl (2, 8), .inr (9, 2), .inl (0, 12), .inr (9, 2), .inl (0, 12), .inr (9, 2), .inl (0, 12), .inr (9, 2), .inl (0, 7), .inr (9, 2), .inl (0, 24), .inr (9, 2), .inl (0, 24), .inr (9, 2), .inl (0, 8), .inr (9, 2), .inl (0, 8), .inr (9, 2), .inl (0, 8), .inr (8, 9), .inr (5, 7), .inr (10, 1), .inl (2, 17), .inr (7, 2), .inr (4, 3), .inr (9, 2), .inl (0, 52), .inr (9, 2), .inl (0, 52), .inr (4, 3), .inr (9, 2), .inl (0, 68), .inr (9, 2), .inl (0, 68), .inr (1, 39), .inl (0, 103), .inl (0, 4400), .inl (0, 4400), .inl (0, 4400), .inl (0, 40), .inl (0, 40), .inl (0, 40), .inl (0, 40), .inl (0, 4), .inl (0, 48), .inl (0, 12), .inl (3, 12), .inl (0, 12), .inl (3, 12), .inl (0, 7), .inl (0, 24), .inl (0, 24), .inl (0, 8), .inl (0, 8), .inl (3, 96), .inl (0, 64), .inl (0, 64), .inl (0, 80), .inl (0, 80), .inl (2, 1)]
def ctab : List (Nat × Nat × Value) := [(0, 0, .ref 1), (0, 1, .ref 3), (0, 2, .ref 5), (0, 3, .ref 32), (0, 4, .ref 36), (0, 5, .ref 37), (0, 6, .ref 42), (1, 0, .ref 2), (3, 0, .ref 4), (5, 0, .ref 6), (5, 1, .ref 8), (5, 2, .ref 10), (5, 3, .ref 12), (5, 4, .ref 14), (5, 5, .ref 16), (5, 6, .ref 18), (5, 7, .ref 20), (5, 8, .ref 22), (5, 9, .ref 24), (5, 10, .ref 26), (5, 11, .ref 28), (5, 12, .ref 30), (6, 0, .ref 7), (8, 0, .ref 9), (10, 0, .ref 11), (12, 0, .ref 13), (14, 0, .ref 15), (14, 1, .int (-1)), (16, 0, .ref 17), (16, 1, .int (-1)), (18, 0, .ref 19), (18, 1, .int 0), (20, 0, .ref 21), (20, 1, .int (-1)), (22, 0, .ref 23), (22, 1, .int (-1)), (24, 0, .ref 25), (24, 1, .int (-1)), (26, 0, .ref 27), (26, 1, .int (-1)), (28, 0, .ref 29), (28, 1, .int (-1)), (30, 0, .ref 31), (30, 1, .int 0), (32, 0, .ref 1), (32, 1, .ref 5), (32, 2, .ref 33), (33, 0, .ref 1), (33, 1, .ref 34), (34, 0, .ref 35), (36, 0, .ref 5), (36, 1, .ref 3), (37, 0, .ref 38), (37, 1, .ref 40), (38, 0, .ref 39), (38, 1, .int (-1)), (40, 0, .ref 41), (40, 1, .int (-1)), (42, 0, .ref 43), (42, 1, .ref 45), (43, 0, .ref 44), (43, 1, .int (-1)), (45, 0, .ref 46), (45, 1, .int (-1)), (47, 0, .ref 48), (47, 3, .ref 49), (47, 5, .ref 50), (47, 11, .ref 51), (47, 12, .ref 52), (47, 13, .ref 53), (47, 14, .ref 54), (47, 15, .ref 55), (47, 16, .ref 56), (47, 17, .ref 57), (47, 18, .ref 58), (47, 19, .ref 59), (47, 20, .ref 60), (47, 21, .ref 61), (47, 22, .ref 62), (47, 24, .ref 63), (47, 25, .ref 64), (47, 26, .ref 65), (47, 27, .ref 66), (47, 28, .ref 67), (47, 31, .ref 68), (47, 32, .ref 69), (47, 33, .ref 70), (47, 34, .ref 71)]
def clk : List (Nat × Nat × Value) → Nat → Nat → Option Value
  | [], _, _ => none
  | q :: l, k, j => cond (Nat.beq k q.1 && Nat.beq j q.2.1) (some q.2.2) (clk l k j)
def fld (X : Nat → Nat → Int32) (y : Int64) (k j : Nat) : Value := match clk ctab k j with
  | some v => v
  | none => cond (Nat.beq k 33 && Nat.beq j 5) (.long y) (.int (X k j))
def updF {α : Type} (f : Nat → α) (j : Nat) (v : α) : Nat → α := fun b => if b = j then v else f b
theorem updF_ap {α : Type} (f : Nat → α) (j b : Nat) (v : α) : updF f j v b = if b = j then v else f b := rfl
theorem up1 {α : Type} (f : Nat → Nat → α) (k j a : Nat) (v : α) : ip_up f k j v a = if a = k then updF (f a) j v else f a := by
  funext b
  unfold ip_up updF
  by_cases h : a = k
  · simp [h]
  · simp [h]
theorem up_up {α : Type} (f : Nat → Nat → α) (k j : Nat) (v w : α) : ip_up (ip_up f k j v) k j w = ip_up f k j w := by
  funext a b
  unfold ip_up
  by_cases h : a = k ∧ b = j
  · rw [if_pos h, if_pos h]
  · rw [if_neg h, if_neg h, if_neg h]
theorem up_self {α : Type} {f : Nat → Nat → α} {k j : Nat} {v : α} (h : f k j = v) : ip_up f k j v = f := by
  funext a b
  unfold ip_up
  by_cases q : a = k ∧ b = j
  · rw [if_pos q, q.1, q.2, h]
  · rw [if_neg q]
theorem updF_self {α : Type} {f : Nat → α} {j : Nat} {v : α} (h : f j = v) : updF f j v = f := by
  funext b
  unfold updF
  by_cases q : b = j
  · rw [if_pos q, q, h]
  · rw [if_neg q]
theorem updF_upd {α : Type} (f : Nat → α) (j : Nat) (v w : α) : updF (updF f j v) j w = updF f j w := by
  funext b
  unfold updF
  by_cases q : b = j
  · rw [if_pos q, if_pos q]
  · rw [if_neg q, if_neg q, if_neg q]
theorem fld_up {X : Nat → Nat → Int32} {y : Int64} {k j : Nat} {v : Int32} (hc : clk ctab k j = none) (hk : (Nat.beq k 33 && Nat.beq j 5) = false) : ip_up (fld X y) k j (.int v) = fld (ip_up X k j v) y := by
  funext a b
  show (if a = k ∧ b = j then Value.int v else fld X y a b) = fld (ip_up X k j v) y a b
  by_cases q : a = k ∧ b = j
  · rw [if_pos q, q.1, q.2]
    unfold fld
    rw [hc, hk]
    show Value.int v = Value.int (ip_up X k j v k j)
    rw [show ip_up X k j v k j = v from if_pos ⟨rfl, rfl⟩]
  · rw [if_neg q]
    unfold fld
    rw [show ip_up X k j v a b = X a b from if_neg q]
theorem fld_upy {X : Nat → Nat → Int32} {y v : Int64} : ip_up (fld X y) 33 5 (.long v) = fld X v := by
  funext a b
  show (if a = 33 ∧ b = 5 then Value.long v else fld X y a b) = fld X v a b
  by_cases q : a = 33 ∧ b = 5
  · rw [if_pos q, q.1, q.2]; rfl
  · rw [if_neg q]
    unfold fld
    cases clk ctab a b with
    | some w => rfl
    | none =>
      have e : (Nat.beq a 33 && Nat.beq b 5) = false := by
        cases h1 : Nat.beq a 33 with
        | false => rfl
        | true =>
          cases h2 : Nat.beq b 5 with
          | false => rfl
          | true => exact absurd ⟨Nat.eq_of_beq_eq_true h1, Nat.eq_of_beq_eq_true h2⟩ q
      rw [e]
      rfl
section
variable {X : Nat → Nat → Int32} {y : Int64}
theorem f_0_0 : fld X y 0 0 = .ref 1 := rfl
theorem f_0_1 : fld X y 0 1 = .ref 3 := rfl
theorem f_0_2 : fld X y 0 2 = .ref 5 := rfl
theorem f_0_3 : fld X y 0 3 = .ref 32 := rfl
theorem f_0_4 : fld X y 0 4 = .ref 36 := rfl
theorem f_0_5 : fld X y 0 5 = .ref 37 := rfl
theorem f_0_6 : fld X y 0 6 = .ref 42 := rfl
theorem f_1_0 : fld X y 1 0 = .ref 2 := rfl
theorem f_3_0 : fld X y 3 0 = .ref 4 := rfl
theorem f_5_0 : fld X y 5 0 = .ref 6 := rfl
theorem f_5_1 : fld X y 5 1 = .ref 8 := rfl
theorem f_5_2 : fld X y 5 2 = .ref 10 := rfl
theorem f_5_3 : fld X y 5 3 = .ref 12 := rfl
theorem f_5_4 : fld X y 5 4 = .ref 14 := rfl
theorem f_5_5 : fld X y 5 5 = .ref 16 := rfl
theorem f_5_6 : fld X y 5 6 = .ref 18 := rfl
theorem f_5_7 : fld X y 5 7 = .ref 20 := rfl
theorem f_5_8 : fld X y 5 8 = .ref 22 := rfl
theorem f_5_9 : fld X y 5 9 = .ref 24 := rfl
theorem f_5_10 : fld X y 5 10 = .ref 26 := rfl
theorem f_5_11 : fld X y 5 11 = .ref 28 := rfl
theorem f_5_12 : fld X y 5 12 = .ref 30 := rfl
theorem f_6_0 : fld X y 6 0 = .ref 7 := rfl
theorem f_8_0 : fld X y 8 0 = .ref 9 := rfl
theorem f_10_0 : fld X y 10 0 = .ref 11 := rfl
theorem f_12_0 : fld X y 12 0 = .ref 13 := rfl
theorem f_14_0 : fld X y 14 0 = .ref 15 := rfl
theorem f_14_1 : fld X y 14 1 = .int (-1) := rfl
theorem f_16_0 : fld X y 16 0 = .ref 17 := rfl
theorem f_16_1 : fld X y 16 1 = .int (-1) := rfl
theorem f_18_0 : fld X y 18 0 = .ref 19 := rfl
theorem f_18_1 : fld X y 18 1 = .int 0 := rfl
theorem f_20_0 : fld X y 20 0 = .ref 21 := rfl
theorem f_20_1 : fld X y 20 1 = .int (-1) := rfl
theorem f_22_0 : fld X y 22 0 = .ref 23 := rfl
theorem f_22_1 : fld X y 22 1 = .int (-1) := rfl
theorem f_24_0 : fld X y 24 0 = .ref 25 := rfl
theorem f_24_1 : fld X y 24 1 = .int (-1) := rfl
theorem f_26_0 : fld X y 26 0 = .ref 27 := rfl
theorem f_26_1 : fld X y 26 1 = .int (-1) := rfl
theorem f_28_0 : fld X y 28 0 = .ref 29 := rfl
theorem f_28_1 : fld X y 28 1 = .int (-1) := rfl
theorem f_30_0 : fld X y 30 0 = .ref 31 := rfl
theorem f_30_1 : fld X y 30 1 = .int 0 := rfl
theorem f_32_0 : fld X y 32 0 = .ref 1 := rfl
theorem f_32_1 : fld X y 32 1 = .ref 5 := rfl
theorem f_32_2 : fld X y 32 2 = .ref 33 := rfl
theorem f_33_0 : fld X y 33 0 = .ref 1 := rfl
theorem f_33_1 : fld X y 33 1 = .ref 34 := rfl
theorem f_34_0 : fld X y 34 0 = .ref 35 := rfl
theorem f_36_0 : fld X y 36 0 = .ref 5 := rfl
theorem f_36_1 : fld X y 36 1 = .ref 3 := rfl
theorem f_37_0 : fld X y 37 0 = .ref 38 := rfl
theorem f_37_1 : fld X y 37 1 = .ref 40 := rfl
theorem f_38_0 : fld X y 38 0 = .ref 39 := rfl
theorem f_38_1 : fld X y 38 1 = .int (-1) := rfl
theorem f_40_0 : fld X y 40 0 = .ref 41 := rfl
theorem f_40_1 : fld X y 40 1 = .int (-1) := rfl
theorem f_42_0 : fld X y 42 0 = .ref 43 := rfl
theorem f_42_1 : fld X y 42 1 = .ref 45 := rfl
theorem f_43_0 : fld X y 43 0 = .ref 44 := rfl
theorem f_43_1 : fld X y 43 1 = .int (-1) := rfl
theorem f_45_0 : fld X y 45 0 = .ref 46 := rfl
theorem f_45_1 : fld X y 45 1 = .int (-1) := rfl
theorem f_47_0 : fld X y 47 0 = .ref 48 := rfl
theorem f_47_3 : fld X y 47 3 = .ref 49 := rfl
theorem f_47_5 : fld X y 47 5 = .ref 50 := rfl
theorem f_47_11 : fld X y 47 11 = .ref 51 := rfl
theorem f_47_12 : fld X y 47 12 = .ref 52 := rfl
theorem f_47_13 : fld X y 47 13 = .ref 53 := rfl
theorem f_47_14 : fld X y 47 14 = .ref 54 := rfl
theorem f_47_15 : fld X y 47 15 = .ref 55 := rfl
theorem f_47_16 : fld X y 47 16 = .ref 56 := rfl
theorem f_47_17 : fld X y 47 17 = .ref 57 := rfl
theorem f_47_18 : fld X y 47 18 = .ref 58 := rfl
theorem f_47_19 : fld X y 47 19 = .ref 59 := rfl
theorem f_47_20 : fld X y 47 20 = .ref 60 := rfl
theorem f_47_21 : fld X y 47 21 = .ref 61 := rfl
theorem f_47_22 : fld X y 47 22 = .ref 62 := rfl
theorem f_47_24 : fld X y 47 24 = .ref 63 := rfl
theorem f_47_25 : fld X y 47 25 = .ref 64 := rfl
theorem f_47_26 : fld X y 47 26 = .ref 65 := rfl
theorem f_47_27 : fld X y 47 27 = .ref 66 := rfl
theorem f_47_28 : fld X y 47 28 = .ref 67 := rfl
theorem f_47_31 : fld X y 47 31 = .ref 68 := rfl
theorem f_47_32 : fld X y 47 32 = .ref 69 := rfl
theorem f_47_33 : fld X y 47 33 = .ref 70 := rfl
theorem f_47_34 : fld X y 47 34 = .ref 71 := rfl
theorem f_1_1 : fld X y 1 1 = .int (X 1 1) := rfl
theorem u_1_1 {v : Int32} : ip_up (fld X y) 1 1 (.int v) = fld (ip_up X 1 1 v) y := fld_up rfl rfl
theorem f_3_1 : fld X y 3 1 = .int (X 3 1) := rfl
theorem u_3_1 {v : Int32} : ip_up (fld X y) 3 1 (.int v) = fld (ip_up X 3 1 v) y := fld_up rfl rfl
theorem f_5_13 : fld X y 5 13 = .int (X 5 13) := rfl
theorem u_5_13 {v : Int32} : ip_up (fld X y) 5 13 (.int v) = fld (ip_up X 5 13 v) y := fld_up rfl rfl
theorem f_5_14 : fld X y 5 14 = .int (X 5 14) := rfl
theorem u_5_14 {v : Int32} : ip_up (fld X y) 5 14 (.int v) = fld (ip_up X 5 14 v) y := fld_up rfl rfl
theorem f_6_1 : fld X y 6 1 = .int (X 6 1) := rfl
theorem u_6_1 {v : Int32} : ip_up (fld X y) 6 1 (.int v) = fld (ip_up X 6 1 v) y := fld_up rfl rfl
theorem f_8_1 : fld X y 8 1 = .int (X 8 1) := rfl
theorem u_8_1 {v : Int32} : ip_up (fld X y) 8 1 (.int v) = fld (ip_up X 8 1 v) y := fld_up rfl rfl
theorem f_10_1 : fld X y 10 1 = .int (X 10 1) := rfl
theorem u_10_1 {v : Int32} : ip_up (fld X y) 10 1 (.int v) = fld (ip_up X 10 1 v) y := fld_up rfl rfl
theorem f_12_1 : fld X y 12 1 = .int (X 12 1) := rfl
theorem u_12_1 {v : Int32} : ip_up (fld X y) 12 1 (.int v) = fld (ip_up X 12 1 v) y := fld_up rfl rfl
theorem f_32_3 : fld X y 32 3 = .int (X 32 3) := rfl
theorem u_32_3 {v : Int32} : ip_up (fld X y) 32 3 (.int v) = fld (ip_up X 32 3 v) y := fld_up rfl rfl
theorem f_32_4 : fld X y 32 4 = .int (X 32 4) := rfl
theorem u_32_4 {v : Int32} : ip_up (fld X y) 32 4 (.int v) = fld (ip_up X 32 4 v) y := fld_up rfl rfl
theorem f_32_5 : fld X y 32 5 = .int (X 32 5) := rfl
theorem u_32_5 {v : Int32} : ip_up (fld X y) 32 5 (.int v) = fld (ip_up X 32 5 v) y := fld_up rfl rfl
theorem f_32_6 : fld X y 32 6 = .int (X 32 6) := rfl
theorem u_32_6 {v : Int32} : ip_up (fld X y) 32 6 (.int v) = fld (ip_up X 32 6 v) y := fld_up rfl rfl
theorem f_32_7 : fld X y 32 7 = .int (X 32 7) := rfl
theorem u_32_7 {v : Int32} : ip_up (fld X y) 32 7 (.int v) = fld (ip_up X 32 7 v) y := fld_up rfl rfl
theorem f_32_8 : fld X y 32 8 = .int (X 32 8) := rfl
theorem u_32_8 {v : Int32} : ip_up (fld X y) 32 8 (.int v) = fld (ip_up X 32 8 v) y := fld_up rfl rfl
theorem f_33_2 : fld X y 33 2 = .int (X 33 2) := rfl
theorem u_33_2 {v : Int32} : ip_up (fld X y) 33 2 (.int v) = fld (ip_up X 33 2 v) y := fld_up rfl rfl
theorem f_33_3 : fld X y 33 3 = .int (X 33 3) := rfl
theorem u_33_3 {v : Int32} : ip_up (fld X y) 33 3 (.int v) = fld (ip_up X 33 3 v) y := fld_up rfl rfl
theorem f_33_4 : fld X y 33 4 = .int (X 33 4) := rfl
theorem u_33_4 {v : Int32} : ip_up (fld X y) 33 4 (.int v) = fld (ip_up X 33 4 v) y := fld_up rfl rfl
theorem f_33_6 : fld X y 33 6 = .int (X 33 6) := rfl
theorem u_33_6 {v : Int32} : ip_up (fld X y) 33 6 (.int v) = fld (ip_up X 33 6 v) y := fld_up rfl rfl
theorem f_37_2 : fld X y 37 2 = .int (X 37 2) := rfl
theorem u_37_2 {v : Int32} : ip_up (fld X y) 37 2 (.int v) = fld (ip_up X 37 2 v) y := fld_up rfl rfl
theorem f_42_2 : fld X y 42 2 = .int (X 42 2) := rfl
theorem u_42_2 {v : Int32} : ip_up (fld X y) 42 2 (.int v) = fld (ip_up X 42 2 v) y := fld_up rfl rfl
theorem f_47_1 : fld X y 47 1 = .int (X 47 1) := rfl
theorem u_47_1 {v : Int32} : ip_up (fld X y) 47 1 (.int v) = fld (ip_up X 47 1 v) y := fld_up rfl rfl
theorem f_47_2 : fld X y 47 2 = .int (X 47 2) := rfl
theorem u_47_2 {v : Int32} : ip_up (fld X y) 47 2 (.int v) = fld (ip_up X 47 2 v) y := fld_up rfl rfl
theorem f_47_4 : fld X y 47 4 = .int (X 47 4) := rfl
theorem u_47_4 {v : Int32} : ip_up (fld X y) 47 4 (.int v) = fld (ip_up X 47 4 v) y := fld_up rfl rfl
theorem f_47_6 : fld X y 47 6 = .int (X 47 6) := rfl
theorem u_47_6 {v : Int32} : ip_up (fld X y) 47 6 (.int v) = fld (ip_up X 47 6 v) y := fld_up rfl rfl
theorem f_47_7 : fld X y 47 7 = .int (X 47 7) := rfl
theorem u_47_7 {v : Int32} : ip_up (fld X y) 47 7 (.int v) = fld (ip_up X 47 7 v) y := fld_up rfl rfl
theorem f_47_8 : fld X y 47 8 = .int (X 47 8) := rfl
theorem u_47_8 {v : Int32} : ip_up (fld X y) 47 8 (.int v) = fld (ip_up X 47 8 v) y := fld_up rfl rfl
theorem f_47_9 : fld X y 47 9 = .int (X 47 9) := rfl
theorem u_47_9 {v : Int32} : ip_up (fld X y) 47 9 (.int v) = fld (ip_up X 47 9 v) y := fld_up rfl rfl
theorem f_47_10 : fld X y 47 10 = .int (X 47 10) := rfl
theorem u_47_10 {v : Int32} : ip_up (fld X y) 47 10 (.int v) = fld (ip_up X 47 10 v) y := fld_up rfl rfl
theorem f_47_23 : fld X y 47 23 = .int (X 47 23) := rfl
theorem u_47_23 {v : Int32} : ip_up (fld X y) 47 23 (.int v) = fld (ip_up X 47 23 v) y := fld_up rfl rfl
theorem f_47_29 : fld X y 47 29 = .int (X 47 29) := rfl
theorem u_47_29 {v : Int32} : ip_up (fld X y) 47 29 (.int v) = fld (ip_up X 47 29 v) y := fld_up rfl rfl
theorem f_47_30 : fld X y 47 30 = .int (X 47 30) := rfl
theorem u_47_30 {v : Int32} : ip_up (fld X y) 47 30 (.int v) = fld (ip_up X 47 30 v) y := fld_up rfl rfl
theorem f_47_35 : fld X y 47 35 = .int (X 47 35) := rfl
theorem u_47_35 {v : Int32} : ip_up (fld X y) 47 35 (.int v) = fld (ip_up X 47 35 v) y := fld_up rfl rfl
theorem f_47_36 : fld X y 47 36 = .int (X 47 36) := rfl
theorem u_47_36 {v : Int32} : ip_up (fld X y) 47 36 (.int v) = fld (ip_up X 47 36 v) y := fld_up rfl rfl
theorem f_47_37 : fld X y 47 37 = .int (X 47 37) := rfl
theorem u_47_37 {v : Int32} : ip_up (fld X y) 47 37 (.int v) = fld (ip_up X 47 37 v) y := fld_up rfl rfl
theorem f_47_38 : fld X y 47 38 = .int (X 47 38) := rfl
theorem u_47_38 {v : Int32} : ip_up (fld X y) 47 38 (.int v) = fld (ip_up X 47 38 v) y := fld_up rfl rfl
theorem f_33_5 : fld X y 33 5 = .long y := rfl
theorem u_33_5 {v : Int64} : ip_up (fld X y) 33 5 (.long v) = fld X v := fld_upy
end
theorem g0len : g0.length = 73 := rfl
theorem o_0 : ip_isO g0 0 0 = true := rfl
theorem o_1 : ip_isO g0 1 2 = true := rfl
theorem a_2 {i : Int32} : ip_inA g0 2 1 i = decide (¬ (i < 0 ∨ 4160 ≤ i.toNatClampNeg)) := ip_inA_eq rfl
theorem an_2 {i : Int32} : ip_inA g0 2 3 i = false := ip_inA_ne rfl (by decide)
theorem l_2 : ip_lenA g0 2 = some 4160 := rfl
theorem o_3 : ip_isO g0 3 2 = true := rfl
theorem a_4 {i : Int32} : ip_inA g0 4 1 i = decide (¬ (i < 0 ∨ 4160 ≤ i.toNatClampNeg)) := ip_inA_eq rfl
theorem an_4 {i : Int32} : ip_inA g0 4 3 i = false := ip_inA_ne rfl (by decide)
theorem l_4 : ip_lenA g0 4 = some 4160 := rfl
theorem o_5 : ip_isO g0 5 3 = true := rfl
theorem o_6 : ip_isO g0 6 6 = true := rfl
theorem a_7 {i : Int32} : ip_inA g0 7 2 i = decide (¬ (i < 0 ∨ 12 ≤ i.toNatClampNeg)) := ip_inA_eq rfl
theorem l_7 : ip_lenA g0 7 = some 12 := rfl
theorem o_8 : ip_isO g0 8 6 = true := rfl
theorem a_9 {i : Int32} : ip_inA g0 9 2 i = decide (¬ (i < 0 ∨ 12 ≤ i.toNatClampNeg)) := ip_inA_eq rfl
theorem l_9 : ip_lenA g0 9 = some 12 := rfl
theorem o_10 : ip_isO g0 10 6 = true := rfl
theorem a_11 {i : Int32} : ip_inA g0 11 2 i = decide (¬ (i < 0 ∨ 8 ≤ i.toNatClampNeg)) := ip_inA_eq rfl
theorem l_11 : ip_lenA g0 11 = some 8 := rfl
theorem o_12 : ip_isO g0 12 6 = true := rfl
theorem a_13 {i : Int32} : ip_inA g0 13 2 i = decide (¬ (i < 0 ∨ 8 ≤ i.toNatClampNeg)) := ip_inA_eq rfl
theorem l_13 : ip_lenA g0 13 = some 8 := rfl
theorem o_14 : ip_isO g0 14 9 = true := rfl
theorem a_15 {i : Int32} : ip_inA g0 15 0 i = decide (¬ (i < 0 ∨ 12 ≤ i.toNatClampNeg)) := ip_inA_eq rfl
theorem l_15 : ip_lenA g0 15 = some 12 := rfl
theorem o_16 : ip_isO g0 16 9 = true := rfl
theorem a_17 {i : Int32} : ip_inA g0 17 0 i = decide (¬ (i < 0 ∨ 12 ≤ i.toNatClampNeg)) := ip_inA_eq rfl
theorem l_17 : ip_lenA g0 17 = some 12 := rfl
theorem o_18 : ip_isO g0 18 9 = true := rfl
theorem a_19 {i : Int32} : ip_inA g0 19 0 i = decide (¬ (i < 0 ∨ 12 ≤ i.toNatClampNeg)) := ip_inA_eq rfl
theorem l_19 : ip_lenA g0 19 = some 12 := rfl
theorem o_20 : ip_isO g0 20 9 = true := rfl
theorem a_21 {i : Int32} : ip_inA g0 21 0 i = decide (¬ (i < 0 ∨ 7 ≤ i.toNatClampNeg)) := ip_inA_eq rfl
theorem l_21 : ip_lenA g0 21 = some 7 := rfl
theorem o_22 : ip_isO g0 22 9 = true := rfl
theorem a_23 {i : Int32} : ip_inA g0 23 0 i = decide (¬ (i < 0 ∨ 24 ≤ i.toNatClampNeg)) := ip_inA_eq rfl
theorem l_23 : ip_lenA g0 23 = some 24 := rfl
theorem o_24 : ip_isO g0 24 9 = true := rfl
theorem a_25 {i : Int32} : ip_inA g0 25 0 i = decide (¬ (i < 0 ∨ 24 ≤ i.toNatClampNeg)) := ip_inA_eq rfl
theorem l_25 : ip_lenA g0 25 = some 24 := rfl
theorem o_26 : ip_isO g0 26 9 = true := rfl
theorem a_27 {i : Int32} : ip_inA g0 27 0 i = decide (¬ (i < 0 ∨ 8 ≤ i.toNatClampNeg)) := ip_inA_eq rfl
theorem l_27 : ip_lenA g0 27 = some 8 := rfl
theorem o_28 : ip_isO g0 28 9 = true := rfl
theorem a_29 {i : Int32} : ip_inA g0 29 0 i = decide (¬ (i < 0 ∨ 8 ≤ i.toNatClampNeg)) := ip_inA_eq rfl
theorem l_29 : ip_lenA g0 29 = some 8 := rfl
theorem o_30 : ip_isO g0 30 9 = true := rfl
theorem a_31 {i : Int32} : ip_inA g0 31 0 i = decide (¬ (i < 0 ∨ 8 ≤ i.toNatClampNeg)) := ip_inA_eq rfl
theorem l_31 : ip_lenA g0 31 = some 8 := rfl
theorem o_32 : ip_isO g0 32 8 = true := rfl
theorem o_33 : ip_isO g0 33 5 = true := rfl
theorem o_34 : ip_isO g0 34 10 = true := rfl
theorem a_35 {i : Int32} : ip_inA g0 35 2 i = decide (¬ (i < 0 ∨ 17 ≤ i.toNatClampNeg)) := ip_inA_eq rfl
theorem l_35 : ip_lenA g0 35 = some 17 := rfl
theorem o_36 : ip_isO g0 36 7 = true := rfl
theorem o_37 : ip_isO g0 37 4 = true := rfl
theorem o_38 : ip_isO g0 38 9 = true := rfl
theorem a_39 {i : Int32} : ip_inA g0 39 0 i = decide (¬ (i < 0 ∨ 52 ≤ i.toNatClampNeg)) := ip_inA_eq rfl
theorem l_39 : ip_lenA g0 39 = some 52 := rfl
theorem o_40 : ip_isO g0 40 9 = true := rfl
theorem a_41 {i : Int32} : ip_inA g0 41 0 i = decide (¬ (i < 0 ∨ 52 ≤ i.toNatClampNeg)) := ip_inA_eq rfl
theorem l_41 : ip_lenA g0 41 = some 52 := rfl
theorem o_42 : ip_isO g0 42 4 = true := rfl
theorem o_43 : ip_isO g0 43 9 = true := rfl
theorem a_44 {i : Int32} : ip_inA g0 44 0 i = decide (¬ (i < 0 ∨ 68 ≤ i.toNatClampNeg)) := ip_inA_eq rfl
theorem l_44 : ip_lenA g0 44 = some 68 := rfl
theorem o_45 : ip_isO g0 45 9 = true := rfl
theorem a_46 {i : Int32} : ip_inA g0 46 0 i = decide (¬ (i < 0 ∨ 68 ≤ i.toNatClampNeg)) := ip_inA_eq rfl
theorem l_46 : ip_lenA g0 46 = some 68 := rfl
theorem o_47 : ip_isO g0 47 1 = true := rfl
theorem a_48 {i : Int32} : ip_inA g0 48 0 i = decide (¬ (i < 0 ∨ 103 ≤ i.toNatClampNeg)) := ip_inA_eq rfl
theorem l_48 : ip_lenA g0 48 = some 103 := rfl
theorem a_49 {i : Int32} : ip_inA g0 49 0 i = decide (¬ (i < 0 ∨ 4400 ≤ i.toNatClampNeg)) := ip_inA_eq rfl
theorem l_49 : ip_lenA g0 49 = some 4400 := rfl
theorem a_50 {i : Int32} : ip_inA g0 50 0 i = decide (¬ (i < 0 ∨ 4400 ≤ i.toNatClampNeg)) := ip_inA_eq rfl
theorem l_50 : ip_lenA g0 50 = some 4400 := rfl
theorem a_51 {i : Int32} : ip_inA g0 51 0 i = decide (¬ (i < 0 ∨ 4400 ≤ i.toNatClampNeg)) := ip_inA_eq rfl
theorem l_51 : ip_lenA g0 51 = some 4400 := rfl
theorem a_52 {i : Int32} : ip_inA g0 52 0 i = decide (¬ (i < 0 ∨ 40 ≤ i.toNatClampNeg)) := ip_inA_eq rfl
theorem l_52 : ip_lenA g0 52 = some 40 := rfl
theorem a_53 {i : Int32} : ip_inA g0 53 0 i = decide (¬ (i < 0 ∨ 40 ≤ i.toNatClampNeg)) := ip_inA_eq rfl
theorem l_53 : ip_lenA g0 53 = some 40 := rfl
theorem a_54 {i : Int32} : ip_inA g0 54 0 i = decide (¬ (i < 0 ∨ 40 ≤ i.toNatClampNeg)) := ip_inA_eq rfl
theorem l_54 : ip_lenA g0 54 = some 40 := rfl
theorem a_55 {i : Int32} : ip_inA g0 55 0 i = decide (¬ (i < 0 ∨ 40 ≤ i.toNatClampNeg)) := ip_inA_eq rfl
theorem l_55 : ip_lenA g0 55 = some 40 := rfl
theorem a_56 {i : Int32} : ip_inA g0 56 0 i = decide (¬ (i < 0 ∨ 4 ≤ i.toNatClampNeg)) := ip_inA_eq rfl
theorem l_56 : ip_lenA g0 56 = some 4 := rfl
theorem a_57 {i : Int32} : ip_inA g0 57 0 i = decide (¬ (i < 0 ∨ 48 ≤ i.toNatClampNeg)) := ip_inA_eq rfl
theorem l_57 : ip_lenA g0 57 = some 48 := rfl
theorem a_58 {i : Int32} : ip_inA g0 58 0 i = decide (¬ (i < 0 ∨ 12 ≤ i.toNatClampNeg)) := ip_inA_eq rfl
theorem l_58 : ip_lenA g0 58 = some 12 := rfl
theorem a_59 {i : Int32} : ip_inA g0 59 3 i = decide (¬ (i < 0 ∨ 12 ≤ i.toNatClampNeg)) := ip_inA_eq rfl
theorem an_59 {i : Int32} : ip_inA g0 59 1 i = false := ip_inA_ne rfl (by decide)
theorem l_59 : ip_lenA g0 59 = some 12 := rfl
theorem a_60 {i : Int32} : ip_inA g0 60 0 i = decide (¬ (i < 0 ∨ 12 ≤ i.toNatClampNeg)) := ip_inA_eq rfl
theorem l_60 : ip_lenA g0 60 = some 12 := rfl
theorem a_61 {i : Int32} : ip_inA g0 61 3 i = decide (¬ (i < 0 ∨ 12 ≤ i.toNatClampNeg)) := ip_inA_eq rfl
theorem an_61 {i : Int32} : ip_inA g0 61 1 i = false := ip_inA_ne rfl (by decide)
theorem l_61 : ip_lenA g0 61 = some 12 := rfl
theorem a_62 {i : Int32} : ip_inA g0 62 0 i = decide (¬ (i < 0 ∨ 7 ≤ i.toNatClampNeg)) := ip_inA_eq rfl
theorem l_62 : ip_lenA g0 62 = some 7 := rfl
theorem a_63 {i : Int32} : ip_inA g0 63 0 i = decide (¬ (i < 0 ∨ 24 ≤ i.toNatClampNeg)) := ip_inA_eq rfl
theorem l_63 : ip_lenA g0 63 = some 24 := rfl
theorem a_64 {i : Int32} : ip_inA g0 64 0 i = decide (¬ (i < 0 ∨ 24 ≤ i.toNatClampNeg)) := ip_inA_eq rfl
theorem l_64 : ip_lenA g0 64 = some 24 := rfl
theorem a_65 {i : Int32} : ip_inA g0 65 0 i = decide (¬ (i < 0 ∨ 8 ≤ i.toNatClampNeg)) := ip_inA_eq rfl
theorem l_65 : ip_lenA g0 65 = some 8 := rfl
theorem a_66 {i : Int32} : ip_inA g0 66 0 i = decide (¬ (i < 0 ∨ 8 ≤ i.toNatClampNeg)) := ip_inA_eq rfl
theorem l_66 : ip_lenA g0 66 = some 8 := rfl
theorem a_67 {i : Int32} : ip_inA g0 67 3 i = decide (¬ (i < 0 ∨ 96 ≤ i.toNatClampNeg)) := ip_inA_eq rfl
theorem an_67 {i : Int32} : ip_inA g0 67 1 i = false := ip_inA_ne rfl (by decide)
theorem l_67 : ip_lenA g0 67 = some 96 := rfl
theorem a_68 {i : Int32} : ip_inA g0 68 0 i = decide (¬ (i < 0 ∨ 64 ≤ i.toNatClampNeg)) := ip_inA_eq rfl
theorem l_68 : ip_lenA g0 68 = some 64 := rfl
theorem a_69 {i : Int32} : ip_inA g0 69 0 i = decide (¬ (i < 0 ∨ 64 ≤ i.toNatClampNeg)) := ip_inA_eq rfl
theorem l_69 : ip_lenA g0 69 = some 64 := rfl
theorem a_70 {i : Int32} : ip_inA g0 70 0 i = decide (¬ (i < 0 ∨ 80 ≤ i.toNatClampNeg)) := ip_inA_eq rfl
theorem l_70 : ip_lenA g0 70 = some 80 := rfl
theorem a_71 {i : Int32} : ip_inA g0 71 0 i = decide (¬ (i < 0 ∨ 80 ≤ i.toNatClampNeg)) := ip_inA_eq rfl
theorem l_71 : ip_lenA g0 71 = some 80 := rfl
theorem a_72 {i : Int32} : ip_inA g0 72 2 i = decide (¬ (i < 0 ∨ 1 ≤ i.toNatClampNeg)) := ip_inA_eq rfl
theorem l_72 : ip_lenA g0 72 = some 1 := rfl
