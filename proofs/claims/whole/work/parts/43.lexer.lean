/-! CoreText$Lexer at its cells: the text is bytes T 0 .. n-1 -/
def txt (I : Nat → Nat → Int32) (j : Nat) : Int32 := I 2 j &&& 255
theorem and_le (x m : Int32) {k : Nat} (hm : m.toBitVec.toNat = k) (hk : k < 2 ^ 31) : 0 ≤ (x &&& m).toInt ∧ (x &&& m).toInt ≤ (k : Int) := by
  have hn : (x &&& m).toBitVec.toNat ≤ k := by
    rw [Int32.toBitVec_and, BitVec.toNat_and, ← hm]
    exact Nat.and_le_right
  have e : (x &&& m).toInt = ((x &&& m).toBitVec.toNat : Int) := BitVec.toInt_eq_toNat_of_lt (by omega)
  rw [e]
  omega
theorem txt_int (I : Nat → Nat → Int32) (j : Nat) : 0 ≤ (txt I j).toInt ∧ (txt I j).toInt < 256 := by
  have h1 := and_le (I 2 j) 255 (k := 255) (by decide) (by decide)
  unfold txt
  omega
theorem txt_ne {I : Nat → Nat → Int32} {j : Nat} : ¬ txt I j = -1 := by
  intro h
  have h1 := (txt_int I j).1
  rw [h] at h1
  exact absurd h1 (by decide)
/-- where the white ends -/
def swT (T : Nat → Int32) : Nat → Nat → Bool → Nat
  | 0, p, _ => p
  | m + 1, p, c => if T p = 35 then swT T m (p + 1) true else if T p = 10 then swT T m (p + 1) false else if c = true then swT T m (p + 1) true else if isBl (T p) then swT T m (p + 1) false else p
/-- a name's end and key -/
def tnm (T : Nat → Int32) : Nat → Nat → Int64 → Nat × Int64
  | 0, p, k => (p, k)
  | m + 1, p, k => if cod (T p) ≤ 0 then (p, k) else tnm T m (p + 1) (k * 37 + (cod (T p)).toInt64)
/-- a number's end and value -/
def tnb (T : Nat → Int32) : Nat → Nat → Int32 → Nat × Int32
  | 0, p, v => (p, v)
  | m + 1, p, v => if isDg (T p) then tnb T m (p + 1) (if 1000 ≤ v then v else v * 10 + T p - 48) else (p, v)
/-- the word with this key, or -1 -/
def wfi (f : Nat → Int64) (key : Int64) : Nat → Nat → Int32
  | 0, _ => -1
  | m + 1, i => if f i = key then 256 + nI i else wfi f key m (i + 1)
abbrev Lx : Type := Int32 × Nat × Nat × Int64 × Int32
abbrev Lx.kind (l : Lx) : Int32 := l.1
abbrev Lx.place (l : Lx) : Nat := l.2.1
abbrev Lx.next (l : Lx) : Nat := l.2.2.1
abbrev Lx.key (l : Lx) : Int64 := l.2.2.2.1
abbrev Lx.num (l : Lx) : Int32 := l.2.2.2.2
/-- the lexeme behind p -/
def lexT (T : Nat → Int32) (W : Nat → Int64) (n p : Nat) (y : Int64) (v : Int32) : Lx :=
  let p0 := swT T (n - p) p false
  if n ≤ p0 then ⟨1, p0, p0, y, v⟩
  else if isSm (T p0) then
    (let q := tnm T (n - p0) p0 0
     ⟨if nI q.1 - nI p0 ≤ 12 then (if wfi W q.2 17 0 = -1 then 2 else wfi W q.2 17 0) else 0, p0, q.1, q.2, v⟩)
  else if isDg (T p0) then
    (let q := tnb T (n - p0) p0 0
     ⟨3, p0, q.1, y, q.2⟩)
  else if T p0 = 44 ∨ T p0 = 58 ∨ T p0 = 59 ∨ T p0 = 61 ∨ T p0 = 62 then ⟨T p0, p0, p0 + 1, y, v⟩
  else ⟨0, p0, p0, y, v⟩
def lxX (X : Nat → Nat → Int32) (l : Lx) : Nat → Nat → Int32 := ip_up (ip_up (ip_up (ip_up X 33 2 (nI l.next)) 33 3 l.kind) 33 4 (nI l.place)) 33 6 l.num
theorem lx_can {X X' : Nat → Nat → Int32} {l : Lx} (h1 : ∀ k, k ≠ 33 → X' k = X k) (h2 : X' 33 2 = nI l.next) (h3 : X' 33 3 = l.kind) (h4 : X' 33 4 = nI l.place) (h6 : X' 33 6 = l.num) (h0 : ∀ j, j ≠ 2 → j ≠ 3 → j ≠ 4 → j ≠ 6 → X' 33 j = X 33 j) : X' = lxX X l := by
  funext a c
  by_cases ha : a = 33
  · subst ha
    simp only [lxX, up1, updF_ap, if_true]
    by_cases c6 : c = 6
    · rw [if_pos c6, c6, h6]
    · by_cases c4 : c = 4
      · rw [if_neg c6, if_pos c4, c4, h4]
      · by_cases c3 : c = 3
        · rw [if_neg c6, if_neg c4, if_pos c3, c3, h3]
        · by_cases c2 : c = 2
          · rw [if_neg c6, if_neg c4, if_neg c3, if_pos c2, c2, h2]
          · rw [if_neg c6, if_neg c4, if_neg c3, if_neg c2, h0 c c2 c3 c4 c6]
  · rw [h1 a ha]
    simp only [lxX, up1, ha, if_false]
theorem sw_ge (T : Nat → Int32) : ∀ (m p : Nat) (c : Bool), p ≤ swT T m p c ∧ swT T m p c ≤ p + m := by
  intro m
  induction m with
  | zero => intro p c; exact ⟨Nat.le_refl p, Nat.le_refl p⟩
  | succ m ih =>
    intro p c
    have ht := ih (p + 1) true
    have hf := ih (p + 1) false
    unfold swT
    split
    · omega
    · split
      · omega
      · split
        · omega
        · split <;> omega
theorem tnm_ge (T : Nat → Int32) : ∀ (m p : Nat) (k : Int64), p ≤ (tnm T m p k).1 ∧ (tnm T m p k).1 ≤ p + m := by
  intro m
  induction m with
  | zero => intro p k; exact ⟨Nat.le_refl p, Nat.le_refl p⟩
  | succ m ih =>
    intro p k
    have h := ih (p + 1) (k * 37 + (cod (T p)).toInt64)
    unfold tnm
    split
    · exact ⟨Nat.le_refl p, by show p ≤ p + (m + 1); omega⟩
    · omega
theorem tnb_ge (T : Nat → Int32) : ∀ (m p : Nat) (v : Int32), p ≤ (tnb T m p v).1 ∧ (tnb T m p v).1 ≤ p + m := by
  intro m
  induction m with
  | zero => intro p k; exact ⟨Nat.le_refl p, Nat.le_refl p⟩
  | succ m ih =>
    intro p v
    have h := ih (p + 1) (if 1000 ≤ v then v else v * 10 + T p - 48)
    unfold tnb
    split
    · omega
    · exact ⟨Nat.le_refl p, by show p ≤ p + (m + 1); omega⟩
section
variable {X : Nat → Nat → Int32} {y : Int64} {I : Nat → Nat → Int32} {J : Nat → Nat → Int64} {b : ip_B} {post : Option Value → ip_H → Prop} {px : String → ip_H → Prop}
theorem lx_kind : ip_WP 127 0 [some (.ref 33)] [] (g0, fld X y, I, J) b post px ↔ post (some (.int (X 33 3))) (g0, fld X y, I, J) := by
  simp only [s127_0, s127_1, s127_4, f_33_0, f_33_1, f_33_2, u_33_2, f_33_3, u_33_3, f_33_4, u_33_4, f_33_5, u_33_5, f_33_6, u_33_6, o_33, Option.toList_some, Option.toList_none, List.cons_append, List.nil_append, List.append_nil, ip_on_some, true_and, and_true, if_true, if_false, not_true_eq_false, not_false_eq_true, decide_true, true_or, or_true, or_self, Bool.false_eq_true]
theorem lx_place : ip_WP 128 0 [some (.ref 33)] [] (g0, fld X y, I, J) b post px ↔ post (some (.int (X 33 4))) (g0, fld X y, I, J) := by
  simp only [s128_0, s128_1, s128_4, f_33_0, f_33_1, f_33_2, u_33_2, f_33_3, u_33_3, f_33_4, u_33_4, f_33_5, u_33_5, f_33_6, u_33_6, o_33, Option.toList_some, Option.toList_none, List.cons_append, List.nil_append, List.append_nil, ip_on_some, true_and, and_true, if_true, if_false, not_true_eq_false, not_false_eq_true, decide_true, true_or, or_true, or_self, Bool.false_eq_true]
theorem lx_key : ip_WP 129 0 [some (.ref 33)] [] (g0, fld X y, I, J) b post px ↔ post (some (.long y)) (g0, fld X y, I, J) := by
  simp only [s129_0, s129_1, s129_4, f_33_0, f_33_1, f_33_2, u_33_2, f_33_3, u_33_3, f_33_4, u_33_4, f_33_5, u_33_5, f_33_6, u_33_6, o_33, Option.toList_some, Option.toList_none, List.cons_append, List.nil_append, List.append_nil, ip_on_some, true_and, and_true, if_true, if_false, not_true_eq_false, not_false_eq_true, decide_true, true_or, or_true, or_self, Bool.false_eq_true]
theorem lx_num : ip_WP 130 0 [some (.ref 33)] [] (g0, fld X y, I, J) b post px ↔ post (some (.int (X 33 6))) (g0, fld X y, I, J) := by
  simp only [s130_0, s130_1, s130_4, f_33_0, f_33_1, f_33_2, u_33_2, f_33_3, u_33_3, f_33_4, u_33_4, f_33_5, u_33_5, f_33_6, u_33_6, o_33, Option.toList_some, Option.toList_none, List.cons_append, List.nil_append, List.append_nil, ip_on_some, true_and, and_true, if_true, if_false, not_true_eq_false, not_false_eq_true, decide_true, true_or, or_true, or_self, Bool.false_eq_true]
def bgX (X : Nat → Nat → Int32) : Nat → Nat → Int32 := ip_up (ip_up (ip_up (ip_up X 33 2 0) 33 4 0) 33 3 0) 33 6 0
theorem lx_begin : ip_WP 126 0 [some (.ref 33)] [] (g0, fld X y, I, J) b post px ↔ post none (g0, fld (bgX X) 0, I, J) := by
  simp only [s126_0, s126_1, s126_2, s126_5, s126_6, s126_7, s126_10, s126_11, s126_12, s126_15, s126_16, s126_17, s126_20, s126_21, s126_22, s126_25, f_33_0, f_33_1, f_33_2, u_33_2, f_33_3, u_33_3, f_33_4, u_33_4, f_33_5, u_33_5, f_33_6, u_33_6, o_33, Option.toList_some, Option.toList_none, List.cons_append, List.nil_append, List.append_nil, ip_on_some, true_and, and_true, if_true, if_false, not_true_eq_false, not_false_eq_true, decide_true, true_or, or_true, or_self, Bool.false_eq_true]
  exact Iff.rfl
theorem lx_sw (a1 : 0 ≤ X 1 1) (b1 : X 1 1 ≤ 4160) : ∀ (m p : Nat) (v : Int32) (x2 : Option Value), p + m = (X 1 1).toNatClampNeg → (ip_WP 132 2 [some (.ref 33), some (.int v), x2] [] (g0, fld (ip_up X 33 2 (nI p)) y, I, J) b post px ↔ post none (g0, fld (ip_up X 33 2 (nI (swT (txt I) m p (decide (¬ v = 0))))) y, I, J)) := by
  have e := cn_eq a1
  have hl := cn_le (n := 4160) a1 b1 (by decide)
  intro m
  induction m with
  | zero =>
    intro p v x2 hp
    have c1 : X 1 1 ≤ nI p := by rw [e]; exact nI_le (by omega) (by omega)
    rw [s132_2]
    simp only [s132_0, s132_1, s132_3, s132_6, s132_7, s132_10, s132_13, s132_16, s132_17, s132_20, s132_21, s132_24, s132_27, s132_28, s132_29, s132_31, s132_34, s132_35, s132_36, s132_39, s132_40, s132_42, s132_45, s132_46, s132_47, s132_48, s132_51, s132_52, s132_55, s132_58, s132_59, s132_60, s132_61, s132_64, s132_65, s132_66, s132_69, s132_72, f_1_0, f_1_1, u_1_1, f_33_0, f_33_1, f_33_2, u_33_2, f_33_3, u_33_3, f_33_4, u_33_4, f_33_5, u_33_5, f_33_6, u_33_6, o_1, o_33, bs_1, up1, updF_ap, c1, swT, Option.toList_some, Option.toList_none, List.cons_append, List.nil_append, List.append_nil, ip_on_some, true_and, and_true, if_true, if_false, not_true_eq_false, not_false_eq_true, decide_true, true_or, or_true, or_self, Bool.false_eq_true, reduceCtorEq, Nat.reduceEqDiff]
  | succ m ih =>
    intro p v x2 hp
    have c1 : ¬ X 1 1 ≤ nI p := by rw [e]; exact nI_ge (by omega) (by omega)
    have hg : bget (I 2) (X 1 1).toNatClampNeg (nI p) = txt I p := bget_nI (by omega) (by omega)
    have ih' := fun v x2 => ih (p + 1) v x2 (by omega)
    rw [s132_2]
    simp only [s132_0, s132_1, s132_3, s132_6, s132_7, s132_10, s132_13, s132_16, s132_17, s132_20, s132_21, s132_24, s132_27, s132_28, s132_29, s132_31, s132_34, s132_35, s132_36, s132_39, s132_40, s132_42, s132_45, s132_46, s132_47, s132_48, s132_51, s132_52, s132_55, s132_58, s132_59, s132_60, s132_61, s132_64, s132_65, s132_66, s132_69, s132_72, f_1_0, f_1_1, u_1_1, f_33_0, f_33_1, f_33_2, u_33_2, f_33_3, u_33_3, f_33_4, u_33_4, f_33_5, u_33_5, f_33_6, u_33_6, o_1, o_33, bs_1, bt_1, a1, b1, up1, updF_ap, c1, hg, ct_isBl, bI_0, up_up, nI_1, ih', Option.toList_some, Option.toList_none, List.cons_append, List.nil_append, List.append_nil, ip_on_some, true_and, and_true, if_true, if_false, not_true_eq_false, not_false_eq_true, decide_true, true_or, or_true, or_self, Bool.false_eq_true, Nat.reduceEqDiff, swT]
    by_cases q1 : txt I p = 35
    · simp [q1]
    · by_cases q2 : txt I p = 10
      · simp [q2, isBl]
      · by_cases q3 : v = 0
        · by_cases q4 : isBl (txt I p)
          · simp [q1, q2, q3, q4]
          · simp [q1, q2, q3, q4]
        · simp [q1, q2, q3]
theorem lx_skip (a1 : 0 ≤ X 1 1) (b1 : X 1 1 ≤ 4160) {p : Nat} (hp : X 33 2 = nI p) (hn : p ≤ (X 1 1).toNatClampNeg) : ip_WP 132 0 [some (.ref 33), none, none] [] (g0, fld X y, I, J) b post px ↔ post none (g0, fld (ip_up X 33 2 (nI (swT (txt I) ((X 1 1).toNatClampNeg - p) p false))) y, I, J) := by
  have h := lx_sw (y := y) (I := I) (J := J) (b := b) (post := post) (px := px) a1 b1 ((X 1 1).toNatClampNeg - p) p 0 none (by omega)
  rw [up_self hp] at h
  rw [s132_0, s132_1, h]
  simp
theorem lx_word {key : Int64} : ip_WP 196 0 [some (.ref 34), some (.long key), none, none] [] (g0, fld X y, I, J) b post px ↔ post (some (.int (wfi (J 35) key 17 0))) (g0, fld X y, I, J) := by
  have h : ∀ (m i : Nat), i + m = 17 → (ip_WP 196 2 [some (.ref 34), some (.long key), none, some (.int (nI i))] [] (g0, fld X y, I, J) b post px ↔ post (some (.int (wfi (J 35) key m i))) (g0, fld X y, I, J)) := by
    intro m
    induction m with
    | zero =>
      intro i hi
      have c1 : (17 : Int32) ≤ nI i := nI_le (a := 17) (by omega) (by omega)
      rw [s196_2]
      simp only [s196_0, s196_1, s196_3, s196_5, s196_8, s196_9, s196_12, s196_13, s196_14, s196_15, s196_16, s196_19, s196_22, s196_23, s196_24, s196_25, s196_28, s196_31, s196_32, c1, wfi, Option.toList_some, Option.toList_none, List.cons_append, List.nil_append, List.append_nil, ip_on_some, true_and, and_true, if_true, if_false, not_true_eq_false, not_false_eq_true, decide_true, true_or, or_true, or_self, Bool.false_eq_true]
    | succ m ih =>
      intro i hi
      have c1 : ¬ (17 : Int32) ≤ nI i := nI_ge (b := 17) (by omega) (by decide)
      have c2 : ¬ nI i < 0 := nI_pos (by omega)
      have c3 : ¬ 17 ≤ i := by omega
      rw [s196_2]
      simp only [s196_0, s196_1, s196_3, s196_5, s196_8, s196_9, s196_12, s196_13, s196_14, s196_15, s196_16, s196_19, s196_22, s196_23, s196_24, s196_25, s196_28, s196_31, s196_32, f_34_0, o_34, a_35, l_35, c1, nI_clamp (show i < 2 ^ 31 by omega), c2, c3, nI_1, lg_cmp_eq, wfi, Option.toList_some, Option.toList_none, List.cons_append, List.nil_append, List.append_nil, ip_on_some, true_and, and_true, if_true, if_false, not_true_eq_false, not_false_eq_true, decide_true, true_or, or_true, or_self, Bool.false_eq_true]
      rw [ih (i + 1) (by omega)]
      by_cases q : J 35 i = key
      · simp [q]
      · simp [q]
  have h0 := h 17 0 rfl
  rw [nI_0] at h0
  rw [s196_0, s196_1]
  exact h0
theorem lx_nmL (a1 : 0 ≤ X 1 1) (b1 : X 1 1 ≤ 4160) : ∀ (m p : Nat) (k : Int64) (x2 : Option Value), p + m = (X 1 1).toNatClampNeg → (ip_WP 134 20 [some (.ref 33), some (.int (cod (bget (I 2) (X 1 1).toNatClampNeg (nI p)))), x2] [] (g0, fld (ip_up X 33 2 (nI p)) k, I, J) b post px ↔
    ip_WP 134 83 [some (.ref 33), some (.int (cod (bget (I 2) (X 1 1).toNatClampNeg (nI (tnm (txt I) m p k).1)))), x2] [] (g0, fld (ip_up X 33 2 (nI (tnm (txt I) m p k).1)) (tnm (txt I) m p k).2, I, J) b post px) := by
  have e := cn_eq a1
  have hl := cn_le (n := 4160) a1 b1 (by decide)
  intro m
  induction m with
  | zero =>
    intro p k x2 hp
    have c1 : X 1 1 ≤ nI p := by rw [e]; exact nI_le (by omega) (by omega)
    rw [s134_20]
    simp only [s134_21, s134_24, s134_25, s134_28, s134_31, f_1_0, f_1_1, u_1_1, f_33_0, f_33_1, f_33_2, u_33_2, f_33_3, u_33_3, f_33_4, u_33_4, f_33_5, u_33_5, f_33_6, u_33_6, o_1, o_33, bs_1, up1, updF_ap, c1, tnm, Option.toList_some, Option.toList_none, List.cons_append, List.nil_append, List.append_nil, ip_on_some, true_and, and_true, if_true, if_false, not_true_eq_false, not_false_eq_true, decide_true, true_or, or_true, or_self, Bool.false_eq_true, Nat.reduceEqDiff]
  | succ m ih =>
    intro p k x2 hp
    have c1 : ¬ X 1 1 ≤ nI p := by rw [e]; exact nI_ge (by omega) (by omega)
    have hg : bget (I 2) (X 1 1).toNatClampNeg (nI p) = txt I p := bget_nI (by omega) (by omega)
    rw [s134_20, hg]
    simp only [s134_21, s134_24, s134_25, s134_28, s134_31, s134_34, s134_35, s134_38, s134_39, s134_40, s134_43, s134_46, s134_47, s134_48, s134_49, s134_50, s134_53, s134_54, s134_57, s134_58, s134_61, s134_62, s134_63, s134_66, s134_69, s134_70, s134_71, s134_72, s134_75, s134_76, s134_77, s134_80, f_1_0, f_1_1, u_1_1, f_33_0, f_33_1, f_33_2, u_33_2, f_33_3, u_33_3, f_33_4, u_33_4, f_33_5, u_33_5, f_33_6, u_33_6, o_1, o_33, bs_1, bt_1, a1, b1, up1, updF_ap, c1, ct_cod, up_up, nI_1, Option.toList_some, Option.toList_none, List.cons_append, List.nil_append, List.append_nil, ip_on_some, true_and, and_true, if_true, if_false, not_true_eq_false, not_false_eq_true, decide_true, true_or, or_true, or_self, Bool.false_eq_true, Nat.reduceEqDiff, tnm]
    by_cases q : cod (txt I p) ≤ 0
    · simp only [q, if_true, hg]
    · simp only [q, if_false]
      rw [ih (p + 1) _ _ (by omega)]
theorem lx_name (a1 : 0 ≤ X 1 1) (b1 : X 1 1 ≤ 4160) {p : Nat} (hp : X 33 2 = nI p) (hn : p ≤ (X 1 1).toNatClampNeg) : ip_WP 134 0 [some (.ref 33), none, none] [] (g0, fld X y, I, J) b post px ↔
    post none (g0, fld (ip_up (ip_up X 33 2 (nI (tnm (txt I) ((X 1 1).toNatClampNeg - p) p 0).1)) 33 3 (if nI (tnm (txt I) ((X 1 1).toNatClampNeg - p) p 0).1 - X 33 4 ≤ 12 then (if wfi (J 35) (tnm (txt I) ((X 1 1).toNatClampNeg - p) p 0).2 17 0 = -1 then 2 else wfi (J 35) (tnm (txt I) ((X 1 1).toNatClampNeg - p) p 0).2 17 0) else 0)) (tnm (txt I) ((X 1 1).toNatClampNeg - p) p 0).2, I, J) := by
  have h := lx_nmL (I := I) (J := J) (b := b) (post := post) (px := px) a1 b1 ((X 1 1).toNatClampNeg - p) p 0 none (by omega)
  rw [up_self hp] at h
  simp only [s134_0, s134_1, s134_2, s134_5, s134_6, s134_9, s134_10, s134_13, s134_16, s134_19, f_1_0, f_1_1, u_1_1, f_33_0, f_33_1, f_33_2, u_33_2, f_33_3, u_33_3, f_33_4, u_33_4, f_33_5, u_33_5, f_33_6, u_33_6, o_1, o_33, bt_1, a1, b1, hp, ct_cod, Option.toList_some, Option.toList_none, List.cons_append, List.nil_append, List.append_nil, ip_on_some, true_and, and_true, if_true, if_false, not_true_eq_false, not_false_eq_true, decide_true, true_or, or_true, or_self, Bool.false_eq_true]
  rw [h]
  generalize tnm (txt I) ((X 1 1).toNatClampNeg - p) p 0 = q
  simp only [s134_21, s134_24, s134_25, s134_28, s134_31, s134_34, s134_35, s134_38, s134_39, s134_40, s134_43, s134_46, s134_47, s134_48, s134_49, s134_50, s134_53, s134_54, s134_57, s134_58, s134_61, s134_62, s134_63, s134_66, s134_69, s134_70, s134_71, s134_72, s134_75, s134_76, s134_77, s134_80, s134_83, s134_84, s134_87, s134_88, s134_91, s134_92, s134_94, s134_97, s134_98, s134_99, s134_102, s134_103, s134_104, s134_107, s134_108, s134_111, s134_114, s134_115, s134_116, s134_117, s134_118, s134_121, s134_122, s134_125, s134_126, s134_129, f_33_0, f_33_1, f_33_2, u_33_2, f_33_3, u_33_3, f_33_4, u_33_4, f_33_5, u_33_5, f_33_6, u_33_6, f_34_0, o_33, o_34, lx_word, up1, updF_ap, Option.toList_some, Option.toList_none, List.cons_append, List.nil_append, List.append_nil, ip_on_some, true_and, and_true, if_true, if_false, not_true_eq_false, not_false_eq_true, decide_true, true_or, or_true, or_self, Bool.false_eq_true, Nat.reduceEqDiff]
  by_cases c1 : nI q.1 - X 33 4 ≤ 12
  · by_cases c2 : wfi (J 35) q.2 17 0 = -1
    · simp [c1, c2]
    · simp [c1, c2]
  · simp [c1]
theorem up_26 {f : Nat → Nat → Int32} {v w : Int32} : ip_up (ip_up f 33 6 v) 33 2 w = ip_up (ip_up f 33 2 w) 33 6 v := by
  funext a c
  simp only [ip_up]
  by_cases h1 : a = 33 ∧ c = 2
  · rw [if_pos h1, if_neg (by omega), if_pos h1]
  · by_cases h2 : a = 33 ∧ c = 6
    · rw [if_neg h1, if_pos h2, if_pos h2]
    · rw [if_neg h1, if_neg h2, if_neg h2, if_neg h1]
theorem lx_nbL (a1 : 0 ≤ X 1 1) (b1 : X 1 1 ≤ 4160) : ∀ (m p : Nat) (v : Int32), p + m = (X 1 1).toNatClampNeg → (ip_WP 135 10 [some (.ref 33)] [] (g0, fld (ip_up (ip_up X 33 2 (nI p)) 33 6 v) y, I, J) b post px ↔
    post none (g0, fld (ip_up (ip_up X 33 2 (nI (tnb (txt I) m p v).1)) 33 6 (tnb (txt I) m p v).2) y, I, J)) := by
  have e := cn_eq a1
  have hl := cn_le (n := 4160) a1 b1 (by decide)
  intro m
  induction m with
  | zero =>
    intro p v hp
    have c1 : X 1 1 ≤ nI p := by rw [e]; exact nI_le (by omega) (by omega)
    rw [s135_10]
    simp only [s135_11, s135_14, s135_15, s135_18, s135_21, s135_24, s135_25, s135_28, s135_29, s135_32, s135_35, s135_38, s135_41, s135_42, s135_45, s135_48, s135_51, s135_52, s135_53, s135_56, s135_58, s135_59, s135_60, s135_63, s135_64, s135_67, s135_70, s135_71, s135_73, s135_74, s135_77, s135_78, s135_79, s135_82, s135_83, s135_84, s135_87, s135_90, f_1_0, f_1_1, u_1_1, f_33_0, f_33_1, f_33_2, u_33_2, f_33_3, u_33_3, f_33_4, u_33_4, f_33_5, u_33_5, f_33_6, u_33_6, o_1, o_33, bs_1, up1, updF_ap, c1, tnb, Option.toList_some, Option.toList_none, List.cons_append, List.nil_append, List.append_nil, ip_on_some, true_and, and_true, if_true, if_false, not_true_eq_false, not_false_eq_true, decide_true, true_or, or_true, or_self, Bool.false_eq_true, Nat.reduceEqDiff]
  | succ m ih =>
    intro p v hp
    have c1 : ¬ X 1 1 ≤ nI p := by rw [e]; exact nI_ge (by omega) (by omega)
    have hg : bget (I 2) (X 1 1).toNatClampNeg (nI p) = txt I p := bget_nI (by omega) (by omega)
    rw [s135_10]
    simp only [s135_11, s135_14, s135_15, s135_18, s135_21, s135_24, s135_25, s135_28, s135_29, s135_32, s135_35, s135_38, s135_41, s135_42, s135_45, s135_48, s135_51, s135_52, s135_53, s135_56, s135_58, s135_59, s135_60, s135_63, s135_64, s135_67, s135_70, s135_71, s135_73, s135_74, s135_77, s135_78, s135_79, s135_82, s135_83, s135_84, s135_87, s135_90, f_1_0, f_1_1, u_1_1, f_33_0, f_33_1, f_33_2, u_33_2, f_33_3, u_33_3, f_33_4, u_33_4, f_33_5, u_33_5, f_33_6, u_33_6, o_1, o_33, bs_1, bt_1, a1, b1, up1, updF_ap, c1, hg, ct_isDg, bI_0, up_up, up_26, nI_1, Option.toList_some, Option.toList_none, List.cons_append, List.nil_append, List.append_nil, ip_on_some, true_and, and_true, if_true, if_false, not_true_eq_false, not_false_eq_true, decide_true, true_or, or_true, or_self, Bool.false_eq_true, Nat.reduceEqDiff, tnb]
    by_cases q : isDg (txt I p)
    · by_cases q2 : 1000 ≤ v
      · simp only [q, q2, if_true, if_false, not_true_eq_false]
        rw [ih (p + 1) _ (by omega)]
      · simp only [q, q2, if_true, if_false, not_true_eq_false]
        rw [ih (p + 1) _ (by omega)]
    · simp only [q, Option.toList_some, Option.toList_none, List.cons_append, List.nil_append, List.append_nil, ip_on_some, true_and, and_true, if_true, if_false, not_true_eq_false, not_false_eq_true, decide_true, true_or, or_true, or_self, Bool.false_eq_true]
theorem lx_numb (a1 : 0 ≤ X 1 1) (b1 : X 1 1 ≤ 4160) {p : Nat} (hp : X 33 2 = nI p) (hn : p ≤ (X 1 1).toNatClampNeg) : ip_WP 135 0 [some (.ref 33)] [] (g0, fld X y, I, J) b post px ↔
    post none (g0, fld (ip_up (ip_up (ip_up X 33 3 3) 33 2 (nI (tnb (txt I) ((X 1 1).toNatClampNeg - p) p 0).1)) 33 6 (tnb (txt I) ((X 1 1).toNatClampNeg - p) p 0).2) y, I, J) := by
  have h := lx_nbL (X := ip_up X 33 3 3) (y := y) (I := I) (J := J) (b := b) (post := post) (px := px) a1 b1 ((X 1 1).toNatClampNeg - p) p 0 (by show p + ((X 1 1).toNatClampNeg - p) = (X 1 1).toNatClampNeg; omega)
  rw [up_self (f := ip_up X 33 3 3) (k := 33) (j := 2) (v := nI p) hp] at h
  simp only [s135_0, s135_1, s135_2, s135_5, s135_6, s135_7, f_33_0, f_33_1, f_33_2, u_33_2, f_33_3, u_33_3, f_33_4, u_33_4, f_33_5, u_33_5, f_33_6, u_33_6, o_33, Option.toList_some, Option.toList_none, List.cons_append, List.nil_append, List.append_nil, ip_on_some, true_and, and_true, if_true, if_false, not_true_eq_false, not_false_eq_true, decide_true, true_or, or_true, or_self, Bool.false_eq_true]
  exact h
theorem lx_sign {c : Int32} : ip_WP 136 0 [some (.ref 33), some (.int c)] [] (g0, fld X y, I, J) b post px ↔
    post none (g0, fld (if c = 44 ∨ c = 58 ∨ c = 59 ∨ c = 61 ∨ c = 62 then ip_up (ip_up X 33 3 c) 33 2 (X 33 2 + 1) else ip_up X 33 3 0) y, I, J) := by
  simp only [s136_0, s136_1, s136_52, s136_53, s136_54, s136_57, s136_58, s136_59, s136_62, s136_63, s136_64, s136_67, s136_70, s136_71, s136_72, s136_75, f_33_0, f_33_1, f_33_2, u_33_2, f_33_3, u_33_3, f_33_4, u_33_4, f_33_5, u_33_5, f_33_6, u_33_6, o_33, up1, updF_ap, Option.toList_some, Option.toList_none, List.cons_append, List.nil_append, List.append_nil, ip_on_some, true_and, and_true, if_true, if_false, not_true_eq_false, not_false_eq_true, decide_true, true_or, or_true, or_self, Bool.false_eq_true, Nat.reduceEqDiff]
  by_cases h1 : c = 44
  · simp [h1]
  · by_cases h2 : c = 58
    · simp [h2]
    · by_cases h3 : c = 59
      · simp [h3]
      · by_cases h4 : c = 61
        · simp [h4]
        · by_cases h5 : c = 62
          · simp [h5]
          · simp [h1, h2, h3, h4, h5]
def lexH (X : Nat → Nat → Int32) (y : Int64) (I : Nat → Nat → Int32) (J : Nat → Nat → Int64) : Lx := lexT (txt I) (J 35) ((X 1 1).toNatClampNeg) ((X 33 2).toNatClampNeg) y (X 33 6)
theorem lx_adv (a1 : 0 ≤ X 1 1) (b1 : X 1 1 ≤ 4160) (h2 : 0 ≤ X 33 2) (hn : (X 33 2).toNatClampNeg ≤ (X 1 1).toNatClampNeg) : ip_WP 131 0 [some (.ref 33), none] [] (g0, fld X y, I, J) b post px ↔ post none (g0, fld (lxX X (lexH X y I J)) (lexH X y I J).key, I, J) := by
  have hl := cn_le (n := 4160) a1 b1 (by decide)
  have hp := cn_eq h2
  unfold lexH lexT
  generalize (X 33 2).toNatClampNeg = p at hp hn ⊢
  have hs := sw_ge (txt I) ((X 1 1).toNatClampNeg - p) p false
  rw [s131_0, s131_1]
  simp only [o_33, true_and]
  rw [lx_skip a1 b1 hp hn]
  generalize swT (txt I) ((X 1 1).toNatClampNeg - p) p false = p0 at hs ⊢
  have hp0 : p0 ≤ (X 1 1).toNatClampNeg := by omega
  simp only [s131_4, s131_5, s131_6, s131_9, s131_12, s131_13, s131_16, s131_17, s131_20, s131_23, s131_24, s131_25, s131_26, s131_29, s131_30, s131_31, s131_34, s131_37, s131_38, s131_41, s131_44, s131_45, s131_48, s131_51, s131_52, s131_55, s131_58, s131_59, s131_62, s131_65, s131_66, s131_67, s131_70, f_1_0, f_1_1, u_1_1, f_33_0, f_33_1, f_33_2, u_33_2, f_33_3, u_33_3, f_33_4, u_33_4, f_33_5, u_33_5, f_33_6, u_33_6, o_1, o_33, bt_1, a1, b1, up1, updF_ap, ct_isSm, ct_isDg, bI_0, Option.toList_some, Option.toList_none, List.cons_append, List.nil_append, List.append_nil, ip_on_some, true_and, and_true, if_true, if_false, not_true_eq_false, not_false_eq_true, decide_true, true_or, or_true, or_self, Bool.false_eq_true, Nat.reduceEqDiff]
  by_cases c0 : (X 1 1).toNatClampNeg ≤ p0
  · have hg : bget (I 2) (X 1 1).toNatClampNeg (nI p0) = -1 := bget_end c0 (by omega)
    simp only [hg, c0, Option.toList_some, Option.toList_none, List.cons_append, List.nil_append, List.append_nil, ip_on_some, true_and, and_true, if_true, if_false, not_true_eq_false, not_false_eq_true, decide_true, true_or, or_true, or_self, Bool.false_eq_true]
    rw [← lx_can (X := X) (X' := ip_up (ip_up (ip_up X 33 2 (nI p0)) 33 4 (nI p0)) 33 3 1) (l := ⟨1, p0, p0, y, X 33 6⟩) (fun k hk => by simp [up1, hk]) (by simp [up1, updF_ap]) (by simp [up1, updF_ap]) (by simp [up1, updF_ap]) (by simp [up1, updF_ap]) (fun j j2 j3 j4 j6 => by simp [up1, updF_ap, j2, j3, j4])]
    try exact Iff.rfl
  · have hlt : p0 < (X 1 1).toNatClampNeg := by omega
    have hg : bget (I 2) (X 1 1).toNatClampNeg (nI p0) = txt I p0 := bget_nI hlt (by omega)
    have hne : ¬ txt I p0 = -1 := txt_ne
    have a1' : 0 ≤ (ip_up (ip_up X 33 2 (nI p0)) 33 4 (nI p0)) 1 1 := by simpa [up1] using a1
    have b1' : (ip_up (ip_up X 33 2 (nI p0)) 33 4 (nI p0)) 1 1 ≤ 4160 := by simpa [up1] using b1
    have p2 : (ip_up (ip_up X 33 2 (nI p0)) 33 4 (nI p0)) 33 2 = nI p0 := by simp [up1, updF_ap]
    have n2 : p0 ≤ ((ip_up (ip_up X 33 2 (nI p0)) 33 4 (nI p0)) 1 1).toNatClampNeg := by simpa [up1] using hp0
    have e1 : (ip_up (ip_up X 33 2 (nI p0)) 33 4 (nI p0)) 1 1 = X 1 1 := by simp [up1]
    have e4 : (ip_up (ip_up X 33 2 (nI p0)) 33 4 (nI p0)) 33 4 = nI p0 := by simp [up1, updF_ap]
    simp only [hg, c0, hne, Option.toList_some, Option.toList_none, List.cons_append, List.nil_append, List.append_nil, ip_on_some, true_and, and_true, if_true, if_false, not_true_eq_false, not_false_eq_true, decide_true, true_or, or_true, or_self, Bool.false_eq_true]
    by_cases c1 : isSm (txt I p0)
    · simp only [c1, Option.toList_some, Option.toList_none, List.cons_append, List.nil_append, List.append_nil, ip_on_some, true_and, and_true, if_true, if_false, not_true_eq_false, not_false_eq_true, decide_true, true_or, or_true, or_self, Bool.false_eq_true]
      rw [lx_name a1' b1' p2 n2]
      simp only [s131_4, s131_5, s131_6, s131_9, s131_12, s131_13, s131_16, s131_17, s131_20, s131_23, s131_24, s131_25, s131_26, s131_29, s131_30, s131_31, s131_34, s131_37, s131_38, s131_41, s131_44, s131_45, s131_48, s131_51, s131_52, s131_55, s131_58, s131_59, s131_62, s131_65, s131_66, s131_67, s131_70, e1, e4, Option.toList_some, Option.toList_none, List.cons_append, List.nil_append, List.append_nil, ip_on_some, true_and, and_true, if_true, if_false, not_true_eq_false, not_false_eq_true, decide_true, true_or, or_true, or_self, Bool.false_eq_true]
      generalize tnm (txt I) ((X 1 1).toNatClampNeg - p0) p0 0 = q
      generalize (if nI q.1 - nI p0 ≤ 12 then (if wfi (J 35) q.2 17 0 = -1 then 2 else wfi (J 35) q.2 17 0) else 0) = kk
      rw [← lx_can (X := X) (X' := ip_up (ip_up (ip_up (ip_up X 33 2 (nI p0)) 33 4 (nI p0)) 33 2 (nI q.1)) 33 3 kk) (l := ⟨kk, p0, q.1, q.2, X 33 6⟩) (fun k hk => by simp [up1, hk]) (by simp [up1, updF_ap]) (by simp [up1, updF_ap]) (by simp [up1, updF_ap]) (by simp [up1, updF_ap]) (fun j j2 j3 j4 j6 => by simp [up1, updF_ap, j2, j3, j4])]
      try exact Iff.rfl
    · by_cases c2 : isDg (txt I p0)
      · simp only [c1, c2, Option.toList_some, Option.toList_none, List.cons_append, List.nil_append, List.append_nil, ip_on_some, true_and, and_true, if_true, if_false, not_true_eq_false, not_false_eq_true, decide_true, true_or, or_true, or_self, Bool.false_eq_true]
        rw [lx_numb a1' b1' p2 n2]
        simp only [s131_4, s131_5, s131_6, s131_9, s131_12, s131_13, s131_16, s131_17, s131_20, s131_23, s131_24, s131_25, s131_26, s131_29, s131_30, s131_31, s131_34, s131_37, s131_38, s131_41, s131_44, s131_45, s131_48, s131_51, s131_52, s131_55, s131_58, s131_59, s131_62, s131_65, s131_66, s131_67, s131_70, e1, Option.toList_some, Option.toList_none, List.cons_append, List.nil_append, List.append_nil, ip_on_some, true_and, and_true, if_true, if_false, not_true_eq_false, not_false_eq_true, decide_true, true_or, or_true, or_self, Bool.false_eq_true]
        generalize tnb (txt I) ((X 1 1).toNatClampNeg - p0) p0 0 = q
        rw [← lx_can (X := X) (X' := ip_up (ip_up (ip_up (ip_up (ip_up X 33 2 (nI p0)) 33 4 (nI p0)) 33 3 3) 33 2 (nI q.1)) 33 6 q.2) (l := ⟨3, p0, q.1, y, q.2⟩) (fun k hk => by simp [up1, hk]) (by simp [up1, updF_ap]) (by simp [up1, updF_ap]) (by simp [up1, updF_ap]) (by simp [up1, updF_ap]) (fun j j2 j3 j4 j6 => by simp [up1, updF_ap, j2, j3, j4, j6])]
        try exact Iff.rfl
      · simp only [c1, c2, lx_sign, Option.toList_some, Option.toList_none, List.cons_append, List.nil_append, List.append_nil, ip_on_some, true_and, and_true, if_true, if_false, not_true_eq_false, not_false_eq_true, decide_true, true_or, or_true, or_self, Bool.false_eq_true]
        by_cases c3 : txt I p0 = 44 ∨ txt I p0 = 58 ∨ txt I p0 = 59 ∨ txt I p0 = 61 ∨ txt I p0 = 62
        · rw [if_pos c3, if_pos c3, p2, nI_1, s131_70]
          rw [← lx_can (X := X) (X' := ip_up (ip_up (ip_up (ip_up X 33 2 (nI p0)) 33 4 (nI p0)) 33 3 (txt I p0)) 33 2 (nI (p0 + 1))) (l := ⟨txt I p0, p0, p0 + 1, y, X 33 6⟩) (fun k hk => by simp [up1, hk]) (by simp [up1, updF_ap]) (by simp [up1, updF_ap]) (by simp [up1, updF_ap]) (by simp [up1, updF_ap]) (fun j j2 j3 j4 j6 => by simp [up1, updF_ap, j2, j3, j4])]
          try exact Iff.rfl
        · rw [if_neg c3, if_neg c3, s131_70]
          rw [← lx_can (X := X) (X' := ip_up (ip_up (ip_up X 33 2 (nI p0)) 33 4 (nI p0)) 33 3 0) (l := ⟨0, p0, p0, y, X 33 6⟩) (fun k hk => by simp [up1, hk]) (by simp [up1, updF_ap]) (by simp [up1, updF_ap]) (by simp [up1, updF_ap]) (by simp [up1, updF_ap]) (fun j j2 j3 j4 j6 => by simp [up1, updF_ap, j2, j3, j4])]
          try exact Iff.rfl
end
