/-! CoreText$Bytes -/
section
variable {G : List ip_K} {F : Nat → Nat → Value} {I : Nat → Nat → Int32} {J : Nat → Nat → Int64} {b : ip_B} {post : Option Value → ip_H → Prop} {px : String → ip_H → Prop}
/-- Bytes at k: its array at a -/
def cBy (G : List ip_K) (F : Nat → Nat → Value) (k a : Nat) : Prop := G[k]? = some (.inr (2, 2)) ∧ F k 0 = .ref a ∧ G[a]? = some (.inl (1, 4160))
def bget (f : Nat → Int32) (n : Nat) (i : Int32) : Int32 := if 0 ≤ i ∧ i < nI n then f i.toNatClampNeg &&& 255 else -1
theorem ct_By_size {k a : Nat} {x : Int32} (hB : cBy G F k a) (hs : F k 1 = .int x) : ip_WP 88 0 [some (.ref k)] [] (G, F, I, J) b post px ↔ post (some (.int x)) (G, F, I, J) := by
  simp only [s88_0, s88_1, s88_4, ip_isO_eq hB.1, hs, true_and]
theorem ct_By_at {k a n : Nat} {i : Int32} (hB : cBy G F k a) (hs : F k 1 = .int (nI n)) (hn : n ≤ 4160) : ip_WP 89 0 [some (.ref k), some (.int i)] [] (G, F, I, J) b post px ↔ post (some (.int (bget (I a) n i))) (G, F, I, J) := by
  obtain ⟨h1, h2, h3⟩ := hB
  simp only [s89_0, s89_1, s89_4, s89_5, s89_6, s89_9, s89_12, s89_13, s89_16, s89_17, s89_18, s89_21, s89_22, s89_25, s89_26, ip_isO_eq h1, h2, hs, ip_inA_eq h3, ip_inA_ne (t := 3) h3 (by decide), Bool.or_false, true_and]
  unfold bget
  by_cases c0 : i < 0
  · simp only [c0, if_true]
    rw [if_neg (fun q => Int32.not_le.mpr c0 q.1)]
  · simp only [c0, if_false]
    have c0' : 0 ≤ i := Int32.not_lt.mp c0
    by_cases c1 : nI n ≤ i
    · simp only [c1, if_true]
      rw [if_neg (fun q => Int32.not_le.mpr q.2 c1)]
    · simp only [c1, if_false]
      have hlt : i < nI n := Int32.not_le.mp c1
      rw [if_pos ⟨c0', hlt⟩]
      have hin : i.toNatClampNeg < 4160 := by
        have := Nat.not_le.mp (fun q => cl_in c0' hlt (by omega) (Or.inr q))
        omega
      simp [hin]
theorem ct_By_clear {k a : Nat} (hB : cBy G F k a) : ip_WP 90 0 [some (.ref k)] [] (G, F, I, J) b post px ↔ post none (G, ip_up F k 1 (.int 0), I, J) := by
  simp only [s90_0, s90_1, s90_2, s90_5, ip_isO_eq hB.1, true_and]
def addB (h : ip_H) (k a n : Nat) (v : Int32) : ip_H := if n < 4160 then (h.1, ip_up h.2.1 k 1 (.int (nI (n + 1))), ip_up h.2.2.1 a n v.toInt8.toInt32, h.2.2.2) else h
theorem ct_By_add {k a n : Nat} {v : Int32} (hB : cBy G F k a) (hs : F k 1 = .int (nI n)) (hn : n ≤ 4160) : ip_WP 91 0 [some (.ref k), some (.int v)] [] (G, F, I, J) b post px ↔ post none (addB (G, F, I, J) k a n v) := by
  obtain ⟨h1, h2, h3⟩ := hB
  simp only [s91_0, s91_1, s91_4, s91_7, s91_10, s91_11, s91_14, s91_15, s91_18, s91_19, s91_20, s91_21, s91_22, s91_23, s91_26, s91_27, s91_28, s91_31, ip_isO_eq h1, h2, hs, ip_inA_eq h3, ip_inA_ne (t := 3) h3 (by decide), true_and]
  unfold addB
  by_cases c0 : n < 4160
  · have e0 : ¬ (4160 : Int32) ≤ nI n := by
      have : (4160 : Int32) = nI 4160 := by decide
      rw [this, nI_leI (by decide) (by omega)]
      omega
    simp only [e0, if_false]
    rw [if_pos c0]
    have hin : ¬ (nI n < 0 ∨ 4160 ≤ (nI n).toNatClampNeg) := nI_in c0 (by decide)
    simp only [hin, not_false_eq_true, decide_true, if_true]
    rw [nI_clamp (by omega), pk_vb, nI_1]
  · have e0 : (4160 : Int32) ≤ nI n := by
      have : (4160 : Int32) = nI 4160 := by decide
      rw [this, nI_leI (by decide) (by omega)]
      omega
    simp only [e0, if_true]
    rw [if_neg c0]
end
