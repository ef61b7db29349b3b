/-! CoreText$Row -/
section
variable {G : List ip_K} {F : Nat → Nat → Value} {I : Nat → Nat → Int32} {J : Nat → Nat → Int64} {b : ip_B} {post : Option Value → ip_H → Prop} {px : String → ip_H → Prop}
/-- a Row at k: its array at a, n places, empty is e -/
def cRow (G : List ip_K) (F : Nat → Nat → Value) (k a n : Nat) (e : Int32) : Prop := G[k]? = some (.inr (9, 2)) ∧ F k 0 = .ref a ∧ F k 1 = .int e ∧ G[a]? = some (.inl (0, n)) ∧ n < 2 ^ 31
def rget (f : Nat → Int32) (n : Nat) (e i : Int32) : Int32 := if 0 ≤ i ∧ i < nI n then f i.toNatClampNeg else e
theorem ct_Row_get {k a n : Nat} {e i : Int32} (hR : cRow G F k a n e) : ip_WP 191 0 [some (.ref k), some (.int i)] [] (G, F, I, J) b post px ↔ post (some (.int (rget (I a) n e i))) (G, F, I, J) := by
  obtain ⟨h1, h2, h3, h4, h5⟩ := hR
  simp only [s191_0, s191_1, s191_4, s191_5, s191_6, s191_9, s191_10, s191_13, s191_14, s191_17, s191_18, s191_19, s191_22, s191_23, s191_26, ip_isO_eq h1, h2, h3, ip_lenA_eq h4, ip_on_some, ip_inA_eq h4, true_and]
  unfold rget
  by_cases c0 : i < 0
  · simp only [c0, if_true]
    rw [if_neg (fun q => Int32.not_le.mpr c0 q.1)]
  · simp only [c0, if_false]
    have c0' : 0 ≤ i := Int32.not_lt.mp c0
    by_cases c1 : nI n ≤ i
    · have c1' : Int32.ofNat n ≤ i := c1
      simp only [c1', if_true]
      rw [if_neg (fun q => Int32.not_le.mpr q.2 c1)]
    · have c1' : ¬ Int32.ofNat n ≤ i := c1
      simp only [c1', if_false]
      have hlt : i < nI n := Int32.not_le.mp c1
      rw [if_pos ⟨c0', hlt⟩]
      have hin : i.toNatClampNeg < n := Nat.not_le.mp (fun q => cl_in c0' hlt h5 (Or.inr q))
      simp [hin]
end
