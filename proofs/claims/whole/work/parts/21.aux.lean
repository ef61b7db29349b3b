/-! words for the contracts: which cells stand where -/
theorem ip_inA_eq {G : List ip_K} {a t n : Nat} {i : Int32} (h : G[a]? = some (.inl (t, n))) : ip_inA G a t i = decide (¬ (i < 0 ∨ n ≤ i.toNatClampNeg)) := by
  unfold ip_inA
  rw [h]
  simp
theorem ip_inA_ne {G : List ip_K} {a t u n : Nat} {i : Int32} (h : G[a]? = some (.inl (u, n))) (hu : u ≠ t) : ip_inA G a t i = false := by
  unfold ip_inA
  rw [h]
  simp [hu]
theorem ip_lenA_eq {G : List ip_K} {a t n : Nat} (h : G[a]? = some (.inl (t, n))) : ip_lenA G a = some n := by
  unfold ip_lenA
  rw [h]
theorem ip_isO_eq {G : List ip_K} {k ci nf : Nat} (h : G[k]? = some (.inr (ci, nf))) : ip_isO G k ci = true := by
  unfold ip_isO
  rw [h]
  simp
/-- an index inside -/
theorem cl_in {i : Int32} {n : Nat} (h0 : 0 ≤ i) (hn : i < nI n) (hb : n < 2 ^ 31) : ¬ (i < 0 ∨ n ≤ i.toNatClampNeg) := by
  have h0' : ¬ i < 0 := Int32.not_lt.mpr h0
  obtain ⟨j, hj, rfl⟩ := nI_of h0'
  rintro (h | h)
  · exact h0' h
  · rw [nI_clamp hj] at h
    rw [nI_ltI hj hb] at hn
    omega
