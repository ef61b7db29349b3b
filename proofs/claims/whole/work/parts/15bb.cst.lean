def ip_sa (i : Nat) : Nat := ip_SC + 1 + i
set_option maxRecDepth 100000 in
theorem ip_cstOK : ∀ q ∈ ip_csts, (match q.2.2 with
  | .ref x => ip_stt.any fun r => r.1 == q.1 && (r.2.1 == q.2.1 && ip_sa r.2.2.2 == x)
  | .long x => [222, 484, 489, 723].any fun i => decide (tables_1[i]? = some (.constantLong (ip_onm q.1) q.2.1 x))
  | _ => false) = true := by decide +kernel
theorem ip_cstS {mi ix x : Nat} (h : ip_cst mi ix = some (.ref x)) : ∃ (tx : String) (i : Nat), (ip_o mi, ix, tx, i) ∈ ip_stt ∧ x = ip_sa i := by
  have h1 := ip_cstOK _ (ip_lk2_mem h)
  dsimp only at h1
  obtain ⟨⟨a, b, tx, i⟩, hr, h2⟩ := List.any_eq_true.mp h1
  simp only [Bool.and_eq_true, beq_iff_eq] at h2
  obtain ⟨rfl, rfl, e⟩ := h2
  exact ⟨tx, i, hr, e.symm⟩
theorem ip_cstL {mi ix : Nat} {x : Int64} (h : ip_cst mi ix = some (.long x)) : Cond.constantLong (ip_own mi) ix x ∈ ip_gw := by
  have h1 := ip_cstOK _ (ip_lk2_mem h)
  dsimp only at h1
  obtain ⟨i, -, h2⟩ := List.any_eq_true.mp h1
  exact ip_gw_t (of_decide_eq_true h2) rfl
