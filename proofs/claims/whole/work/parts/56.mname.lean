/-! the model's names against the class's -/
def cnt (Xc : Nat → Nat → Int32) (s : Nat) : Nat := (Xc (6 + 2 * s) 1).toNatClampNeg
def totN (Xc : Nat → Nat → Int32) : Nat := cnt Xc 0 + cnt Xc 1 + cnt Xc 2 + cnt Xc 3
/-- name number n of the model is name i of sort s -/
abbrev NmAt (Xc : Nat → Nat → Int32) (Jc : Nat → Nat → Int64) (I : Nat → Nat → Int32) (n s i p q : Nat) : Prop := (s < 4) ∧ (i < cnt Xc s) ∧ (I 54 n = nI s) ∧ (I 55 n = nI i) ∧ (I 52 n = nI p) ∧ (I 53 n = nI q) ∧ (p ≤ q) ∧ (q ≤ 4160) ∧ (NmR (Jc (7 + 2 * s) i) (slc (I 51) p q)) ∧ (I 57 (12 * s + i) = nI n)
theorem NmAt.s4 {Xc : Nat → Nat → Int32} {Jc : Nat → Nat → Int64} {I : Nat → Nat → Int32} {n s i p q : Nat} (h : NmAt Xc Jc I n s i p q) : s < 4 := h.1
theorem NmAt.ic {Xc : Nat → Nat → Int32} {Jc : Nat → Nat → Int64} {I : Nat → Nat → Int32} {n s i p q : Nat} (h : NmAt Xc Jc I n s i p q) : i < cnt Xc s := h.2.1
theorem NmAt.so {Xc : Nat → Nat → Int32} {Jc : Nat → Nat → Int64} {I : Nat → Nat → Int32} {n s i p q : Nat} (h : NmAt Xc Jc I n s i p q) : I 54 n = nI s := h.2.2.1
theorem NmAt.nu {Xc : Nat → Nat → Int32} {Jc : Nat → Nat → Int64} {I : Nat → Nat → Int32} {n s i p q : Nat} (h : NmAt Xc Jc I n s i p q) : I 55 n = nI i := h.2.2.2.1
theorem NmAt.fr {Xc : Nat → Nat → Int32} {Jc : Nat → Nat → Int64} {I : Nat → Nat → Int32} {n s i p q : Nat} (h : NmAt Xc Jc I n s i p q) : I 52 n = nI p := h.2.2.2.2.1
theorem NmAt.to {Xc : Nat → Nat → Int32} {Jc : Nat → Nat → Int64} {I : Nat → Nat → Int32} {n s i p q : Nat} (h : NmAt Xc Jc I n s i p q) : I 53 n = nI q := h.2.2.2.2.2.1
theorem NmAt.pq {Xc : Nat → Nat → Int32} {Jc : Nat → Nat → Int64} {I : Nat → Nat → Int32} {n s i p q : Nat} (h : NmAt Xc Jc I n s i p q) : p ≤ q := h.2.2.2.2.2.2.1
theorem NmAt.ql {Xc : Nat → Nat → Int32} {Jc : Nat → Nat → Int64} {I : Nat → Nat → Int32} {n s i p q : Nat} (h : NmAt Xc Jc I n s i p q) : q ≤ 4160 := h.2.2.2.2.2.2.2.1
theorem NmAt.nm {Xc : Nat → Nat → Int32} {Jc : Nat → Nat → Int64} {I : Nat → Nat → Int32} {n s i p q : Nat} (h : NmAt Xc Jc I n s i p q) : NmR (Jc (7 + 2 * s) i) (slc (I 51) p q) := h.2.2.2.2.2.2.2.2.1
theorem NmAt.no {Xc : Nat → Nat → Int32} {Jc : Nat → Nat → Int64} {I : Nat → Nat → Int32} {n s i p q : Nat} (h : NmAt Xc Jc I n s i p q) : I 57 (12 * s + i) = nI n := h.2.2.2.2.2.2.2.2.2
abbrev MN (Xc : Nat → Nat → Int32) (Jc : Nat → Nat → Int64) (X : Nat → Nat → Int32) (I : Nat → Nat → Int32) : Prop := (Bd Xc) ∧ (∀ s, s < 4 → I 56 s = Xc (6 + 2 * s) 1) ∧ (X 47 10 = nI (totN Xc)) ∧ (∀ n, n < totN Xc → ∃ s i p q, NmAt Xc Jc I n s i p q) ∧ (∀ s i, s < 4 → i < cnt Xc s → ∃ n p q, n < totN Xc ∧ NmAt Xc Jc I n s i p q) ∧ (∀ s i t j, s < 4 → t < 4 → i < cnt Xc s → j < cnt Xc t → Jc (7 + 2 * s) i = Jc (7 + 2 * t) j → s = t ∧ i = j)
theorem MN.bd {Xc : Nat → Nat → Int32} {Jc : Nat → Nat → Int64} {X : Nat → Nat → Int32} {I : Nat → Nat → Int32} (h : MN Xc Jc X I) : Bd Xc := h.1
theorem MN.many {Xc : Nat → Nat → Int32} {Jc : Nat → Nat → Int64} {X : Nat → Nat → Int32} {I : Nat → Nat → Int32} (h : MN Xc Jc X I) : ∀ s, s < 4 → I 56 s = Xc (6 + 2 * s) 1 := h.2.1
theorem MN.tot {Xc : Nat → Nat → Int32} {Jc : Nat → Nat → Int64} {X : Nat → Nat → Int32} {I : Nat → Nat → Int32} (h : MN Xc Jc X I) : X 47 10 = nI (totN Xc) := h.2.2.1
theorem MN.fwd {Xc : Nat → Nat → Int32} {Jc : Nat → Nat → Int64} {X : Nat → Nat → Int32} {I : Nat → Nat → Int32} (h : MN Xc Jc X I) : ∀ n, n < totN Xc → ∃ s i p q, NmAt Xc Jc I n s i p q := h.2.2.2.1
theorem MN.bwd {Xc : Nat → Nat → Int32} {Jc : Nat → Nat → Int64} {X : Nat → Nat → Int32} {I : Nat → Nat → Int32} (h : MN Xc Jc X I) : ∀ s i, s < 4 → i < cnt Xc s → ∃ n p q, n < totN Xc ∧ NmAt Xc Jc I n s i p q := h.2.2.2.2.1
theorem MN.uni {Xc : Nat → Nat → Int32} {Jc : Nat → Nat → Int64} {X : Nat → Nat → Int32} {I : Nat → Nat → Int32} (h : MN Xc Jc X I) : ∀ s i t j, s < 4 → t < 4 → i < cnt Xc s → j < cnt Xc t → Jc (7 + 2 * s) i = Jc (7 + 2 * t) j → s = t ∧ i = j := h.2.2.2.2.2
theorem Bd.c {X : Nat → Nat → Int32} (h : Bd X) (s : Nat) (hs : s < 4) : 0 ≤ X (6 + 2 * s) 1 ∧ cnt X s ≤ (if s < 2 then 12 else 8) ∧ X (6 + 2 * s) 1 = nI (cnt X s) := by
  have hc : s = 0 ∨ s = 1 ∨ s = 2 ∨ s = 3 := by omega
  rcases hc with rfl | rfl | rfl | rfl
  · exact ⟨h.a6, cn_le (n := 12) h.a6 h.b6 (by decide), cn_eq h.a6⟩
  · exact ⟨h.a8, cn_le (n := 12) h.a8 h.b8 (by decide), cn_eq h.a8⟩
  · exact ⟨h.a10, cn_le (n := 8) h.a10 h.b10 (by decide), cn_eq h.a10⟩
  · exact ⟨h.a12, cn_le (n := 8) h.a12 h.b12 (by decide), cn_eq h.a12⟩
theorem tot_le {X : Nat → Nat → Int32} (h : Bd X) : totN X ≤ 40 := by
  have h0 := (h.c 0 (by decide)).2.1
  have h1 := (h.c 1 (by decide)).2.1
  have h2 := (h.c 2 (by decide)).2.1
  have h3 := (h.c 3 (by decide)).2.1
  simp at h0 h1 h2 h3
  unfold totN
  omega
/-! the class's search -/
theorem nfi_none {f : Nat → Int64} {key : Int64} : ∀ m i, (∀ j, i ≤ j → j < i + m → ¬ f j = key) → nfi f key m i = -1 := by
  intro m
  induction m with
  | zero => intro i _; rfl
  | succ m ih =>
    intro i h
    rw [nfi, if_neg (h i (Nat.le_refl i) (by omega))]
    exact ih (i + 1) (fun j h1 h2 => h j (by omega) (by omega))
theorem nfi_some {f : Nat → Int64} {key : Int64} {k : Nat} (hk : f k = key) : ∀ m i, i ≤ k → k < i + m → (∀ j, i ≤ j → j < k → ¬ f j = key) → nfi f key m i = nI k := by
  intro m
  induction m with
  | zero => intro i h1 h2; omega
  | succ m ih =>
    intro i h1 h2 h
    rw [nfi]
    by_cases q : i = k
    · rw [if_pos (by rw [q]; exact hk), q]
    · rw [if_neg (h i (Nat.le_refl i) (by omega))]
      exact ih (i + 1) (by omega) (by omega) (fun j h3 h4 => h j (by omega) h4)
section
variable {Xc : Nat → Nat → Int32} {Jc : Nat → Nat → Int64} {X : Nat → Nat → Int32} {y : Int64} {I : Nat → Nat → Int32} {J : Nat → Nat → Int64} {b : ip_B} {post : Option Value → ip_H → Prop} {px : String → ip_H → Prop}
/-- where the key stands -/
theorem MN.at (h : MN Xc Jc X I) {s i : Nat} (hs : s < 4) (hi : i < cnt Xc s) : nfi (Jc (7 + 2 * s)) (Jc (7 + 2 * s) i) (cnt Xc s) 0 = nI i ∧ told Xc Jc (Jc (7 + 2 * s) i) = true ∧ ∀ t, t < 4 → t ≠ s → nfi (Jc (7 + 2 * t)) (Jc (7 + 2 * s) i) (cnt Xc t) 0 = -1 := by
  have hne := nfi_some (f := Jc (7 + 2 * s)) (key := Jc (7 + 2 * s) i) (k := i) rfl (cnt Xc s) 0 (Nat.zero_le i) (by omega) (fun j _ hj e => by
    have := (h.uni s j s i hs hs (by omega) hi e).2
    omega)
  have hb := (h.bd.c s hs).2.1
  have hlt : i < 12 := by split at hb <;> omega
  have hn1 : ¬ nI i = -1 := fun e => by
    have := congrArg Int32.toInt e
    rw [nI_toInt (by omega)] at this
    exact absurd this (by rw [show ((-1 : Int32)).toInt = -1 from by decide]; omega)
  refine ⟨hne, ?_, fun t ht hts => nfi_none _ _ (fun j _ hj e => hts (h.uni t j s i ht hs (by omega) hi e).1)⟩
  have hc : s = 0 ∨ s = 1 ∨ s = 2 ∨ s = 3 := by omega
  rcases hc with rfl | rfl | rfl | rfl
  · exact told_iff.mpr (Or.inl (fun e => hn1 (hne.symm.trans e)))
  · exact told_iff.mpr (Or.inr (Or.inl (fun e => hn1 (hne.symm.trans e))))
  · exact told_iff.mpr (Or.inr (Or.inr (Or.inl (fun e => hn1 (hne.symm.trans e)))))
  · exact told_iff.mpr (Or.inr (Or.inr (Or.inr (fun e => hn1 (hne.symm.trans e)))))
theorem MN.no {key : Int64} (hn : ∀ s i, s < 4 → i < cnt Xc s → ¬ Jc (7 + 2 * s) i = key) : (∀ t, t < 4 → nfi (Jc (7 + 2 * t)) key (cnt Xc t) 0 = -1) ∧ ¬ told Xc Jc key = true := by
  have h : ∀ t, t < 4 → nfi (Jc (7 + 2 * t)) key (cnt Xc t) 0 = -1 := fun t ht => nfi_none _ _ (fun j _ hj => hn t j ht (by omega))
  refine ⟨h, fun q => ?_⟩
  rcases told_iff.mp q with q | q | q | q
  · exact q (h 0 (by decide))
  · exact q (h 1 (by decide))
  · exact q (h 2 (by decide))
  · exact q (h 3 (by decide))
theorem slc_eq_iff {T : Nat → Int32} {p q a c : Nat} (h : q - p = c - a) : slc T p q = slc T a c ↔ ∀ k, k < c - a → T (p + k) = T (a + k) := by
  constructor
  · intro e k hk
    have h1 := slc_get T (p := p) (q := q) (k := k) (by omega)
    rw [e, slc_get T hk] at h1
    exact (Option.some.inj h1).symm
  · intro e
    unfold slc
    rw [h]
    apply List.map_congr_left
    intro k hk
    exact e k (List.mem_range.mp hk)
/-- isAt: are the two stretches the same -/
theorem md_isAt {n p q a c : Nat} (hn : n < 40) (hp : I 52 n = nI p) (hq : I 53 n = nI q) (hpq : p ≤ q) (hql : q ≤ 4160) (ha : X 47 36 = nI a) (hc : X 47 37 = nI c) (hac : a ≤ c) (hcl : c ≤ 4160)
    (hk : post (some (.int (bI (slc (I 51) p q = slc (I 51) a c)))) (g0, fld X y, I, J)) : ip_WP 37 0 [some (.ref 47), some (.int (nI n)), none, none] [] (g0, fld X y, I, J) b post px := by
  have n1 : ¬ nI n < 0 := nI_pos (by omega)
  have n2 : ¬ 40 ≤ n := by omega
  have sub : ∀ u v : Nat, u ≤ v → v ≤ 4160 → nI v - nI u = nI (v - u) := fun u v h1 h2 => by
    apply Int32.toInt_inj.mp
    rw [Kit.i32_sub (by rw [nI_toInt (by omega), nI_toInt (by omega)]; omega) (by rw [nI_toInt (by omega), nI_toInt (by omega)]; omega), nI_toInt (by omega), nI_toInt (by omega), nI_toInt (by omega)]
    omega
  have e1 := sub p q hpq hql
  have e2 := sub a c hac hcl
  -- the loop: same says whether all so far agree
  have loop : ∀ m k v, k + m = c - a → (v = 1 → q - p = c - a ∧ ∀ j, j < k → I 51 (p + j) = I 51 (a + j)) → (v = 0 → ¬ slc (I 51) p q = slc (I 51) a c) → (v = 0 ∨ v = 1) → ip_WP 37 33 [some (.ref 47), some (.int (nI n)), some (.int v), some (.int (nI k))] [] (g0, fld X y, I, J) b post px := by
    intro m
    induction m with
    | zero =>
      intro k v hkm h1 h0 hv
      have c1 : nI (c - a) ≤ nI k := nI_le (by omega) (by omega)
      rw [s37_33]
      simp only [s37_0, s37_1, s37_4, s37_5, s37_6, s37_7, s37_10, s37_11, s37_12, s37_13, s37_14, s37_17, s37_18, s37_21, s37_22, s37_25, s37_26, s37_29, s37_30, s37_31, s37_32, s37_34, s37_35, s37_38, s37_39, s37_42, s37_43, s37_46, s37_47, s37_50, s37_51, s37_54, s37_55, s37_58, s37_59, s37_60, s37_61, s37_62, s37_63, s37_64, s37_67, s37_68, s37_71, s37_72, s37_73, s37_74, s37_77, s37_78, s37_81, s37_82, s37_83, s37_86, s37_89, s37_90, f_47_0, f_47_1, u_47_1, f_47_2, u_47_2, f_47_3, f_47_4, u_47_4, f_47_5, f_47_6, u_47_6, f_47_7, u_47_7, f_47_8, u_47_8, f_47_9, u_47_9, f_47_10, u_47_10, f_47_11, f_47_12, f_47_13, f_47_14, f_47_15, f_47_16, f_47_17, f_47_18, f_47_19, f_47_20, f_47_21, f_47_22, f_47_23, u_47_23, f_47_24, f_47_25, f_47_26, f_47_27, f_47_28, f_47_29, u_47_29, f_47_30, u_47_30, f_47_31, f_47_32, f_47_33, f_47_34, f_47_35, u_47_35, f_47_36, u_47_36, f_47_37, u_47_37, f_47_38, u_47_38, o_47, ha, hc, e2, c1, Option.toList_some, Option.toList_none, List.cons_append, List.nil_append, List.append_nil, ip_on_some, true_and, and_true, if_true, if_false, not_true_eq_false, not_false_eq_true, decide_true, true_or, or_true, or_self, Bool.false_eq_true]
      rcases hv with hv | hv
      · subst hv
        rw [bI_f (h0 rfl)] at hk
        simpa using hk
      · subst hv
        obtain ⟨hl, hj⟩ := h1 rfl
        rw [bI_t ((slc_eq_iff hl).mpr (fun j hjk => hj j (by omega)))] at hk
        simpa using hk
    | succ m ih =>
      intro k v hkm h1 h0 hv
      have c1 : ¬ nI (c - a) ≤ nI k := nI_ge (by omega) (by omega)
      rw [s37_33]
      rcases hv with hv | hv
      · subst hv
        rw [bI_f (h0 rfl)] at hk
        simp only [s37_0, s37_1, s37_4, s37_5, s37_6, s37_7, s37_10, s37_11, s37_12, s37_13, s37_14, s37_17, s37_18, s37_21, s37_22, s37_25, s37_26, s37_29, s37_30, s37_31, s37_32, s37_34, s37_35, s37_38, s37_39, s37_42, s37_43, s37_46, s37_47, s37_50, s37_51, s37_54, s37_55, s37_58, s37_59, s37_60, s37_61, s37_62, s37_63, s37_64, s37_67, s37_68, s37_71, s37_72, s37_73, s37_74, s37_77, s37_78, s37_81, s37_82, s37_83, s37_86, s37_89, s37_90, f_47_0, f_47_1, u_47_1, f_47_2, u_47_2, f_47_3, f_47_4, u_47_4, f_47_5, f_47_6, u_47_6, f_47_7, u_47_7, f_47_8, u_47_8, f_47_9, u_47_9, f_47_10, u_47_10, f_47_11, f_47_12, f_47_13, f_47_14, f_47_15, f_47_16, f_47_17, f_47_18, f_47_19, f_47_20, f_47_21, f_47_22, f_47_23, u_47_23, f_47_24, f_47_25, f_47_26, f_47_27, f_47_28, f_47_29, u_47_29, f_47_30, u_47_30, f_47_31, f_47_32, f_47_33, f_47_34, f_47_35, u_47_35, f_47_36, u_47_36, f_47_37, u_47_37, f_47_38, u_47_38, o_47, ha, hc, e2, c1, Option.toList_some, Option.toList_none, List.cons_append, List.nil_append, List.append_nil, ip_on_some, true_and, and_true, if_true, if_false, not_true_eq_false, not_false_eq_true, decide_true, true_or, or_true, or_self, Bool.false_eq_true]
        simpa using hk
      · subst hv
        obtain ⟨hl, hj⟩ := h1 rfl
        have i1 : ¬ nI (p + k) < 0 := nI_pos (by omega)
        have i2 : ¬ 4400 ≤ p + k := by omega
        have i3 : ¬ nI (a + k) < 0 := nI_pos (by omega)
        have i4 : ¬ 4400 ≤ a + k := by omega
        by_cases d : I 51 (p + k) = I 51 (a + k)
        · simp only [s37_0, s37_1, s37_4, s37_5, s37_6, s37_7, s37_10, s37_11, s37_12, s37_13, s37_14, s37_17, s37_18, s37_21, s37_22, s37_25, s37_26, s37_29, s37_30, s37_31, s37_32, s37_34, s37_35, s37_38, s37_39, s37_42, s37_43, s37_46, s37_47, s37_50, s37_51, s37_54, s37_55, s37_58, s37_59, s37_60, s37_61, s37_62, s37_63, s37_64, s37_67, s37_68, s37_71, s37_72, s37_73, s37_74, s37_77, s37_78, s37_81, s37_82, s37_83, s37_86, s37_89, s37_90, f_47_0, f_47_1, u_47_1, f_47_2, u_47_2, f_47_3, f_47_4, u_47_4, f_47_5, f_47_6, u_47_6, f_47_7, u_47_7, f_47_8, u_47_8, f_47_9, u_47_9, f_47_10, u_47_10, f_47_11, f_47_12, f_47_13, f_47_14, f_47_15, f_47_16, f_47_17, f_47_18, f_47_19, f_47_20, f_47_21, f_47_22, f_47_23, u_47_23, f_47_24, f_47_25, f_47_26, f_47_27, f_47_28, f_47_29, u_47_29, f_47_30, u_47_30, f_47_31, f_47_32, f_47_33, f_47_34, f_47_35, u_47_35, f_47_36, u_47_36, f_47_37, u_47_37, f_47_38, u_47_38, o_47, a_51, l_51, a_52, l_52, ha, hc, e2, c1, nI_clamp (show n < 2 ^ 31 by omega), n1, n2, hp, nI_add, nI_clamp (show p + k < 2 ^ 31 by omega), nI_clamp (show a + k < 2 ^ 31 by omega), i1, i2, i3, i4, d, nI_1, qe_m1_0, qe_m1_1, qe_m1_2, qe_m1_3, qe_m1_4, qe_m1_5, qe_m1_6, qe_m1_7, qe_m1_8, qe_0_m1, qe_0_1, qe_0_2, qe_0_3, qe_0_4, qe_0_5, qe_0_6, qe_0_7, qe_0_8, qe_1_m1, qe_1_0, qe_1_2, qe_1_3, qe_1_4, qe_1_5, qe_1_6, qe_1_7, qe_1_8, qe_2_m1, qe_2_0, qe_2_1, qe_2_3, qe_2_4, qe_2_5, qe_2_6, qe_2_7, qe_2_8, qe_3_m1, qe_3_0, qe_3_1, qe_3_2, qe_3_4, qe_3_5, qe_3_6, qe_3_7, qe_3_8, qe_4_m1, qe_4_0, qe_4_1, qe_4_2, qe_4_3, qe_4_5, qe_4_6, qe_4_7, qe_4_8, qe_5_m1, qe_5_0, qe_5_1, qe_5_2, qe_5_3, qe_5_4, qe_5_6, qe_5_7, qe_5_8, qe_6_m1, qe_6_0, qe_6_1, qe_6_2, qe_6_3, qe_6_4, qe_6_5, qe_6_7, qe_6_8, qe_7_m1, qe_7_0, qe_7_1, qe_7_2, qe_7_3, qe_7_4, qe_7_5, qe_7_6, qe_7_8, qe_8_m1, qe_8_0, qe_8_1, qe_8_2, qe_8_3, qe_8_4, qe_8_5, qe_8_6, qe_8_7, Option.toList_some, Option.toList_none, List.cons_append, List.nil_append, List.append_nil, ip_on_some, true_and, and_true, if_true, if_false, not_true_eq_false, not_false_eq_true, decide_true, true_or, or_true, or_self, Bool.false_eq_true]
          exact ih (k + 1) 1 (by omega) (fun _ => ⟨hl, fun j hjk => by
            by_cases z : j = k
            · rw [z]; exact d
            · exact hj j (by omega)⟩) (fun z => absurd z (by decide)) (Or.inr rfl)
        · simp only [s37_0, s37_1, s37_4, s37_5, s37_6, s37_7, s37_10, s37_11, s37_12, s37_13, s37_14, s37_17, s37_18, s37_21, s37_22, s37_25, s37_26, s37_29, s37_30, s37_31, s37_32, s37_34, s37_35, s37_38, s37_39, s37_42, s37_43, s37_46, s37_47, s37_50, s37_51, s37_54, s37_55, s37_58, s37_59, s37_60, s37_61, s37_62, s37_63, s37_64, s37_67, s37_68, s37_71, s37_72, s37_73, s37_74, s37_77, s37_78, s37_81, s37_82, s37_83, s37_86, s37_89, s37_90, f_47_0, f_47_1, u_47_1, f_47_2, u_47_2, f_47_3, f_47_4, u_47_4, f_47_5, f_47_6, u_47_6, f_47_7, u_47_7, f_47_8, u_47_8, f_47_9, u_47_9, f_47_10, u_47_10, f_47_11, f_47_12, f_47_13, f_47_14, f_47_15, f_47_16, f_47_17, f_47_18, f_47_19, f_47_20, f_47_21, f_47_22, f_47_23, u_47_23, f_47_24, f_47_25, f_47_26, f_47_27, f_47_28, f_47_29, u_47_29, f_47_30, u_47_30, f_47_31, f_47_32, f_47_33, f_47_34, f_47_35, u_47_35, f_47_36, u_47_36, f_47_37, u_47_37, f_47_38, u_47_38, o_47, a_51, l_51, a_52, l_52, ha, hc, e2, c1, nI_clamp (show n < 2 ^ 31 by omega), n1, n2, hp, nI_add, nI_clamp (show p + k < 2 ^ 31 by omega), nI_clamp (show a + k < 2 ^ 31 by omega), i1, i2, i3, i4, d, nI_1, qe_m1_0, qe_m1_1, qe_m1_2, qe_m1_3, qe_m1_4, qe_m1_5, qe_m1_6, qe_m1_7, qe_m1_8, qe_0_m1, qe_0_1, qe_0_2, qe_0_3, qe_0_4, qe_0_5, qe_0_6, qe_0_7, qe_0_8, qe_1_m1, qe_1_0, qe_1_2, qe_1_3, qe_1_4, qe_1_5, qe_1_6, qe_1_7, qe_1_8, qe_2_m1, qe_2_0, qe_2_1, qe_2_3, qe_2_4, qe_2_5, qe_2_6, qe_2_7, qe_2_8, qe_3_m1, qe_3_0, qe_3_1, qe_3_2, qe_3_4, qe_3_5, qe_3_6, qe_3_7, qe_3_8, qe_4_m1, qe_4_0, qe_4_1, qe_4_2, qe_4_3, qe_4_5, qe_4_6, qe_4_7, qe_4_8, qe_5_m1, qe_5_0, qe_5_1, qe_5_2, qe_5_3, qe_5_4, qe_5_6, qe_5_7, qe_5_8, qe_6_m1, qe_6_0, qe_6_1, qe_6_2, qe_6_3, qe_6_4, qe_6_5, qe_6_7, qe_6_8, qe_7_m1, qe_7_0, qe_7_1, qe_7_2, qe_7_3, qe_7_4, qe_7_5, qe_7_6, qe_7_8, qe_8_m1, qe_8_0, qe_8_1, qe_8_2, qe_8_3, qe_8_4, qe_8_5, qe_8_6, qe_8_7, Option.toList_some, Option.toList_none, List.cons_append, List.nil_append, List.append_nil, ip_on_some, true_and, and_true, if_true, if_false, not_true_eq_false, not_false_eq_true, decide_true, true_or, or_true, or_self, Bool.false_eq_true]
          exact ih (k + 1) 0 (by omega) (fun z => absurd z (by decide)) (fun _ z => d ((slc_eq_iff hl).mp z k (by omega))) (Or.inl rfl)
  by_cases d : q - p = c - a
  · simp only [s37_0, s37_1, s37_4, s37_5, s37_6, s37_7, s37_10, s37_11, s37_12, s37_13, s37_14, s37_17, s37_18, s37_21, s37_22, s37_25, s37_26, s37_29, s37_30, s37_31, s37_32, s37_34, s37_35, s37_38, s37_39, s37_42, s37_43, s37_46, s37_47, s37_50, s37_51, s37_54, s37_55, s37_58, s37_59, s37_60, s37_61, s37_62, s37_63, s37_64, s37_67, s37_68, s37_71, s37_72, s37_73, s37_74, s37_77, s37_78, s37_81, s37_82, s37_83, s37_86, s37_89, s37_90, f_47_0, f_47_1, u_47_1, f_47_2, u_47_2, f_47_3, f_47_4, u_47_4, f_47_5, f_47_6, u_47_6, f_47_7, u_47_7, f_47_8, u_47_8, f_47_9, u_47_9, f_47_10, u_47_10, f_47_11, f_47_12, f_47_13, f_47_14, f_47_15, f_47_16, f_47_17, f_47_18, f_47_19, f_47_20, f_47_21, f_47_22, f_47_23, u_47_23, f_47_24, f_47_25, f_47_26, f_47_27, f_47_28, f_47_29, u_47_29, f_47_30, u_47_30, f_47_31, f_47_32, f_47_33, f_47_34, f_47_35, u_47_35, f_47_36, u_47_36, f_47_37, u_47_37, f_47_38, u_47_38, o_47, a_52, l_52, a_53, l_53, ha, hc, e1, e2, nI_clamp (show n < 2 ^ 31 by omega), n1, n2, hp, hq, d, Option.toList_some, Option.toList_none, List.cons_append, List.nil_append, List.append_nil, ip_on_some, true_and, and_true, if_true, if_false, not_true_eq_false, not_false_eq_true, decide_true, true_or, or_true, or_self, Bool.false_eq_true]
    rw [← nI_0]
    exact loop (c - a) 0 1 (Nat.zero_add _) (fun _ => ⟨d, fun j hj => absurd hj (Nat.not_lt_zero j)⟩) (fun z => absurd z (by decide)) (Or.inr rfl)
  · have d' : ¬ nI (q - p) = nI (c - a) := fun z => d ((nI_eq (by omega) (by omega)).mp z)
    simp only [s37_0, s37_1, s37_4, s37_5, s37_6, s37_7, s37_10, s37_11, s37_12, s37_13, s37_14, s37_17, s37_18, s37_21, s37_22, s37_25, s37_26, s37_29, s37_30, s37_31, s37_32, s37_34, s37_35, s37_38, s37_39, s37_42, s37_43, s37_46, s37_47, s37_50, s37_51, s37_54, s37_55, s37_58, s37_59, s37_60, s37_61, s37_62, s37_63, s37_64, s37_67, s37_68, s37_71, s37_72, s37_73, s37_74, s37_77, s37_78, s37_81, s37_82, s37_83, s37_86, s37_89, s37_90, f_47_0, f_47_1, u_47_1, f_47_2, u_47_2, f_47_3, f_47_4, u_47_4, f_47_5, f_47_6, u_47_6, f_47_7, u_47_7, f_47_8, u_47_8, f_47_9, u_47_9, f_47_10, u_47_10, f_47_11, f_47_12, f_47_13, f_47_14, f_47_15, f_47_16, f_47_17, f_47_18, f_47_19, f_47_20, f_47_21, f_47_22, f_47_23, u_47_23, f_47_24, f_47_25, f_47_26, f_47_27, f_47_28, f_47_29, u_47_29, f_47_30, u_47_30, f_47_31, f_47_32, f_47_33, f_47_34, f_47_35, u_47_35, f_47_36, u_47_36, f_47_37, u_47_37, f_47_38, u_47_38, o_47, a_52, l_52, a_53, l_53, ha, hc, e1, e2, nI_clamp (show n < 2 ^ 31 by omega), n1, n2, hp, hq, d', Option.toList_some, Option.toList_none, List.cons_append, List.nil_append, List.append_nil, ip_on_some, true_and, and_true, if_true, if_false, not_true_eq_false, not_false_eq_true, decide_true, true_or, or_true, or_self, Bool.false_eq_true]
    rw [← nI_0]
    exact loop (c - a) 0 0 (Nat.zero_add _) (fun z => absurd z (by decide)) (fun _ z => d (by
      have := congrArg List.length z
      rw [slc_len, slc_len] at this
      exact this)) (Or.inl rfl)
/-- find: the name in hand among those told -/
def FindR (Xc : Nat → Nat → Int32) (Jc : Nat → Nat → Int64) (I : Nat → Nat → Int32) (key : Int64) (r : Int32) : Prop := (r = -1 ∧ ∀ s i, s < 4 → i < cnt Xc s → ¬ Jc (7 + 2 * s) i = key) ∨ ∃ n s i p q, r = nI n ∧ n < totN Xc ∧ NmAt Xc Jc I n s i p q ∧ Jc (7 + 2 * s) i = key
theorem md_find {a c : Nat} {key : Int64} (h : MN Xc Jc X I) (ha : X 47 36 = nI a) (hc : X 47 37 = nI c) (hac : a ≤ c) (hcl : c ≤ 4160) (hnm : NmR key (slc (I 51) a c)) (hk : ∀ r, FindR Xc Jc I key r → post (some (.int r)) (g0, fld X y, I, J)) : ip_WP 38 0 [some (.ref 47), none, none] [] (g0, fld X y, I, J) b post px := by
  have ht := tot_le h.bd
  have loop : ∀ m n r, n + m = totN Xc → ((r = -1 ∧ ∀ n', n' < n → ∀ s i p q, NmAt Xc Jc I n' s i p q → ¬ Jc (7 + 2 * s) i = key) ∨ ∃ n s i p q, r = nI n ∧ n < totN Xc ∧ NmAt Xc Jc I n s i p q ∧ Jc (7 + 2 * s) i = key) → ip_WP 38 4 [some (.ref 47), some (.int r), some (.int (nI n))] [] (g0, fld X y, I, J) b post px := by
    intro m
    induction m with
    | zero =>
      intro n r hn hr
      have c1 : nI (totN Xc) ≤ nI n := nI_le (by omega) (by omega)
      rw [s38_4]
      simp only [s38_0, s38_1, s38_2, s38_3, s38_5, s38_6, s38_9, s38_12, s38_13, s38_14, s38_17, s38_20, s38_21, s38_24, s38_25, s38_26, s38_29, s38_32, s38_33, f_47_0, f_47_1, u_47_1, f_47_2, u_47_2, f_47_3, f_47_4, u_47_4, f_47_5, f_47_6, u_47_6, f_47_7, u_47_7, f_47_8, u_47_8, f_47_9, u_47_9, f_47_10, u_47_10, f_47_11, f_47_12, f_47_13, f_47_14, f_47_15, f_47_16, f_47_17, f_47_18, f_47_19, f_47_20, f_47_21, f_47_22, f_47_23, u_47_23, f_47_24, f_47_25, f_47_26, f_47_27, f_47_28, f_47_29, u_47_29, f_47_30, u_47_30, f_47_31, f_47_32, f_47_33, f_47_34, f_47_35, u_47_35, f_47_36, u_47_36, f_47_37, u_47_37, f_47_38, u_47_38, o_47, h.tot, c1, Option.toList_some, Option.toList_none, List.cons_append, List.nil_append, List.append_nil, ip_on_some, true_and, and_true, if_true, if_false, not_true_eq_false, not_false_eq_true, decide_true, true_or, or_true, or_self, Bool.false_eq_true]
      refine hk r ?_
      rcases hr with ⟨hr, hall⟩ | hr
      · refine Or.inl ⟨hr, fun s i hs hi => ?_⟩
        obtain ⟨n', p, q, hn', hA⟩ := h.bwd s i hs hi
        exact hall n' (by omega) s i p q hA
      · exact Or.inr hr
    | succ m ih =>
      intro n r hn hr
      have c1 : ¬ nI (totN Xc) ≤ nI n := nI_ge (by omega) (by omega)
      obtain ⟨s, i, p, q, hA⟩ := h.fwd n (by omega)
      rw [s38_4]
      simp only [s38_5, s38_6, s38_9, s38_12, s38_13, s38_14, f_47_0, f_47_1, u_47_1, f_47_2, u_47_2, f_47_3, f_47_4, u_47_4, f_47_5, f_47_6, u_47_6, f_47_7, u_47_7, f_47_8, u_47_8, f_47_9, u_47_9, f_47_10, u_47_10, f_47_11, f_47_12, f_47_13, f_47_14, f_47_15, f_47_16, f_47_17, f_47_18, f_47_19, f_47_20, f_47_21, f_47_22, f_47_23, u_47_23, f_47_24, f_47_25, f_47_26, f_47_27, f_47_28, f_47_29, u_47_29, f_47_30, u_47_30, f_47_31, f_47_32, f_47_33, f_47_34, f_47_35, u_47_35, f_47_36, u_47_36, f_47_37, u_47_37, f_47_38, u_47_38, o_47, h.tot, c1, Option.toList_some, Option.toList_none, List.cons_append, List.nil_append, List.append_nil, ip_on_some, true_and, and_true, if_true, if_false, not_true_eq_false, not_false_eq_true, decide_true, true_or, or_true, or_self, Bool.false_eq_true]
      refine md_isAt (by omega) hA.fr hA.to hA.pq hA.ql ha hc hac hcl ?_
      by_cases d : slc (I 51) p q = slc (I 51) a c
      · have hkey : Jc (7 + 2 * s) i = key := (d ▸ hA.nm).keq hnm
        rw [bI_t d]
        simp only [s38_0, s38_1, s38_2, s38_3, s38_5, s38_6, s38_9, s38_12, s38_13, s38_14, s38_17, s38_20, s38_21, s38_24, s38_25, s38_26, s38_29, s38_32, s38_33, nI_1, qe_m1_0, qe_m1_1, qe_m1_2, qe_m1_3, qe_m1_4, qe_m1_5, qe_m1_6, qe_m1_7, qe_m1_8, qe_0_m1, qe_0_1, qe_0_2, qe_0_3, qe_0_4, qe_0_5, qe_0_6, qe_0_7, qe_0_8, qe_1_m1, qe_1_0, qe_1_2, qe_1_3, qe_1_4, qe_1_5, qe_1_6, qe_1_7, qe_1_8, qe_2_m1, qe_2_0, qe_2_1, qe_2_3, qe_2_4, qe_2_5, qe_2_6, qe_2_7, qe_2_8, qe_3_m1, qe_3_0, qe_3_1, qe_3_2, qe_3_4, qe_3_5, qe_3_6, qe_3_7, qe_3_8, qe_4_m1, qe_4_0, qe_4_1, qe_4_2, qe_4_3, qe_4_5, qe_4_6, qe_4_7, qe_4_8, qe_5_m1, qe_5_0, qe_5_1, qe_5_2, qe_5_3, qe_5_4, qe_5_6, qe_5_7, qe_5_8, qe_6_m1, qe_6_0, qe_6_1, qe_6_2, qe_6_3, qe_6_4, qe_6_5, qe_6_7, qe_6_8, qe_7_m1, qe_7_0, qe_7_1, qe_7_2, qe_7_3, qe_7_4, qe_7_5, qe_7_6, qe_7_8, qe_8_m1, qe_8_0, qe_8_1, qe_8_2, qe_8_3, qe_8_4, qe_8_5, qe_8_6, qe_8_7, Option.toList_some, Option.toList_none, List.cons_append, List.nil_append, List.append_nil, ip_on_some, true_and, and_true, if_true, if_false, not_true_eq_false, not_false_eq_true, decide_true, true_or, or_true, or_self, Bool.false_eq_true]
        exact ih (n + 1) (nI n) (by omega) (Or.inr ⟨n, s, i, p, q, rfl, by omega, hA, hkey⟩)
      · rw [bI_f d]
        simp only [s38_0, s38_1, s38_2, s38_3, s38_5, s38_6, s38_9, s38_12, s38_13, s38_14, s38_17, s38_20, s38_21, s38_24, s38_25, s38_26, s38_29, s38_32, s38_33, nI_1, qe_m1_0, qe_m1_1, qe_m1_2, qe_m1_3, qe_m1_4, qe_m1_5, qe_m1_6, qe_m1_7, qe_m1_8, qe_0_m1, qe_0_1, qe_0_2, qe_0_3, qe_0_4, qe_0_5, qe_0_6, qe_0_7, qe_0_8, qe_1_m1, qe_1_0, qe_1_2, qe_1_3, qe_1_4, qe_1_5, qe_1_6, qe_1_7, qe_1_8, qe_2_m1, qe_2_0, qe_2_1, qe_2_3, qe_2_4, qe_2_5, qe_2_6, qe_2_7, qe_2_8, qe_3_m1, qe_3_0, qe_3_1, qe_3_2, qe_3_4, qe_3_5, qe_3_6, qe_3_7, qe_3_8, qe_4_m1, qe_4_0, qe_4_1, qe_4_2, qe_4_3, qe_4_5, qe_4_6, qe_4_7, qe_4_8, qe_5_m1, qe_5_0, qe_5_1, qe_5_2, qe_5_3, qe_5_4, qe_5_6, qe_5_7, qe_5_8, qe_6_m1, qe_6_0, qe_6_1, qe_6_2, qe_6_3, qe_6_4, qe_6_5, qe_6_7, qe_6_8, qe_7_m1, qe_7_0, qe_7_1, qe_7_2, qe_7_3, qe_7_4, qe_7_5, qe_7_6, qe_7_8, qe_8_m1, qe_8_0, qe_8_1, qe_8_2, qe_8_3, qe_8_4, qe_8_5, qe_8_6, qe_8_7, Option.toList_some, Option.toList_none, List.cons_append, List.nil_append, List.append_nil, ip_on_some, true_and, and_true, if_true, if_false, not_true_eq_false, not_false_eq_true, decide_true, true_or, or_true, or_self, Bool.false_eq_true]
        refine ih (n + 1) r (by omega) ?_
        rcases hr with ⟨hr, hall⟩ | hr
        · refine Or.inl ⟨hr, fun n' hn' s' i' p' q' hA' e => ?_⟩
          by_cases z : n' = n
          · subst z
            have ep : p' = p := by
              have := hA'.fr.symm.trans hA.fr
              exact (nI_eq (by have := hA'.pq; have := hA'.ql; omega) (by have := hA.pq; have := hA.ql; omega)).mp this
            have eq : q' = q := by
              have := hA'.to.symm.trans hA.to
              exact (nI_eq (by have := hA'.ql; omega) (by have := hA.ql; omega)).mp this
            subst ep eq
            exact d ((e ▸ hA'.nm).inj hnm)
          · exact hall n' (by omega) s' i' p' q' hA' e
        · exact Or.inr hr
  simp only [s38_0, s38_1, s38_2, s38_3]
  rw [← nI_0]
  exact loop (totN Xc) 0 (-1) (Nat.zero_add _) (Or.inl ⟨rfl, fun n' hn' => absurd hn' (Nat.not_lt_zero n')⟩)
end
