/-! Row (more), Names, Findings, the small static methods: contracts for any heap -/
/-- a boolean as an int -/
def bI (c : Prop) [Decidable c] : Int32 := if c then 1 else 0
theorem bI_0 {c : Prop} [Decidable c] : (bI c = 0) = ¬ c := by
  unfold bI
  by_cases h : c
  · rw [if_pos h]; simp [h]
  · rw [if_neg h]; simp [h]
theorem bI_1 {c : Prop} [Decidable c] : (bI c = 1) = c := by
  unfold bI
  by_cases h : c
  · rw [if_pos h]; simp [h]
  · rw [if_neg h]; simp [h]
theorem bI_t {c : Prop} [Decidable c] (h : c) : bI c = 1 := if_pos h
theorem bI_f {c : Prop} [Decidable c] (h : ¬ c) : bI c = 0 := if_neg h
/-- a loop that counts: P holds at each turn, W is the run from there -/
theorem lp {σ : Type} {P : Nat → σ → Prop} {W : Nat → σ → Prop} (n : Nat) (hs : ∀ i s, i < n → P i s → (∀ s', P (i + 1) s' → W (i + 1) s') → W i s) (he : ∀ s, P n s → W n s) : ∀ i s, i ≤ n → P i s → W i s := by
  have key : ∀ m i s, i + m = n → P i s → W i s := by
    intro m
    induction m with
    | zero => intro i s hi hP; have : i = n := by omega
              subst this; exact he s hP
    | succ m ih => intro i s hi hP; exact hs i s (by omega) hP (fun s' h' => ih (i + 1) s' (by omega) h')
  intro i s hi hP
  exact key (n - i) i s (by omega) hP
section
variable {G : List ip_K} {F : Nat → Nat → Value} {I : Nat → Nat → Int32} {J : Nat → Nat → Int64} {b : ip_B} {post : Option Value → ip_H → Prop} {px : String → ip_H → Prop}
def rset (I : Nat → Nat → Int32) (a n : Nat) (i v : Int32) : Nat → Nat → Int32 := if 0 ≤ i ∧ i < nI n then ip_up I a i.toNatClampNeg v else I
theorem ct_Row_set {k a n : Nat} {e i v : Int32} (hR : cRow G F k a n e) : ip_WP 192 0 [some (.ref k), some (.int i), some (.int v)] [] (G, F, I, J) b post px ↔ post none (G, F, rset I a n i v, J) := by
  obtain ⟨h1, h2, h3, h4, h5⟩ := hR
  simp only [s192_0, s192_1, s192_4, s192_5, s192_6, s192_9, s192_10, s192_13, s192_14, s192_17, s192_18, s192_19, s192_20, ip_isO_eq h1, h2, ip_lenA_eq h4, ip_on_some, ip_inA_eq h4, true_and]
  unfold rset
  by_cases c0 : i < 0
  · simp only [c0, if_true]
    rw [if_neg (fun q => Int32.not_le.mpr c0 q.1)]
  · simp only [c0, if_false]
    have c0' : 0 ≤ i := Int32.not_lt.mp c0
    by_cases c1 : nI n ≤ i
    · have c1' : Int32.ofNat n ≤ i := c1
      simp only [c1', if_true]
      rw [if_neg (fun q => Int32.not_le.mpr q.2 c1)]
    · have c1' : ¬ Int32.ofNat n ≤ i := c1
      simp only [c1', if_false]
      have hlt : i < nI n := Int32.not_le.mp c1
      rw [if_pos ⟨c0', hlt⟩]
      have hin : i.toNatClampNeg < n := Nat.not_le.mp (fun q => cl_in c0' hlt h5 (Or.inr q))
      simp [hin]
/-- places i .. n-1 of array a are e -/
def rclr (I : Nat → Nat → Int32) (a i n : Nat) (e : Int32) : Nat → Nat → Int32 := fun c j => if c = a ∧ i ≤ j ∧ j < n then e else I c j
theorem rclr_end {I : Nat → Nat → Int32} {a i n : Nat} {e : Int32} (h : n ≤ i) : rclr I a i n e = I := by
  funext c j
  unfold rclr
  rw [if_neg (by omega)]
theorem rclr_step {I : Nat → Nat → Int32} {a i n : Nat} {e : Int32} (h : i < n) : rclr (ip_up I a i e) a (i + 1) n e = rclr I a i n e := by
  funext c j
  simp only [rclr, ip_up]
  by_cases hc : c = a
  · by_cases hj : j = i
    · subst hc hj
      rw [if_neg (by omega), if_pos ⟨rfl, rfl⟩, if_pos ⟨rfl, by omega, h⟩]
    · by_cases q : i ≤ j ∧ j < n
      · rw [if_pos ⟨hc, by omega, q.2⟩, if_pos ⟨hc, q⟩]
      · rw [if_neg (fun z => q ⟨by omega, z.2.2⟩), if_neg (fun z => hj z.2), if_neg (fun z => q z.2)]
  · rw [if_neg (fun z => hc z.1), if_neg (fun z => hc z.1), if_neg (fun z => hc z.1)]
theorem lp_Row_clear {k a n : Nat} {e : Int32} (hR : cRow G F k a n e) : ∀ (m i : Nat) (I : Nat → Nat → Int32), i + m = n → (ip_WP 190 2 [some (.ref k), some (.int (nI i))] [] (G, F, I, J) b post px ↔ post none (G, F, rclr I a i n e, J)) := by
  obtain ⟨h1, h2, h3, h4, h5⟩ := hR
  intro m
  induction m with
  | zero =>
    intro i I hi
    have c1 : Int32.ofNat n ≤ nI i := nI_le (by omega) (by omega)
    rw [s190_2, rclr_end (by omega)]
    simp only [s190_0, s190_1, s190_3, s190_4, s190_7, s190_8, s190_11, s190_12, s190_15, s190_16, s190_17, s190_20, s190_21, s190_24, s190_27, ip_isO_eq h1, h2, ip_lenA_eq h4, ip_on_some, true_and, c1, if_true]
  | succ m ih =>
    intro i I hi
    have c1 : ¬ Int32.ofNat n ≤ nI i := nI_ge (by omega) (by omega)
    have c2 : ¬ nI i < 0 := nI_pos (by omega)
    have c3 : ¬ n ≤ i := by omega
    rw [s190_2]
    simp only [s190_0, s190_1, s190_3, s190_4, s190_7, s190_8, s190_11, s190_12, s190_15, s190_16, s190_17, s190_20, s190_21, s190_24, s190_27, ip_isO_eq h1, h2, h3, ip_lenA_eq h4, ip_on_some, ip_inA_eq h4, true_and, c1, if_false, nI_clamp (show i < 2 ^ 31 by omega), c2, c3, or_self, not_false_eq_true, decide_true, nI_1]
    rw [ih (i + 1) _ (by omega), rclr_step (by omega)]
theorem ct_Row_clear {k a n : Nat} {e : Int32} (hR : cRow G F k a n e) : ip_WP 190 0 [some (.ref k), none] [] (G, F, I, J) b post px ↔ post none (G, F, rclr I a 0 n e, J) := by
  have h := lp_Row_clear (J := J) (b := b) (post := post) (px := px) hR n 0 I (Nat.zero_add n)
  rw [nI_0] at h
  rw [s190_0, s190_1]
  exact h
/-! Names -/
def cNm (G : List ip_K) (F : Nat → Nat → Value) (k a n : Nat) : Prop := G[k]? = some (.inr (6, 2)) ∧ F k 0 = .ref a ∧ G[a]? = some (.inl (2, n)) ∧ n < 2 ^ 31
theorem ct_Nm_size {k a n : Nat} {x : Int32} (hN : cNm G F k a n) (hs : F k 1 = .int x) : ip_WP 143 0 [some (.ref k)] [] (G, F, I, J) b post px ↔ post (some (.int x)) (G, F, I, J) := by
  simp only [s143_0, s143_1, s143_4, ip_isO_eq hN.1, hs, true_and]
theorem ct_Nm_isFull {k a n : Nat} {x : Int32} (hN : cNm G F k a n) (hs : F k 1 = .int x) : ip_WP 144 0 [some (.ref k)] [] (G, F, I, J) b post px ↔ post (some (.int (bI (nI n ≤ x)))) (G, F, I, J) := by
  obtain ⟨h1, h2, h3, h4⟩ := hN
  simp only [s144_0, s144_1, s144_4, s144_5, s144_8, s144_9, s144_12, s144_13, s144_16, s144_17, ip_isO_eq h1, h2, hs, ip_lenA_eq h3, ip_on_some, true_and]
  by_cases c : nI n ≤ x
  · have c' : ¬ x < Int32.ofNat n := Int32.not_lt.mpr c
    rw [if_neg c', bI_t c]
    simp
  · have c' : x < Int32.ofNat n := Int32.not_le.mp c
    rw [if_pos c', bI_f c]
    simp
theorem ct_Nm_clear {k a n : Nat} (hN : cNm G F k a n) : ip_WP 145 0 [some (.ref k)] [] (G, F, I, J) b post px ↔ post none (G, ip_up F k 1 (.int 0), I, J) := by
  simp only [s145_0, s145_1, s145_2, s145_5, ip_isO_eq hN.1, true_and]
theorem ct_Nm_add {k a n c : Nat} {key : Int64} (hN : cNm G F k a n) (hs : F k 1 = .int (nI c)) (hc : c ≤ n) : ip_WP 146 0 [some (.ref k), some (.long key), none] [] (G, F, I, J) b post px ↔ if c < n then post (some (.int (nI c))) (G, ip_up F k 1 (.int (nI (c + 1))), I, ip_up J a c key) else post (some (.int (-1))) (G, F, I, J) := by
  obtain ⟨h1, h2, h3, h4⟩ := hN
  have e1 : ip_up F k 1 (.int (nI (c + 1))) k 1 = .int (nI (c + 1)) := if_pos ⟨rfl, rfl⟩
  by_cases c0 : c < n
  · have c1 : nI c < Int32.ofNat n := nI_lt c0 (by omega)
    have c2 : ¬ nI c < 0 := nI_pos (by omega)
    have c3 : ¬ n ≤ c := by omega
    rw [if_pos c0]
    simp only [s146_0, s146_1, s146_4, s146_5, s146_8, s146_9, s146_12, s146_13, s146_14, s146_15, s146_18, s146_19, s146_22, s146_23, s146_24, s146_25, s146_26, s146_29, s146_30, s146_31, s146_34, s146_35, s146_38, s146_39, s146_40, ip_isO_eq h1, h2, hs, ip_lenA_eq h3, ip_on_some, ip_inA_eq h3, true_and, c1, if_true, nI_clamp (show c < 2 ^ 31 by omega), c2, c3, or_self, not_false_eq_true, decide_true, nI_1, e1, nI_pred]
  · have c1 : ¬ nI c < Int32.ofNat n := nI_nlt (by omega) (by omega)
    rw [if_neg c0]
    simp only [s146_0, s146_1, s146_4, s146_5, s146_8, s146_9, s146_12, s146_13, s146_14, s146_15, s146_18, s146_19, s146_22, s146_23, s146_24, s146_25, s146_26, s146_29, s146_30, s146_31, s146_34, s146_35, s146_38, s146_39, s146_40, ip_isO_eq h1, h2, hs, ip_lenA_eq h3, ip_on_some, true_and, c1, if_false]
/-- the first i .. i+m-1 with f i = key, or -1 -/
def nfi (f : Nat → Int64) (key : Int64) : Nat → Nat → Int32
  | 0, _ => -1
  | m + 1, i => if f i = key then nI i else nfi f key m (i + 1)
theorem lp_Nm_find {k a n c : Nat} {key : Int64} (hN : cNm G F k a n) (hs : F k 1 = .int (nI c)) (hc : c ≤ n) : ∀ (m i : Nat), i + m = c → (ip_WP 148 2 [some (.ref k), some (.long key), none, some (.int (nI i))] [] (G, F, I, J) b post px ↔ post (some (.int (nfi (J a) key m i))) (G, F, I, J)) := by
  obtain ⟨h1, h2, h3, h4⟩ := hN
  intro m
  induction m with
  | zero =>
    intro i hi
    have c1 : nI c ≤ nI i := nI_le (by omega) (by omega)
    rw [s148_2]
    simp only [s148_0, s148_1, s148_3, s148_4, s148_7, s148_10, s148_11, s148_14, s148_15, s148_16, s148_17, s148_18, s148_21, s148_22, s148_23, s148_26, s148_29, s148_30, ip_isO_eq h1, hs, true_and, c1, if_true, nfi]
  | succ m ih =>
    intro i hi
    have c1 : ¬ nI c ≤ nI i := nI_ge (by omega) (by omega)
    have c2 : ¬ nI i < 0 := nI_pos (by omega)
    have c3 : ¬ n ≤ i := by omega
    rw [s148_2]
    simp only [s148_0, s148_1, s148_3, s148_4, s148_7, s148_10, s148_11, s148_14, s148_15, s148_16, s148_17, s148_18, s148_21, s148_22, s148_23, s148_26, s148_29, s148_30, ip_isO_eq h1, h2, hs, ip_inA_eq h3, true_and, c1, if_false, nI_clamp (show i < 2 ^ 31 by omega), c2, c3, or_self, not_false_eq_true, decide_true, nI_1, lg_cmp_eq, nfi]
    rw [ih (i + 1) (by omega)]
    by_cases q : J a i = key
    · simp only [q, not_true_eq_false, if_true, if_false]
    · simp only [q, not_false_eq_true, if_true, if_false]
theorem ct_Nm_find {k a n c : Nat} {key : Int64} (hN : cNm G F k a n) (hs : F k 1 = .int (nI c)) (hc : c ≤ n) : ip_WP 148 0 [some (.ref k), some (.long key), none, none] [] (G, F, I, J) b post px ↔ post (some (.int (nfi (J a) key c 0))) (G, F, I, J) := by
  have h := lp_Nm_find (I := I) (J := J) (b := b) (post := post) (px := px) (key := key) hN hs hc c 0 (Nat.zero_add c)
  rw [nI_0] at h
  rw [s148_0, s148_1]
  exact h
theorem ct_Nm_keyAt {k a n c i : Nat} (hN : cNm G F k a n) (hs : F k 1 = .int (nI c)) (hc : c ≤ n) (hi : i < c) : ip_WP 147 0 [some (.ref k), some (.int (nI i))] [] (G, F, I, J) b post px ↔ post (some (.long (J a i))) (G, F, I, J) := by
  obtain ⟨h1, h2, h3, h4⟩ := hN
  have c1 : ¬ nI c ≤ nI i := nI_ge (by omega) (by omega)
  have c2 : ¬ nI i < 0 := nI_pos (by omega)
  have c3 : ¬ n ≤ i := by omega
  simp only [s147_0, s147_1, s147_4, s147_5, s147_6, s147_9, s147_12, s147_13, s147_16, s147_17, s147_18, s147_21, s147_22, ip_isO_eq h1, h2, hs, ip_inA_eq h3, true_and, c1, if_false, nI_clamp (show i < 2 ^ 31 by omega), c2, c3, or_self, not_false_eq_true, decide_true]
/-! static ones -/
def isSm (c : Int32) : Bool := decide (97 ≤ c) && decide (c ≤ 122)
def isDg (c : Int32) : Bool := decide (48 ≤ c) && decide (c ≤ 57)
def isBl (c : Int32) : Bool := decide (c = 9) || (decide (c = 10) || (decide (c = 13) || decide (c = 32)))
theorem isSm_iff {c : Int32} : isSm c = true ↔ 97 ≤ c ∧ c ≤ 122 := by simp [isSm]
theorem isDg_iff {c : Int32} : isDg c = true ↔ 48 ≤ c ∧ c ≤ 57 := by simp [isDg]
theorem isBl_iff {c : Int32} : isBl c = true ↔ c = 9 ∨ c = 10 ∨ c = 13 ∨ c = 32 := by simp [isBl]
def cod (c : Int32) : Int32 := if isSm c then c - 97 + 1 else if isDg c then c - 48 + 26 + 1 else 0
def chr (k : Int32) : Int32 := if k ≤ 26 then k + 97 - 1 else k + 48 - 26 - 1
theorem ct_isSm {c : Int32} : ip_WP 140 0 [some (.int c)] [] (G, F, I, J) b post px ↔ post (some (.int (bI (isSm c)))) (G, F, I, J) := by
  simp only [s140_0, s140_1, s140_3, s140_6, s140_7, s140_9, s140_12, s140_13, s140_16, s140_17]
  by_cases h1 : c < 97
  · have h : ¬ isSm c := fun q => Int32.not_le.mpr h1 (isSm_iff.mp q).1
    rw [if_pos h1, bI_f h]; simp
  · rw [if_neg h1]
    by_cases h2 : 122 < c
    · have h : ¬ isSm c := fun q => Int32.not_le.mpr h2 (isSm_iff.mp q).2
      rw [if_pos h2, bI_f h]; simp
    · have h : isSm c := isSm_iff.mpr ⟨Int32.not_lt.mp h1, Int32.not_lt.mp h2⟩
      rw [if_neg h2, bI_t h]; simp
theorem ct_isDg {c : Int32} : ip_WP 141 0 [some (.int c)] [] (G, F, I, J) b post px ↔ post (some (.int (bI (isDg c)))) (G, F, I, J) := by
  simp only [s141_0, s141_1, s141_3, s141_6, s141_7, s141_9, s141_12, s141_13, s141_16, s141_17]
  by_cases h1 : c < 48
  · have h : ¬ isDg c := fun q => Int32.not_le.mpr h1 (isDg_iff.mp q).1
    rw [if_pos h1, bI_f h]; simp
  · rw [if_neg h1]
    by_cases h2 : 57 < c
    · have h : ¬ isDg c := fun q => Int32.not_le.mpr h2 (isDg_iff.mp q).2
      rw [if_pos h2, bI_f h]; simp
    · have h : isDg c := isDg_iff.mpr ⟨Int32.not_lt.mp h1, Int32.not_lt.mp h2⟩
      rw [if_neg h2, bI_t h]; simp
theorem ct_isBl {c : Int32} : ip_WP 133 0 [some (.int c)] [] (G, F, I, J) b post px ↔ post (some (.int (bI (isBl c)))) (G, F, I, J) := by
  simp only [s133_0, s133_1, s133_3, s133_6, s133_7, s133_9, s133_12, s133_13, s133_15, s133_18, s133_19, s133_21, s133_24, s133_25, s133_28, s133_29]
  by_cases h1 : c = 9
  · rw [if_pos h1, bI_t (show isBl c = true from isBl_iff.mpr (Or.inl h1))]; simp
  · rw [if_neg h1]
    by_cases h2 : c = 10
    · rw [if_pos h2, bI_t (show isBl c = true from isBl_iff.mpr (Or.inr (Or.inl h2)))]; simp
    · rw [if_neg h2]
      by_cases h3 : c = 13
      · rw [if_pos h3, bI_t (show isBl c = true from isBl_iff.mpr (Or.inr (Or.inr (Or.inl h3))))]; simp
      · rw [if_neg h3]
        by_cases h4 : c = 32
        · rw [if_neg (fun q => q h4), bI_t (show isBl c = true from isBl_iff.mpr (Or.inr (Or.inr (Or.inr h4))))]; simp
        · rw [if_pos h4, bI_f (show ¬ isBl c = true from fun q => by rcases isBl_iff.mp q with q | q | q | q <;> contradiction)]; simp
theorem ct_cod {c : Int32} : ip_WP 138 0 [some (.int c)] [] (G, F, I, J) b post px ↔ post (some (.int (cod c))) (G, F, I, J) := by
  simp only [s138_0, s138_1, s138_4, s138_7, s138_8, s138_10, s138_11, s138_12, s138_13, s138_14, s138_15, s138_18, s138_21, s138_22, s138_24, s138_25, s138_27, s138_28, s138_29, s138_30, s138_33, s138_34, ct_isSm, ct_isDg, Option.toList_some, List.cons_append, List.nil_append, bI_0]
  unfold cod
  by_cases h1 : isSm c = true
  · simp [h1]
  · by_cases h2 : isDg c = true
    · simp [h1, h2]
    · simp [h1, h2]
theorem ct_chr {c : Int32} : ip_WP 139 0 [some (.int c)] [] (G, F, I, J) b post px ↔ post (some (.int (chr c))) (G, F, I, J) := by
  simp only [s139_0, s139_1, s139_3, s139_6, s139_7, s139_9, s139_10, s139_11, s139_12, s139_15, s139_16, s139_18, s139_19, s139_21, s139_22, s139_23, s139_24]
  unfold chr
  by_cases h1 : c ≤ 26
  · have h2 : ¬ 26 < c := Int32.not_lt.mpr h1
    simp only [h1, h2, if_true, if_false]
  · have h2 : 26 < c := Int32.not_le.mp h1
    simp only [h1, h2, if_true, if_false]
/-! Findings: rows at r0 (array a0) and r1 (array a1), n places -/
def cFi (G : List ip_K) (F : Nat → Nat → Value) (k r0 a0 r1 a1 n : Nat) : Prop := G[k]? = some (.inr (4, 3)) ∧ F k 0 = .ref r0 ∧ F k 1 = .ref r1 ∧ cRow G F r0 a0 n (-1) ∧ cRow G F r1 a1 n (-1)
theorem ct_Fi_size {k r0 a0 r1 a1 n : Nat} {x : Int32} (hF : cFi G F k r0 a0 r1 a1 n) (hs : F k 2 = .int x) : ip_WP 120 0 [some (.ref k)] [] (G, F, I, J) b post px ↔ post (some (.int x)) (G, F, I, J) := by
  simp only [s120_0, s120_1, s120_4, ip_isO_eq hF.1, hs, true_and]
theorem ct_Fi_clear {k r0 a0 r1 a1 n : Nat} (hF : cFi G F k r0 a0 r1 a1 n) : ip_WP 121 0 [some (.ref k)] [] (G, F, I, J) b post px ↔ post none (G, ip_up F k 2 (.int 0), I, J) := by
  simp only [s121_0, s121_1, s121_2, s121_5, ip_isO_eq hF.1, true_and]
theorem ct_Fi_add {k r0 a0 r1 a1 n : Nat} {x u v : Int32} (hF : cFi G F k r0 a0 r1 a1 n) (hs : F k 2 = .int x) : ip_WP 122 0 [some (.ref k), some (.int u), some (.int v)] [] (G, F, I, J) b post px ↔ post none (G, ip_up F k 2 (.int (x + 1)), rset (rset I a0 n x u) a1 n x v, J) := by
  obtain ⟨h1, h2, h3, h4, h5⟩ := hF
  simp only [s122_0, s122_1, s122_4, s122_5, s122_8, s122_9, s122_12, s122_13, s122_16, s122_17, s122_20, s122_21, s122_24, s122_25, s122_26, s122_29, s122_30, s122_31, s122_34, ip_isO_eq h1, ip_isO_eq h4.1, ip_isO_eq h5.1, h2, h3, hs, ct_Row_set h4, ct_Row_set h5, Option.toList_none, List.nil_append, true_and]
theorem ct_Fi_num {k r0 a0 r1 a1 n : Nat} {i : Int32} (hF : cFi G F k r0 a0 r1 a1 n) : ip_WP 123 0 [some (.ref k), some (.int i)] [] (G, F, I, J) b post px ↔ post (some (.int (rget (I a0) n (-1) i))) (G, F, I, J) := by
  obtain ⟨h1, h2, h3, h4, h5⟩ := hF
  simp only [s123_0, s123_1, s123_4, s123_5, s123_8, ip_isO_eq h1, ip_isO_eq h4.1, h2, ct_Row_get h4, Option.toList_some, List.cons_append, List.nil_append, true_and]
theorem ct_Fi_tel {k r0 a0 r1 a1 n : Nat} {i : Int32} (hF : cFi G F k r0 a0 r1 a1 n) : ip_WP 124 0 [some (.ref k), some (.int i)] [] (G, F, I, J) b post px ↔ post (some (.int (rget (I a1) n (-1) i))) (G, F, I, J) := by
  obtain ⟨h1, h2, h3, h4, h5⟩ := hF
  simp only [s124_0, s124_1, s124_4, s124_5, s124_8, ip_isO_eq h1, ip_isO_eq h5.1, h3, ct_Row_get h5, Option.toList_some, List.cons_append, List.nil_append, true_and]
end
