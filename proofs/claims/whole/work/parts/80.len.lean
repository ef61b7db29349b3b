/-! how much is printed at most -/
def sm (f : Nat → Nat) : Nat → Nat
  | 0 => 0
  | n + 1 => sm f n + f n
theorem sm_flat (w : Nat → BL) : ∀ n, ((List.range n).flatMap w).length = sm (fun i => (w i).length) n := by
  intro n
  induction n with
  | zero => rfl
  | succ n ih =>
    rw [List.range_succ, List.flatMap_append, List.length_append, ih]
    simp [sm]
theorem sm_le {f g : Nat → Nat} : ∀ {n : Nat}, (∀ i, i < n → f i ≤ g i) → sm f n ≤ sm g n := by
  intro n
  induction n with
  | zero => intro _; exact Nat.le_refl _
  | succ n ih =>
    intro h
    have h1 := ih (fun i hi => h i (by omega))
    have h2 := h n (by omega)
    rw [sm, sm]
    omega
theorem sm_add (f g : Nat → Nat) : ∀ n, sm (fun i => f i + g i) n = sm f n + sm g n := by
  intro n
  induction n with
  | zero => rfl
  | succ n ih => rw [sm, sm, sm, ih]; omega
theorem sm_const (c : Nat) : ∀ n, sm (fun _ => c) n = n * c := by
  intro n
  induction n with
  | zero => rw [sm, Nat.zero_mul]
  | succ n ih => rw [sm, ih, Nat.succ_mul]
theorem sm_none {p : Nat → Bool} {c : Nat} : ∀ {n : Nat}, (∀ i, i < n → p i = false) → sm (fun i => if p i = true then c else 0) n = 0 := by
  intro n
  induction n with
  | zero => intro _; rfl
  | succ n ih =>
    intro h
    rw [sm, ih (fun i hi => h i (by omega)), h n (by omega)]
    rfl
/-- at most one has p -/
theorem sm_one {p : Nat → Bool} {c : Nat} : ∀ {n : Nat}, (∀ i j, i < n → j < n → p i = true → p j = true → i = j) → sm (fun i => if p i = true then c else 0) n ≤ c := by
  intro n
  induction n with
  | zero => intro _; exact Nat.zero_le _
  | succ n ih =>
    intro h
    rw [sm]
    cases q : p n with
    | true =>
      rw [sm_none (fun i hi => by
        cases z : p i with
        | false => rfl
        | true => have := h i n (by omega) (by omega) z q; omega)]
      simp
    | false =>
      have := ih (fun i j hi hj => h i j (by omega) (by omega))
      simp only [Bool.false_eq_true, if_false]
      omega
theorem dgs_len : ∀ (m : Nat) (r : Int64), (dgs m r).length ≤ m := by
  intro m
  induction m with
  | zero => intro r; exact Nat.le_refl _
  | succ m ih =>
    intro r
    rw [dgs, List.length_append]
    have := ih ((r - r / 177917621779460413 * 177917621779460413) * 37)
    split
    · simp only [List.length_nil]; omega
    · simp only [List.length_cons, List.length_nil]; omega
theorem nmB_len (key : Int64) : (nmB key).length ≤ 12 := by
  rw [nmB_eq]
  exact dgs_len _ _
theorem nbB_len (v : Int32) : (nbB v).length ≤ 3 := by
  unfold nbB
  by_cases h1 : 100 ≤ v <;> by_cases h2 : 10 ≤ v <;> simp [h1, h2]
theorem str_len : (str 6).length = 6 ∧ (str 7).length = 2 ∧ (str 8).length = 6 ∧ (str 9).length = 6 ∧ (str 10).length = 8 ∧ (str 11).length = 3 ∧ (str 12).length = 7 ∧ (str 13).length = 3 ∧ (str 14).length = 6 ∧ (str 15).length = 5 ∧ (str 16).length = 6 ∧ (str 17).length = 4 ∧ (str 18).length = 5 ∧ (str 19).length = 3 ∧ (str 20).length = 2 := by decide +kernel
theorem str_lt : ((str 31).length, (str 32).length, (str 33).length, (str 34).length, (str 35).length, (str 36).length, (str 37).length) = (5, 6, 4, 7, 6, 5, 6) := by decide +kernel
/-- each with its own place -/
theorem tk_sum {p : Nat → Bool} {f0 sep : BL} {w : Nat → BL} {e : Nat} (h0 : f0.length ≤ e) (h1 : sep.length ≤ e) : ∀ (m i : Nat) (f : Bool), (tkB p f0 sep w m i f).length ≤ sm (fun k => if p (i + k) = true then e + (w (i + k)).length else 0) m := by
  have sh : ∀ (g : Nat → Nat) (m : Nat), sm g (m + 1) = g 0 + sm (fun k => g (k + 1)) m := by
    intro g m
    induction m with
    | zero => simp [sm]
    | succ m ih => rw [sm, ih]; simp only [sm]; omega
  intro m
  induction m with
  | zero => intro i f; exact Nat.le_refl _
  | succ m ih =>
    intro i f
    have h2 : ∀ f, (tkB p f0 sep w m (i + 1) f).length ≤ sm (fun k => if p (i + (k + 1)) = true then e + (w (i + (k + 1))).length else 0) m := fun f => by
      have := ih (i + 1) f
      have e1 : ∀ k, i + 1 + k = i + (k + 1) := fun k => by omega
      simp only [e1] at this
      exact this
    rw [sh, tkB]
    have hf := h2 false
    have hff := h2 f
    by_cases q : p i = true
    · simp only [q, if_true, Nat.add_zero, List.length_append]
      split
      · omega
      · omega
    · simp only [q, if_false, Nat.add_zero, Bool.false_eq_true]
      omega
theorem tk_max {p : Nat → Bool} {f0 sep : BL} {w : Nat → BL} {e c : Nat} (h0 : f0.length ≤ sep.length + e) (hw : ∀ k, (w k).length ≤ c) : ∀ (m i : Nat) (f : Bool), (tkB p f0 sep w m i f).length ≤ (if f = true then e else 0) + m * (sep.length + c) := by
  intro m
  induction m with
  | zero => intro i f; rw [tkB]; exact Nat.zero_le _
  | succ m ih =>
    intro i f
    have h1 := ih (i + 1) false
    have h2 := ih (i + 1) f
    have h3 := hw i
    rw [tkB, Nat.succ_mul]
    simp only [Bool.false_eq_true, if_false] at h1
    split
    · simp only [List.length_append]
      split
      · omega
      · omega
    · omega
section
variable {X : Nat → Nat → Int32} {I : Nat → Nat → Int32} {J : Nat → Nat → Int64}
theorem prn_len (hb : Bd X) : (prnB X I J).length ≤ 4160 := by
  obtain ⟨s6, s7, s8, s9, s10, s11, s12, s13, s14, s15, s16, s17, s18, s19, s20⟩ := str_len
  have n6 := cn_le (n := 12) hb.a6 hb.b6 (by decide)
  have n8 := cn_le (n := 12) hb.a8 hb.b8 (by decide)
  have n10 := cn_le (n := 8) hb.a10 hb.b10 (by decide)
  have n12 := cn_le (n := 8) hb.a12 hb.b12 (by decide)
  have n5 := cn_le (n := 24) hb.ap hb.bp (by decide)
  have hc : (clsB X J).length ≤ 172 := by
    unfold clsB
    rw [sm_flat]
    have h1 : sm (fun i => ((if i = 0 then str 6 else str 7) ++ nmB (kAt X J 6 (nI i))).length) ((X 6 1).toNatClampNeg) ≤ sm (fun i => 14 + (if decide (i = 0) = true then 4 else 0)) ((X 6 1).toNatClampNeg) := sm_le (fun i _ => by
      have := nmB_len (kAt X J 6 (nI i))
      rw [List.length_append]
      by_cases q : i = 0
      · simp only [q, if_true, decide_true]
        rw [q] at this
        omega
      · simp only [q, if_false, decide_false, Bool.false_eq_true]
        omega)
    rw [sm_add, sm_const] at h1
    have h2 : sm (fun i => if decide (i = 0) = true then 4 else 0) ((X 6 1).toNatClampNeg) ≤ 4 := sm_one (fun i j _ _ h h' => by
      simp only [decide_eq_true_eq] at h h'
      omega)
    omega
  have he : (clsE X).length ≤ 2 := by
    unfold clsE
    split
    · omega
    · exact Nat.zero_le _
  have hs : ((List.range ((X 8 1).toNatClampNeg)).flatMap (stgB X I J)).length ≤ 321 := by
    rw [sm_flat]
    have t7 := str_lt
    simp only [Prod.mk.injEq] at t7
    obtain ⟨t0, t1, t2, t3, t4, t5, t6⟩ := t7
    have h1 : sm (fun s => (stgB X I J s).length) ((X 8 1).toNatClampNeg) ≤ sm (fun s => 20 + ((if decide (I 21 0 = nI s) = true then 11 else 0) + ((if decide (I 21 1 = nI s) = true then 12 else 0) + ((if decide (I 21 2 = nI s) = true then 10 else 0) + ((if decide (I 21 3 = nI s) = true then 13 else 0) + ((if decide (I 21 4 = nI s) = true then 12 else 0) + ((if decide (I 21 5 = nI s) = true then 11 else 0) + (if decide (I 21 6 = nI s) = true then 12 else 0)))))))) ((X 8 1).toNatClampNeg) := sm_le (fun s _ => by
      have hn := nmB_len (kAt X J 8 (nI s))
      have ht := tk_sum (p := fun t => decide (I 21 t = nI s)) (f0 := str 9) (sep := str 7) (w := fun t => str (31 + t)) (e := 6) (by omega) (by omega) 7 0 true
      simp only [sm, Nat.zero_add, Nat.reduceAdd, t0, t1, t2, t3, t4, t5, t6] at ht
      unfold stgB
      simp only [List.length_append]
      omega)
    have o : ∀ (t c : Nat), sm (fun s => if decide (I 21 t = nI s) = true then c else 0) ((X 8 1).toNatClampNeg) ≤ c := fun t c => sm_one (fun i j hi hj h h' => by
      simp only [decide_eq_true_eq] at h h'
      exact (nI_eq (by omega) (by omega)).mp (h.symm.trans h'))
    rw [sm_add, sm_const, sm_add, sm_add, sm_add, sm_add, sm_add, sm_add] at h1
    have o0 := o 0 11
    have o1 := o 1 12
    have o2 := o 2 10
    have o3 := o 3 13
    have o4 := o 4 12
    have o5 := o 5 11
    have o6 := o 6 12
    omega
  have ht : ((List.range ((X 6 1).toNatClampNeg)).flatMap (trtB X I J)).length ≤ 1008 := by
    rw [sm_flat]
    have h1 : sm (fun i => (trtB X I J i).length) ((X 6 1).toNatClampNeg) ≤ sm (fun _ => 84) ((X 6 1).toNatClampNeg) := sm_le (fun i _ => by
      have a1 := nmB_len (kAt X J 6 (nI i))
      have a2 := nmB_len (kAt X J 8 (I 17 i))
      have a3 := nbB_len (latO I (nI i))
      unfold trtB
      by_cases q1 : I 17 i = -1 <;> by_cases q2 : I 19 i = 0 <;> simp only [q1, q2, if_true, if_false, List.length_append, List.length_nil] <;> omega)
    rw [sm_const] at h1
    omega
  have hp : ((List.range ((X 5 13).toNatClampNeg)).flatMap (pthB X I J)).length ≤ 816 := by
    rw [sm_flat]
    have h1 : sm (fun i => (pthB X I J i).length) ((X 5 13).toNatClampNeg) ≤ sm (fun _ => 34) ((X 5 13).toNatClampNeg) := sm_le (fun i _ => by
      have a1 := nmB_len (kAt X J 8 (I 23 i))
      have a2 := nmB_len (kAt X J 8 (I 25 i))
      unfold pthB
      simp only [List.length_append]
      omega)
    rw [sm_const] at h1
    omega
  have hq : ((List.range ((X 10 1).toNatClampNeg)).flatMap (queB X I J)).length ≤ 336 := by
    rw [sm_flat]
    have h1 : sm (fun i => (queB X I J i).length) ((X 10 1).toNatClampNeg) ≤ sm (fun _ => 42) ((X 10 1).toNatClampNeg) := sm_le (fun i _ => by
      have a1 := nmB_len (kAt X J 10 (nI i))
      have a2 := nmB_len (kAt X J 8 (I 29 i))
      have a3 := nbB_len (I 27 i)
      unfold queB
      by_cases q1 : I 29 i = -1 <;> simp only [q1, if_true, if_false, List.length_append, List.length_nil] <;> omega)
    rw [sm_const] at h1
    omega
  have hr : ((List.range ((X 12 1).toNatClampNeg)).flatMap (prtB X I J)).length ≤ 1504 := by
    rw [sm_flat]
    have h1 : sm (fun i => (prtB X I J i).length) ((X 12 1).toNatClampNeg) ≤ sm (fun _ => 188) ((X 12 1).toNatClampNeg) := sm_le (fun i _ => by
      have a1 := nmB_len (kAt X J 12 (nI i))
      have a2 := tk_max (p := fun k => bitP (I 31 i) (nI k)) (f0 := str 19) (sep := str 7) (w := fun k => nmB (kAt X J 6 (nI k))) (e := 1) (c := 12) (by omega) (fun k => nmB_len _) ((X 6 1).toNatClampNeg) 0 true
      rw [s7] at a2
      simp only [if_true] at a2
      unfold prtB
      simp only [List.length_append]
      omega)
    rw [sm_const] at h1
    omega
  unfold prnB
  simp only [List.length_append]
  omega
end
