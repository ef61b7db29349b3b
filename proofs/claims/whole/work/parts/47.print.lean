/-! CoreText$Printer: what is printed, as lists -/
abbrev BL : Type := List Int32
/-- printed Bytes (cells 3, 4) hold l -/
def CP (X : Nat → Nat → Int32) (y : Int64) (I : Nat → Nat → Int32) (J : Nat → Nat → Int64) (l : BL) (h : ip_H) : Prop := ∃ X' I', h = (g0, fld X' y, I', J) ∧ X' 3 1 = nI l.length ∧ (∀ i v, l[i]? = some v → I' 4 i = v.toInt8.toInt32) ∧ (∀ c, c ≠ 3 → X' c = X c) ∧ (∀ a, a ≠ 4 → I' a = I a)
/-- string number k -/
def str (k : Nat) : BL := (ip_strs.getD k []).map Int32.ofNat
/-- the digits of a name's key, from the highest on; zeros in front are left out -/
def dgs : Nat → Int64 → BL
  | 0, _ => []
  | m + 1, r => (if (r / 177917621779460413).toInt32 ≤ 0 then [] else [chr (r / 177917621779460413).toInt32]) ++ dgs m ((r - r / 177917621779460413 * 177917621779460413) * 37)
theorem nm_ex : ∃ f : Int64 → BL, f = dgs 12 := ⟨_, rfl⟩
/-- a name's characters, by its key: chosen, so that nothing unfolds it -/
noncomputable def nmB : Int64 → BL := Classical.choose nm_ex
theorem nmB_eq (key : Int64) : nmB key = dgs 12 key := congrFun (Classical.choose_spec nm_ex) key
def nbB (v : Int32) : BL := (if 100 ≤ v then [48 + v / 100] else []) ++ ((if 10 ≤ v then [48 + (v / 10 - v / 10 / 10 * 10)] else []) ++ [48 + (v - v / 10 * 10)])
/-- those of i .. i+m-1 with p, each behind f0 (the first) or sep -/
def tkB (p : Nat → Bool) (f0 sep : BL) (w : Nat → BL) : Nat → Nat → Bool → BL
  | 0, _, _ => []
  | m + 1, i, first => if p i = true then (if first = true then f0 else sep) ++ (w i ++ tkB p f0 sep w m (i + 1) false) else tkB p f0 sep w m (i + 1) first
theorem flat_le (w : Nat → BL) {i n : Nat} (h : i ≤ n) : ((List.range i).flatMap w).length ≤ ((List.range n).flatMap w).length := by
  induction n with
  | zero => have : i = 0 := by omega
            subst this; exact Nat.le_refl _
  | succ n ih =>
    by_cases q : i = n + 1
    · subst q; exact Nat.le_refl _
    · rw [List.range_succ, List.flatMap_append, List.length_append]
      have := ih (by omega)
      omega
/-- a loop that prints -/
theorem lpP {mi pc : Nat} {L : Int32 → ip_Lo} {b : ip_B} {post : Option Value → ip_H → Prop} {px : String → ip_H → Prop} {C : BL → ip_H → Prop} {w : Nat → BL} {n cap : Nat} {L0 : BL} (hT : (L0 ++ (List.range n).flatMap w).length ≤ cap)
    (hs : ∀ i l h, i < n → (l ++ w i).length ≤ cap → C l h → (∀ h', C (l ++ w i) h' → ip_WP mi pc (L (nI (i + 1))) [] h' b post px) → ip_WP mi pc (L (nI i)) [] h b post px)
    (he : ∀ h, C (L0 ++ (List.range n).flatMap w) h → ip_WP mi pc (L (nI n)) [] h b post px) : ∀ h, C L0 h → ip_WP mi pc (L 0) [] h b post px := by
  intro h hC
  have key := lp (σ := ip_H) (P := fun i h => C (L0 ++ (List.range i).flatMap w) h) (W := fun i h => ip_WP mi pc (L (nI i)) [] h b post px) n (fun i h hi hP hk => by
    have e : (L0 ++ (List.range i).flatMap w) ++ w i = L0 ++ (List.range (i + 1)).flatMap w := by
      rw [List.range_succ, List.flatMap_append, List.append_assoc]
      simp
    refine hs i _ h hi ?_ hP (fun h' hC' => hk h' ?_)
    · rw [e, List.length_append]
      rw [List.length_append] at hT
      have := flat_le w (i := i + 1) (n := n) (by omega)
      omega
    · rw [e] at hC'
      exact hC') he 0 h (Nat.zero_le n) (by
    show C (L0 ++ []) h
    rw [List.append_nil]
    exact hC)
  rw [← nI_0]
  exact key
/-- a loop that prints those with p -/
theorem lpQ {mi pc : Nat} {L : Int32 → Int32 → ip_Lo} {b : ip_B} {post : Option Value → ip_H → Prop} {px : String → ip_H → Prop} {C : BL → ip_H → Prop} {p : Nat → Bool} {f0 sep : BL} {w : Nat → BL} {n cap : Nat} {L0 : BL} (hT : (L0 ++ tkB p f0 sep w n 0 true).length ≤ cap)
    (hs : ∀ i l h (f : Bool), i < n → (p i = true → (l ++ ((if f = true then f0 else sep) ++ w i)).length ≤ cap) → C l h → (∀ h', C (if p i = true then l ++ ((if f = true then f0 else sep) ++ w i) else l) h' → ip_WP mi pc (L (bI ((f && !p i) = true)) (nI (i + 1))) [] h' b post px) → ip_WP mi pc (L (bI (f = true)) (nI i)) [] h b post px)
    (he : ∀ h v, C (L0 ++ tkB p f0 sep w n 0 true) h → ip_WP mi pc (L v (nI n)) [] h b post px) : ∀ h, C L0 h → ip_WP mi pc (L 1 0) [] h b post px := by
  have key : ∀ m i l h (f : Bool), i + m = n → l ++ tkB p f0 sep w m i f = L0 ++ tkB p f0 sep w n 0 true → C l h → ip_WP mi pc (L (bI (f = true)) (nI i)) [] h b post px := by
    intro m
    induction m with
    | zero =>
      intro i l h f hi hl hC
      have : i = n := by omega
      subst this
      rw [tkB, List.append_nil] at hl
      rw [hl] at hC
      exact he h _ hC
    | succ m ih =>
      intro i l h f hi hl hC
      refine hs i l h f (by omega) (fun hp => ?_) hC (fun h' hC' => ?_)
      · rw [← hl, tkB, if_pos hp] at hT
        simp only [List.length_append] at hT ⊢
        omega
      · cases q : p i with
        | true =>
          rw [q, if_pos rfl] at hC'
          rw [show (f && !true) = false from by simp]
          refine ih (i + 1) _ h' false (by omega) ?_ hC'
          rw [← hl, tkB, if_pos q]
          simp only [List.append_assoc]
        | false =>
          rw [q, if_neg (by decide)] at hC'
          rw [show (f && !false) = f from by simp]
          refine ih (i + 1) _ h' f (by omega) ?_ hC'
          rw [← hl, tkB, if_neg (by rw [q]; decide)]
  intro h hC
  have := key n 0 L0 h true (Nat.zero_add n) rfl hC
  rw [nI_0] at this
  exact this
section
variable {X : Nat → Nat → Int32} {y : Int64} {I : Nat → Nat → Int32} {J : Nat → Nat → Int64} {b : ip_B} {post : Option Value → ip_H → Prop} {px : String → ip_H → Prop}
theorem CP.add {X' : Nat → Nat → Int32} {I' : Nat → Nat → Int32} {l : BL} {v : Int32} (h2 : ∀ i v, l[i]? = some v → I' 4 i = v.toInt8.toInt32) (hX : ∀ c, c ≠ 3 → X' c = X c) (hI : ∀ a, a ≠ 4 → I' a = I a) :
    CP X y I J (l ++ [v]) (g0, fld (ip_up X' 3 1 (nI (l.length + 1))) y, ip_up I' 4 l.length v.toInt8.toInt32, J) := by
  refine ⟨_, _, rfl, ?_, ?_, fun c hc => by rw [up1, if_neg hc]; exact hX c hc, fun a ha => by rw [up1, if_neg ha]; exact hI a ha⟩
  · rw [up1, if_pos rfl, updF_ap, if_pos rfl, List.length_append]
    rfl
  · intro i u hu
    rw [up1, if_pos rfl, updF_ap]
    by_cases hi : i < l.length
    · rw [if_neg (by omega)]
      rw [List.getElem?_append_left hi] at hu
      exact h2 i u hu
    · rw [List.getElem?_append_right (by omega)] at hu
      have hz : i - l.length = 0 := by
        rcases hz : i - l.length with _ | z
        · rfl
        · rw [hz] at hu; simp at hu
      rw [hz] at hu
      have hu : v = u := by simpa using hu
      rw [if_pos (by omega), hu]
theorem pr_add {l : BL} {v : Int32} (hl : (l ++ [v]).length ≤ 4160) (hk : ∀ h, CP X y I J (l ++ [v]) h → post none h) : ∀ h, CP X y I J l h → ip_WP 91 0 [some (.ref 3), some (.int v)] [] h b post px := by
  rintro h ⟨X', I', rfl, h1, h2, hX, hI⟩
  have hl' : l.length < 4160 := by rw [List.length_append] at hl; exact hl
  rw [bd_3 h1 hl']
  exact hk _ (CP.add h2 hX hI)
theorem pr_text {l : BL} {r k : Nat} (hr : r = 1000001 + k) (hk0 : k < 38) (hl : (l ++ str k).length ≤ 4160) (hk : ∀ h, CP X y I J (l ++ str k) h → post none h) : ∀ h, CP X y I J l h → ip_WP 93 0 [some (.ref 3), some (.ref r), none] [] h b post px := by
  subst hr
  have hs : ip_strs[1000001 + k - (ip_SC + 1)]? = some (ip_strs.getD k []) := by
    rw [show 1000001 + k - (ip_SC + 1) = k from by unfold ip_SC; omega]
    rw [List.getD_eq_getElem?_getD]
    have : k < ip_strs.length := hk0
    rw [List.getElem?_eq_getElem this]
    rfl
  have hS : ip_SC < 1000001 + k := by unfold ip_SC; omega
  have hln : ip_slen (1000001 + k) = some (ip_strs.getD k []).length := by
    unfold ip_slen
    rw [if_pos hS, hs]
    rfl
  have hmx : ∀ k, k < 38 → (ip_strs.getD k []).length < 100 := by decide
  have hm := hmx k hk0
  have hch : ∀ i (hi : i < (ip_strs.getD k []).length), ip_sch (1000001 + k) (nI i) = some (Int32.ofNat (ip_strs.getD k [])[i]) := by
    intro i hi
    unfold ip_sch
    rw [if_pos ⟨hS, nI_pos (by omega)⟩, hs]
    simp only []
    rw [nI_clamp (by omega), List.getElem?_eq_getElem hi]
    rfl
  unfold str at hl hk
  generalize ip_strs.getD k [] = s at hln hm hch hl hk
  rintro h hC
  have key : ∀ h, CP X y I J l h → ip_WP 93 2 [some (.ref 3), some (.ref (1000001 + k)), some (.int 0)] [] h b post px := by
    intro h hC
    have := lp (σ := ip_H) (P := fun i h => CP X y I J (l ++ (s.map Int32.ofNat).take i) h) (W := fun i h => ip_WP 93 2 [some (.ref 3), some (.ref (1000001 + k)), some (.int (nI i))] [] h b post px) s.length (fun i h hi hP hk2 => by
      have c1 : ¬ Int32.ofNat s.length ≤ nI i := nI_ge hi (by omega)
      obtain ⟨X', I', rfl, h1, h2, hX, hI⟩ := id hP
      show ip_WP _ _ _ _ _ _ _ _
      rw [s93_2]
      simp only [s93_0, s93_1, s93_3, s93_4, s93_7, s93_10, s93_11, s93_12, s93_13, s93_16, s93_25, hln, hch i hi, o_3, c1, Option.toList_some, Option.toList_none, List.cons_append, List.nil_append, List.append_nil, ip_on_some, true_and, and_true, if_true, if_false, not_true_eq_false, not_false_eq_true, decide_true, true_or, or_true, or_self, Bool.false_eq_true]
      have hlt : l.length + i < 4160 := by
        rw [List.length_append, List.length_map] at hl
        omega
      refine pr_add (l := l ++ (s.map Int32.ofNat).take i) ?_ (fun h' hC' => ?_) _ hP
      · simp only [List.length_append, List.length_take, List.length_map, List.length_cons, List.length_nil]
        omega
      · obtain ⟨X2, I2, rfl, _⟩ := id hC'
        simp only [s93_19, s93_22, nI_1, Option.toList_some, Option.toList_none, List.cons_append, List.nil_append, List.append_nil, ip_on_some, true_and, and_true, if_true, if_false, not_true_eq_false, not_false_eq_true, decide_true, true_or, or_true, or_self, Bool.false_eq_true]
        refine hk2 _ ?_
        show CP X y I J (l ++ (s.map Int32.ofNat).take (i + 1)) _
        rw [List.take_succ, ← List.append_assoc, List.getElem?_map, List.getElem?_eq_getElem hi]
        exact hC') (fun h hP => by
      have c1 : Int32.ofNat s.length ≤ nI s.length := Int32.le_refl _
      obtain ⟨X', I', rfl, _⟩ := id hP
      show ip_WP _ _ _ _ _ _ _ _
      rw [s93_2]
      simp only [s93_0, s93_1, s93_3, s93_4, s93_7, s93_10, s93_11, s93_12, s93_13, s93_16, s93_25, hln, c1, Option.toList_some, Option.toList_none, List.cons_append, List.nil_append, List.append_nil, ip_on_some, true_and, and_true, if_true, if_false, not_true_eq_false, not_false_eq_true, decide_true, true_or, or_true, or_self, Bool.false_eq_true]
      refine hk _ ?_
      have hP : CP X y I J (l ++ (s.map Int32.ofNat).take s.length) _ := hP
      rw [show s.length = (s.map Int32.ofNat).length from (List.length_map _).symm, List.take_length] at hP
      exact hP) 0 h (Nat.zero_le _) (by
      show CP X y I J (l ++ []) h
      rw [List.append_nil]
      exact hC)
    rw [← nI_0]
    exact this
  obtain ⟨X', I', rfl, h1, h2, hX, hI⟩ := id hC
  rw [s93_0, s93_1]
  exact key _ hC
theorem pr_end {l : BL} (hl : (l ++ str 20).length ≤ 4160) (hk : ∀ h, CP X y I J (l ++ str 20) h → post none h) : ∀ h, CP X y I J l h → ip_WP 159 0 [some (.ref 36)] [] h b post px := by
  intro h hC
  obtain ⟨X', I', rfl, _⟩ := id hC
  simp only [s159_0, s159_1, s159_4, s159_6, f_3_0, f_3_1, u_3_1, f_36_0, f_36_1, o_3, o_36, Option.toList_some, Option.toList_none, List.cons_append, List.nil_append, List.append_nil, ip_on_some, true_and, and_true, if_true, if_false, not_true_eq_false, not_false_eq_true, decide_true, true_or, or_true, or_self, Bool.false_eq_true]
  refine pr_text (k := 20) rfl (by decide) hl (fun h hC => ?_) _ hC
  obtain ⟨X', I', rfl, _⟩ := id hC
  simp only [s159_9, Option.toList_some, Option.toList_none, List.cons_append, List.nil_append, List.append_nil, ip_on_some, true_and, and_true, if_true, if_false, not_true_eq_false, not_false_eq_true, decide_true, true_or, or_true, or_self, Bool.false_eq_true]
  exact hk _ hC
theorem pr_num {l : BL} {v : Int32} (hl : (l ++ nbB v).length ≤ 4160) (hk : ∀ h, CP X y I J (l ++ nbB v) h → post none h) : ∀ h, CP X y I J l h → ip_WP 158 0 [some (.ref 36), some (.int v)] [] h b post px := by
  unfold nbB at hl hk
  have z1 : ¬ (100 : Int32) = 0 := by decide
  have z2 : ¬ (10 : Int32) = 0 := by decide
  have h3 : ∀ l' : BL, (l' ++ [48 + (v - v / 10 * 10)]).length ≤ 4160 → (∀ h, CP X y I J (l' ++ [48 + (v - v / 10 * 10)]) h → post none h) → ∀ h, CP X y I J l' h → ip_WP 158 43 [some (.ref 36), some (.int v)] [] h b post px := by
    intro l' hl hk h hC
    obtain ⟨X', I', rfl, _⟩ := id hC
    simp only [s158_0, s158_1, s158_3, s158_6, s158_7, s158_10, s158_12, s158_13, s158_15, s158_16, s158_17, s158_20, s158_21, s158_23, s158_26, s158_27, s158_30, s158_32, s158_33, s158_35, s158_36, s158_38, s158_39, s158_40, s158_43, s158_44, s158_47, s158_49, s158_50, s158_52, s158_53, s158_54, f_3_0, f_3_1, u_3_1, f_36_0, f_36_1, o_3, o_36, z2, Option.toList_some, Option.toList_none, List.cons_append, List.nil_append, List.append_nil, ip_on_some, true_and, and_true, if_true, if_false, not_true_eq_false, not_false_eq_true, decide_true, true_or, or_true, or_self, Bool.false_eq_true]
    refine pr_add hl (fun h hC => ?_) _ hC
    obtain ⟨X', I', rfl, _⟩ := id hC
    simp only [s158_57, Option.toList_some, Option.toList_none, List.cons_append, List.nil_append, List.append_nil, ip_on_some, true_and, and_true, if_true, if_false, not_true_eq_false, not_false_eq_true, decide_true, true_or, or_true, or_self, Bool.false_eq_true]
    exact hk _ hC
  have h2 : ∀ l' : BL, (l' ++ ((if 10 ≤ v then [48 + (v / 10 - v / 10 / 10 * 10)] else []) ++ [48 + (v - v / 10 * 10)])).length ≤ 4160 → (∀ h, CP X y I J (l' ++ ((if 10 ≤ v then [48 + (v / 10 - v / 10 / 10 * 10)] else []) ++ [48 + (v - v / 10 * 10)])) h → post none h) → ∀ h, CP X y I J l' h → ip_WP 158 20 [some (.ref 36), some (.int v)] [] h b post px := by
    intro l' hl hk h hC
    obtain ⟨X', I', rfl, _⟩ := id hC
    simp only [s158_0, s158_1, s158_3, s158_6, s158_7, s158_10, s158_12, s158_13, s158_15, s158_16, s158_17, s158_20, s158_21, s158_23, s158_26, s158_27, s158_30, s158_32, s158_33, s158_35, s158_36, s158_38, s158_39, s158_40, f_3_0, f_3_1, u_3_1, f_36_0, f_36_1, o_3, o_36, z2, Option.toList_some, Option.toList_none, List.cons_append, List.nil_append, List.append_nil, ip_on_some, true_and, and_true, if_true, if_false, not_true_eq_false, not_false_eq_true, decide_true, true_or, or_true, or_self, Bool.false_eq_true]
    by_cases c : (10 : Int32) ≤ v
    · have c' : ¬ v < 10 := Int32.not_lt.mpr c
      rw [if_pos c] at hl hk
      simp only [c', Option.toList_some, Option.toList_none, List.cons_append, List.nil_append, List.append_nil, ip_on_some, true_and, and_true, if_true, if_false, not_true_eq_false, not_false_eq_true, decide_true, true_or, or_true, or_self, Bool.false_eq_true]
      refine pr_add (l := l') ?_ (fun h hC => ?_) _ hC
      · simp only [List.length_append, List.length_cons, List.length_nil] at hl ⊢; omega
      · obtain ⟨X', I', rfl, _⟩ := id hC
        simp only [Option.toList_some, Option.toList_none, List.cons_append, List.nil_append, List.append_nil, ip_on_some, true_and, and_true, if_true, if_false, not_true_eq_false, not_false_eq_true, decide_true, true_or, or_true, or_self, Bool.false_eq_true]
        exact h3 _ (by simpa only [List.append_assoc] using hl) (by simpa only [List.append_assoc] using hk) _ hC
    · have c' : v < 10 := Int32.not_le.mp c
      rw [if_neg c, List.nil_append] at hl hk
      simp only [c', Option.toList_some, Option.toList_none, List.cons_append, List.nil_append, List.append_nil, ip_on_some, true_and, and_true, if_true, if_false, not_true_eq_false, not_false_eq_true, decide_true, true_or, or_true, or_self, Bool.false_eq_true]
      exact h3 _ hl hk _ hC
  intro h hC
  obtain ⟨X', I', rfl, _⟩ := id hC
  simp only [s158_0, s158_1, s158_3, s158_6, s158_7, s158_10, s158_12, s158_13, s158_15, s158_16, s158_17, f_3_0, f_3_1, u_3_1, f_36_0, f_36_1, o_3, o_36, z1, Option.toList_some, Option.toList_none, List.cons_append, List.nil_append, List.append_nil, ip_on_some, true_and, and_true, if_true, if_false, not_true_eq_false, not_false_eq_true, decide_true, true_or, or_true, or_self, Bool.false_eq_true]
  by_cases c : (100 : Int32) ≤ v
  · have c' : ¬ v < 100 := Int32.not_lt.mpr c
    rw [if_pos c] at hl hk
    simp only [c', Option.toList_some, Option.toList_none, List.cons_append, List.nil_append, List.append_nil, ip_on_some, true_and, and_true, if_true, if_false, not_true_eq_false, not_false_eq_true, decide_true, true_or, or_true, or_self, Bool.false_eq_true]
    refine pr_add (l := l) ?_ (fun h hC => ?_) _ hC
    · simp only [List.length_append, List.length_cons, List.length_nil] at hl ⊢; omega
    · obtain ⟨X', I', rfl, _⟩ := id hC
      simp only [Option.toList_some, Option.toList_none, List.cons_append, List.nil_append, List.append_nil, ip_on_some, true_and, and_true, if_true, if_false, not_true_eq_false, not_false_eq_true, decide_true, true_or, or_true, or_self, Bool.false_eq_true]
      exact h2 _ (by simpa only [List.append_assoc] using hl) (by simpa only [List.append_assoc] using hk) _ hC
  · have c' : v < 100 := Int32.not_le.mp c
    rw [if_neg c, List.nil_append] at hl hk
    simp only [c', Option.toList_some, Option.toList_none, List.cons_append, List.nil_append, List.append_nil, ip_on_some, true_and, and_true, if_true, if_false, not_true_eq_false, not_false_eq_true, decide_true, true_or, or_true, or_self, Bool.false_eq_true]
    exact h2 _ hl hk _ hC
/-- the bytes of a name, the key in hand -/
theorem pr_dgs {c : Nat} {x2 : Int32} : ∀ (m n : Nat) (r : Int64) (x6 : Option Value) (l : BL), n + m = 12 → (l ++ dgs m r).length ≤ 4160 → (∀ h, CP X y I J (l ++ dgs m r) h → post none h) → ∀ h, CP X y I J l h → ip_WP 157 9 [some (.ref 36), some (.ref c), some (.int x2), some (.long r), none, some (.int (nI n)), x6] [] h b post px := by
  have z : ¬ (177917621779460413 : Int64) = 0 := by decide +kernel
  intro m
  induction m with
  | zero =>
    intro n r x6 l hn hl hk h hC
    have c1 : (12 : Int32) ≤ nI n := nI_le (a := 12) (by omega) (by omega)
    obtain ⟨X', I', rfl, _⟩ := id hC
    simp only [s157_9, s157_11, s157_13, s157_57, c1, Option.toList_some, Option.toList_none, List.cons_append, List.nil_append, List.append_nil, ip_on_some, true_and, and_true, if_true, if_false, not_true_eq_false, not_false_eq_true, decide_true, true_or, or_true, or_self, Bool.false_eq_true]
    rw [dgs, List.append_nil] at hk
    exact hk _ hC
  | succ m ih =>
    intro n r x6 l hn hl hk h hC
    have c1 : ¬ (12 : Int32) ≤ nI n := nI_ge (b := 12) (by omega) (by decide)
    have ht : ∀ (l' : BL) (x6 : Int32), (l' ++ dgs m ((r - r / 177917621779460413 * 177917621779460413) * 37)).length ≤ 4160 → (∀ h, CP X y I J (l' ++ dgs m ((r - r / 177917621779460413 * 177917621779460413) * 37)) h → post none h) → ∀ h, CP X y I J l' h → ip_WP 157 41 [some (.ref 36), some (.ref c), some (.int x2), some (.long r), none, some (.int (nI n)), some (.int x6)] [] h b post px := by
      intro l' x6 hl hk h hC
      obtain ⟨X', I', rfl, _⟩ := id hC
      simp only [s157_41, s157_42, s157_45, s157_46, s157_49, s157_50, s157_51, s157_54, z, nI_1, Option.toList_some, Option.toList_none, List.cons_append, List.nil_append, List.append_nil, ip_on_some, true_and, and_true, if_true, if_false, not_true_eq_false, not_false_eq_true, decide_true, true_or, or_true, or_self, Bool.false_eq_true]
      exact ih (n + 1) _ _ _ (by omega) hl hk _ hC
    obtain ⟨X', I', rfl, _⟩ := id hC
    rw [dgs] at hl hk
    by_cases q : (r / 177917621779460413).toInt32 ≤ 0
    · simp only [s157_9, s157_11, s157_13, s157_16, s157_17, s157_20, s157_21, s157_22, s157_24, s157_26, c1, z, q, Option.toList_some, Option.toList_none, List.cons_append, List.nil_append, List.append_nil, ip_on_some, true_and, and_true, if_true, if_false, not_true_eq_false, not_false_eq_true, decide_true, true_or, or_true, or_self, Bool.false_eq_true]
      rw [if_pos q, List.nil_append] at hl hk
      exact ht _ _ hl hk _ hC
    · simp only [s157_9, s157_11, s157_13, s157_16, s157_17, s157_20, s157_21, s157_22, s157_24, s157_26, s157_29, s157_30, s157_33, s157_35, s157_38, f_3_0, f_3_1, u_3_1, f_36_0, f_36_1, o_3, o_36, c1, z, q, ct_chr, Option.toList_some, Option.toList_none, List.cons_append, List.nil_append, List.append_nil, ip_on_some, true_and, and_true, if_true, if_false, not_true_eq_false, not_false_eq_true, decide_true, true_or, or_true, or_self, Bool.false_eq_true]
      rw [if_neg q] at hl hk
      refine pr_add (l := l) ?_ (fun h hC => ?_) _ hC
      · simp only [List.length_append, List.length_cons, List.length_nil] at hl ⊢; omega
      · obtain ⟨X', I', rfl, _⟩ := id hC
        simp only [Option.toList_some, Option.toList_none, List.cons_append, List.nil_append, List.append_nil, ip_on_some, true_and, and_true, if_true, if_false, not_true_eq_false, not_false_eq_true, decide_true, true_or, or_true, or_self, Bool.false_eq_true]
        exact ht _ _ (by rw [List.append_assoc]; exact hl) (by rw [List.append_assoc]; exact hk) _ hC
end
