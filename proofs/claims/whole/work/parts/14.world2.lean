theorem ip_lo_stL {mi : Nat} {ρ : Nat → Nat} {ls ls' : Array Slot} {nL : Nat} {L : ip_Lo} {i : Nat} {x : Int64} (h : ip_lo mi ρ ls nL L) (hi : i ∈ ip_lng mi)
    (h' : lv_has ls' nL ((i, Value.long x) :: (ip_as ρ L).filter (fun q => !(q.1 == i) && (!(q.1 == i + 1) && !(q.1 + 1 == i && q.2.category == 2))))) : ip_lo mi ρ ls' nL (ip_stL mi L i x) := by
  obtain ⟨h1, h2, h3, h4, h5⟩ := h
  obtain ⟨g1, g2, g3⟩ := h'
  have key : ∀ (j : Nat) (w : Value), (ip_stL mi L i x)[j]? = some (some w) → j ≠ i + 1 ∧ (ip_stI mi L i (some (.long x)))[j]? = some (some w) := by
    intro j w hw
    unfold ip_stL at hw
    by_cases hj : j = i + 1
    · subst hj
      have hl : i + 1 < (ip_stI mi L i (some (.long x))).length := by
        have := (List.getElem?_eq_some_iff.mp hw).1
        simpa using this
      rw [List.getElem?_set_self hl] at hw
      cases hw
    · rw [List.getElem?_set_ne (Ne.symm hj)] at hw
      exact ⟨hj, hw⟩
  refine ⟨g1, g2, by unfold ip_stL; rw [List.length_set, ip_stI_len]; exact h3, fun j w hw => ?_, fun j w hw hcw => ?_⟩
  · obtain ⟨hj1, hw⟩ := key j w hw
    rcases ip_stI_get hw with ⟨rfl, e⟩ | ⟨hj, hL, hn⟩
    · cases e
      exact g3 (j, .long x) List.mem_cons_self
    · refine g3 (j, ip_v ρ w) (List.mem_cons_of_mem _ (List.mem_filter.mpr ⟨ip_as_mem hL, ?_⟩))
      simp only [ip_v_cat, Bool.and_eq_true, Bool.not_eq_true', beq_eq_false_iff_ne, ne_eq, Bool.and_eq_false_iff, hj, hj1, not_false_eq_true, true_and]
      by_cases hji : j + 1 = i
      · right
        intro hcat
        exact hn ⟨hji, h5 j w hL hcat⟩
      · left; exact hji
  · obtain ⟨hj1, hw⟩ := key j w hw
    rcases ip_stI_get hw with ⟨rfl, e⟩ | ⟨hj, hL, hn⟩
    · exact hi
    · exact h5 j w hL hcw
/-- what is forgotten of the locals -/
theorem ip_lo_drop {mi : Nat} {ρ : Nat → Nat} {ls ls' : Array Slot} {nL : Nat} {L : ip_Lo} {k : Nat} {v : Value} (h : ip_lo mi ρ ls nL L) (hc : v.category = 1)
    (h' : lv_has ls' nL ((k, v) :: (ip_as ρ L).filter (fun q => !(q.1 == k) && !(q.1 + 1 == k && q.2.category == 2)))) (hk : ¬ (k ≠ 0 ∧ (k - 1) ∈ ip_lng mi)) : ip_lo mi ρ ls' nL (L.set k none) := by
  obtain ⟨h1, h2, h3, h4, h5⟩ := h
  obtain ⟨g1, g2, g3⟩ := h'
  have key : ∀ (j : Nat) (w : Value), (L.set k none)[j]? = some (some w) → j ≠ k ∧ L[j]? = some (some w) := by
    intro j w hw
    by_cases hj : j = k
    · subst hj
      have hl : j < L.length := by
        have := (List.getElem?_eq_some_iff.mp hw).1
        simpa using this
      rw [List.getElem?_set_self hl] at hw
      cases hw
    · rw [List.getElem?_set_ne (Ne.symm hj)] at hw
      exact ⟨hj, hw⟩
  refine ⟨g1, g2, by rw [List.length_set]; exact h3, fun j w hw => ?_, fun j w hw hcw => ?_⟩
  · obtain ⟨hj, hL⟩ := key j w hw
    refine g3 (j, ip_v ρ w) (List.mem_cons_of_mem _ (List.mem_filter.mpr ⟨ip_as_mem hL, ?_⟩))
    simp only [ip_v_cat, Bool.and_eq_true, Bool.not_eq_true', beq_eq_false_iff_ne, ne_eq, Bool.and_eq_false_iff, hj, not_false_eq_true, true_and]
    by_cases hji : j + 1 = k
    · right
      intro hcat
      exact hk ⟨by omega, by rw [show k - 1 = j by omega]; exact h5 j w hL hcat⟩
    · left; exact hji
  · exact h5 j w (key j w hw).2 hcw
theorem ip_spread_args {ρ : Nat → Nat} : ∀ (vs : List Value) (o i : Nat) (v : Value), (ip_spread vs)[i]? = some (some v) → (o + i, ip_v ρ v) ∈ lv_args o (vs.map (ip_v ρ))
  | [], o, i, v, h => by simp [ip_spread] at h
  | u :: vs, o, i, v, h => by
    unfold ip_spread at h
    show (o + i, ip_v ρ v) ∈ (o, ip_v ρ u) :: lv_args (if (ip_v ρ u).category = 2 then o + 2 else o + 1) (vs.map (ip_v ρ))
    rw [ip_v_cat]
    by_cases hu : u.category = 2
    · rw [if_pos hu] at h ⊢
      match i, h with
      | 0, h => simp at h; subst h; simp
      | 1, h => simp at h
      | i + 2, h =>
        have h : (ip_spread vs)[i]? = some (some v) := by simpa using h
        have := ip_spread_args (ρ := ρ) vs (o + 2) i v h
        rw [show o + 2 + i = o + (i + 2) by omega] at this
        exact List.mem_cons_of_mem _ this
    · rw [if_neg hu] at h ⊢
      match i, h with
      | 0, h => simp at h; subst h; simp
      | i + 1, h =>
        have h : (ip_spread vs)[i]? = some (some v) := by simpa using h
        have := ip_spread_args (ρ := ρ) vs (o + 1) i v h
        rw [show o + 1 + i = o + (i + 1) by omega] at this
        exact List.mem_cons_of_mem _ this
theorem ip_spread_len (ρ : Nat → Nat) : ∀ vs : List Value, (lg_sl (vs.map (ip_v ρ))).length = (ip_spread vs).length
  | [] => rfl
  | u :: vs => by
    have ih := ip_spread_len ρ vs
    have hc := ip_v_cat ρ u
    show (lg_sl (ip_v ρ u :: vs.map (ip_v ρ))).length = _
    rw [show lg_sl (ip_v ρ u :: vs.map (ip_v ρ)) = (if (ip_v ρ u).category = 2 then [Slot.val (ip_v ρ u), Slot.second] else [Slot.val (ip_v ρ u)]) ++ lg_sl (vs.map (ip_v ρ)) by simp [lg_sl], List.length_append, ih, hc]
    rw [show ip_spread (u :: vs) = if u.category = 2 then some u :: none :: ip_spread vs else some u :: ip_spread vs from rfl]
    by_cases hu : u.category = 2
    · rw [if_pos hu, if_pos hu]
      simp only [List.length_cons, List.length_nil]
      omega
    · rw [if_neg hu, if_neg hu]
      simp only [List.length_cons, List.length_nil]
      omega
theorem ip_ent_get {vs : List Value} {n i : Nat} {v : Value} (h : (ip_ent vs n)[i]? = some (some v)) : (ip_spread vs)[i]? = some (some v) := by
  unfold ip_ent at h
  by_cases hi : i < (ip_spread vs).length
  · rwa [List.getElem?_append_left hi] at h
  · rw [List.getElem?_append_right (by omega), List.getElem?_replicate] at h
    split at h <;> simp at h
theorem ip_ent_lo {mi : Nat} {ρ : Nat → Nat} {vs : List Value} {n : Nat} {ls : Array Slot} (hn : (ip_spread vs).length ≤ n) (hl : lv_has ls n (lv_args 0 (vs.map (ip_v ρ)))) (hok : ip_entok mi (ip_ent vs n) = true) : ip_lo mi ρ ls n (ip_ent vs n) := by
  obtain ⟨h1, h2, h3⟩ := hl
  refine ⟨h1, h2, by unfold ip_ent; simp; omega, fun i v hv => ?_, fun i v hv hc => ?_⟩
  · have := ip_spread_args (ρ := ρ) vs 0 i v (ip_ent_get hv)
    rw [Nat.zero_add] at this
    exact h3 _ this
  · have h4 := List.all_eq_true.mp hok i (List.mem_range.mpr (List.getElem?_eq_some_iff.mp hv).1)
    simp [hv, hc] at h4
    exact h4
/-- which references there are: cells, and the given ones from ip_SC on -/
def ip_wV (n : Nat) (v : Value) : Prop := ∀ k, v = .ref k → k < n ∨ ip_SC ≤ k
def ip_wS (n : Nat) (S : List Value) : Prop := ∀ v ∈ S, ip_wV n v
def ip_wL (n : Nat) (L : ip_Lo) : Prop := ∀ (i : Nat) (v : Value), L[i]? = some (some v) → ip_wV n v
def ip_wH (h : ip_H) : Prop := h.1.length ≤ ip_SC ∧ ∀ k x, h.1[k]? = some x → (∀ ci nf, x = .inr (ci, nf) → nf = ip_nf ci ∧ ∀ j, j < nf → ip_wV h.1.length (h.2.1 k j)) ∧ ∀ t n, x = .inl (t, n) → t < 4
theorem ip_wV_int {n : Nat} {x : Int32} : ip_wV n (.int x) := fun k h => by cases h
theorem ip_wV_long {n : Nat} {x : Int64} : ip_wV n (.long x) := fun k h => by cases h
theorem ip_wV_null {n : Nat} : ip_wV n .null := fun k h => by cases h
theorem ip_wS_nil {n : Nat} : ip_wS n [] := fun v h => by cases h
theorem ip_wS_cons {n : Nat} {v : Value} {S : List Value} : ip_wS n (v :: S) ↔ ip_wV n v ∧ ip_wS n S := by
  constructor
  · intro h
    exact ⟨h v List.mem_cons_self, fun w hw => h w (List.mem_cons_of_mem _ hw)⟩
  · rintro ⟨h1, h2⟩ w hw
    rcases List.mem_cons.mp hw with rfl | hw
    · exact h1
    · exact h2 w hw
theorem ip_wV_le {n m : Nat} {v : Value} (h : ip_wV n v) (hm : n ≤ m) : ip_wV m v := fun k hk => (h k hk).imp (fun q => Nat.lt_of_lt_of_le q hm) id
theorem ip_wL_st {mi n i : Nat} {L : ip_Lo} {v : Value} (h : ip_wL n L) (hv : ip_wV n v) : ip_wL n (ip_stI mi L i (some v)) := by
  intro j w hw
  rcases ip_stI_get hw with ⟨-, e⟩ | ⟨-, hL, -⟩
  · cases e; exact hv
  · exact h j w hL
theorem ip_wL_set {n k : Nat} {L : ip_Lo} (h : ip_wL n L) : ip_wL n (L.set k none) := by
  intro j w hw
  by_cases hj : j = k
  · subst hj
    have hl : j < L.length := by
      have := (List.getElem?_eq_some_iff.mp hw).1
      simpa using this
    rw [List.getElem?_set_self hl] at hw
    cases hw
  · rw [List.getElem?_set_ne (Ne.symm hj)] at hw
    exact h j w hw
theorem ip_wL_ent {n k : Nat} {vs : List Value} (h : ip_wS n vs) : ip_wL n (ip_ent vs k) := by
  intro i v hv
  have h2 := ip_ent_get hv
  have key : ∀ (l : List Value) (j : Nat), (ip_spread l)[j]? = some (some v) → v ∈ l := by
    intro l
    induction l with
    | nil => intro j hj; simp [ip_spread] at hj
    | cons u l ih =>
      intro j hj
      unfold ip_spread at hj
      by_cases hu : u.category = 2
      · rw [if_pos hu] at hj
        match j, hj with
        | 0, hj => simp at hj; subst hj; exact List.mem_cons_self
        | 1, hj => simp at hj
        | j + 2, hj => exact List.mem_cons_of_mem _ (ih j (by simpa using hj))
      · rw [if_neg hu] at hj
        match j, hj with
        | 0, hj => simp at hj; subst hj; exact List.mem_cons_self
        | j + 1, hj => exact List.mem_cons_of_mem _ (ih j (by simpa using hj))
  exact h v (key vs i h2)
def ip_ag (n : Nat) (ρ ρ' : Nat → Nat) : Prop := ∀ k, k < n ∨ ip_SC ≤ k → ρ' k = ρ k
theorem ip_v_ext {n : Nat} {ρ ρ' : Nat → Nat} {v : Value} (h : ip_wV n v) (hr : ip_ag n ρ ρ') : ip_v ρ' v = ip_v ρ v := by
  cases v with
  | ref k => exact congrArg Value.ref (hr k (h k rfl))
  | _ => rfl
theorem ip_S_ext {n : Nat} {ρ ρ' : Nat → Nat} {S : List Value} (h : ip_wS n S) (hr : ip_ag n ρ ρ') : S.map (ip_v ρ') = S.map (ip_v ρ) := List.map_congr_left fun v hv => ip_v_ext (h v hv) hr
theorem ip_lo_ext {mi n : Nat} {ρ ρ' : Nat → Nat} {ls : Array Slot} {nL : Nat} {L : ip_Lo} (hl : ip_lo mi ρ ls nL L) (h : ip_wL n L) (hr : ip_ag n ρ ρ') : ip_lo mi ρ' ls nL L := by
  obtain ⟨h1, h2, h3, h4, h5⟩ := hl
  exact ⟨h1, h2, h3, fun i v hv => by rw [ip_v_ext (h i v hv) hr]; exact h4 i v hv, h5⟩
theorem ip_w_ext {dA : Nat → ClassId} {ρ ρ' : Nat → Nat} {h : ip_H} (hw : ip_wH h) (hr : ip_ag h.1.length ρ ρ') : ip_w dA ρ' h = ip_w dA ρ h := by
  apply List.ext_getElem?
  intro k
  simp only [ip_w, List.getElem?_mapIdx]
  cases hk : h.1[k]? with
  | none => rfl
  | some x =>
    have hlt := (List.getElem?_eq_some_iff.mp hk).1
    simp only [Option.map_some, hr k (Or.inl hlt)]
    congr 2
    cases x with
    | inl q => rfl
    | inr q =>
      obtain ⟨ci, nf⟩ := q
      show (Sum.inr (ci, (List.range nf).map (fun j => ip_v ρ' (h.2.1 k j))) : va_E) = Sum.inr (ci, (List.range nf).map (fun j => ip_v ρ (h.2.1 k j)))
      congr 2
      refine List.map_congr_left fun j hj => ?_
      exact ip_v_ext (((hw.2 k _ hk).1 ci nf rfl).2 j (List.mem_range.mp hj)) hr
