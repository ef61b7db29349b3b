/-! the pure machine's cells in the real heap: cell k lies at ρ k -/
def ip_v (ρ : Nat → Nat) : Value → Value
  | .ref k => .ref (ρ k)
  | v => v
theorem ip_v_cat (ρ : Nat → Nat) (v : Value) : (ip_v ρ v).category = v.category := by cases v <;> rfl
theorem ip_v_cats (ρ : Nat → Nat) (S : List Value) : ((S.map (ip_v ρ)).map fun v => v.category) = S.map fun v => v.category := by
  rw [List.map_map]
  exact List.map_congr_left fun v _ => ip_v_cat ρ v
def ip_cell (dA : Nat → ClassId) (ρ : Nat → Nat) (h : ip_H) (k : Nat) (x : ip_K) : va_E := match x with
  | .inl (t, n) => .inl (dA t, n, if t = 2 then .inr (.inl (h.2.2.2 k)) else .inl (h.2.2.1 k))
  | .inr (ci, n) => .inr (ci, (List.range n).map (fun j => ip_v ρ (h.2.1 k j)))
def ip_w (dA : Nat → ClassId) (ρ : Nat → Nat) (h : ip_H) : va_W := h.1.mapIdx (fun k x => (ρ k, ip_cell dA ρ h k x))
theorem ip_w_get {dA : Nat → ClassId} {ρ : Nat → Nat} {h : ip_H} {k : Nat} {x : ip_K} (hk : h.1[k]? = some x) : (ip_w dA ρ h)[k]? = some (ρ k, ip_cell dA ρ h k x) := by
  simp [ip_w, List.getElem?_mapIdx, hk]
theorem ip_w_len {dA : Nat → ClassId} {ρ : Nat → Nat} {h : ip_H} : (ip_w dA ρ h).length = h.1.length := by simp [ip_w]
theorem ip_w_set {dA : Nat → ClassId} {ρ : Nat → Nat} {h h' : ip_H} {k : Nat} {x : ip_K} {e : va_E} (hG : h'.1 = h.1) (hk : h.1[k]? = some x) (he : e = ip_cell dA ρ h' k x) (ho : ∀ j y, j ≠ k → ip_cell dA ρ h' j y = ip_cell dA ρ h j y) :
    (ip_w dA ρ h).set k (ρ k, e) = ip_w dA ρ h' := by
  apply List.ext_getElem?
  intro j
  by_cases hj : j = k
  · subst hj
    rw [List.getElem?_set_self (by rw [ip_w_len]; exact (List.getElem?_eq_some_iff.mp hk).1), ip_w_get (h := h') (by rw [hG]; exact hk), he]
  · rw [List.getElem?_set_ne (Ne.symm hj)]
    simp only [ip_w, List.getElem?_mapIdx, hG]
    cases hy : h.1[j]? with
    | none => rfl
    | some y => simp [ho j y hj]
theorem ip_fs_set {n j : Nat} {f g : Nat → Value} {w : Value} (hj : g j = w) (hg : ∀ i, i ≠ j → g i = f i) : ((List.range n).map f).set j w = (List.range n).map g := by
  apply List.ext_getElem?
  intro i
  by_cases hi : i = j
  · subst hi
    by_cases hl : i < n
    · rw [List.getElem?_set_self (by simpa using hl)]
      simp [hl, hj]
    · rw [List.getElem?_eq_none (by simp; omega), List.getElem?_eq_none (by simp; omega)]
  · rw [List.getElem?_set_ne (Ne.symm hi)]
    by_cases hl : i < n
    · simp [hl, hg i hi]
    · rw [List.getElem?_eq_none (by simp; omega), List.getElem?_eq_none (by simp; omega)]
theorem ip_up_self {α : Type} (f : Nat → Nat → α) (k j : Nat) (v : α) : ip_up f k j v k j = v := by simp [ip_up]
theorem ip_up_row {α : Type} (f : Nat → Nat → α) (k j : Nat) (v : α) {a : Nat} (h : a ≠ k) : ip_up f k j v a = f a := by
  funext b
  simp [ip_up, h]
theorem ip_up_col {α : Type} (f : Nat → Nat → α) (k j : Nat) (v : α) {b : Nat} (h : b ≠ j) : ip_up f k j v k b = f k b := by simp [ip_up, h]
/-- a field of cell k is put -/
theorem ip_w_putF {dA : Nat → ClassId} {ρ : Nat → Nat} {G : List ip_K} {F : Nat → Nat → Value} {I : Nat → Nat → Int32} {J : Nat → Nat → Int64} {k j ci n : Nat} {v : Value} (hk : G[k]? = some (.inr (ci, n))) :
    (ip_w dA ρ (G, F, I, J)).set k (ρ k, .inr (ci, ((List.range n).map (fun j => ip_v ρ (F k j))).set j (ip_v ρ v))) = ip_w dA ρ (G, ip_up F k j v, I, J) := by
  refine ip_w_set (h := (G, F, I, J)) rfl hk ?_ ?_
  · show _ = Sum.inr (ci, _)
    rw [ip_fs_set (g := fun i => ip_v ρ (ip_up F k j v k i)) (by rw [ip_up_self]) (fun i hi => by rw [ip_up_col F k j v hi])]
  · intro a y ha
    simp only [ip_cell, ip_up_row F k j v ha]
theorem ip_w_putI {dA : Nat → ClassId} {ρ : Nat → Nat} {G : List ip_K} {F : Nat → Nat → Value} {I : Nat → Nat → Int32} {J : Nat → Nat → Int64} {k j t n : Nat} {x : Int32} (ht : ¬ t = 2) (hk : G[k]? = some (.inl (t, n))) :
    (ip_w dA ρ (G, F, I, J)).set k (ρ k, .inl (dA t, n, .inl (upd (I k) j x))) = ip_w dA ρ (G, F, ip_up I k j x, J) := by
  refine ip_w_set (h := (G, F, I, J)) rfl hk ?_ ?_
  · show _ = Sum.inl (dA t, n, _)
    rw [if_neg ht]
    congr 4
    funext i
    by_cases hi : i = j
    · subst hi; simp [upd, ip_up]
    · simp [upd, ip_up, hi]
  · intro a y ha
    simp only [ip_cell, ip_up_row I k j x ha]
theorem ip_w_putJ {dA : Nat → ClassId} {ρ : Nat → Nat} {G : List ip_K} {F : Nat → Nat → Value} {I : Nat → Nat → Int32} {J : Nat → Nat → Int64} {k j n : Nat} {x : Int64} (hk : G[k]? = some (.inl (2, n))) :
    (ip_w dA ρ (G, F, I, J)).set k (ρ k, .inl (dA 2, n, .inr (.inl (vp_updL (J k) j x)))) = ip_w dA ρ (G, F, I, ip_up J k j x) := by
  refine ip_w_set (h := (G, F, I, J)) rfl hk ?_ ?_
  · show _ = Sum.inl (dA 2, n, _)
    rw [if_pos rfl]
    congr 5
    funext i
    by_cases hi : i = j
    · subst hi; simp [vp_updL, ip_up]
    · simp [vp_updL, ip_up, hi]
  · intro a y ha
    simp only [ip_cell, ip_up_row J k j x ha]
/-- locals -/
def ip_lo (mi : Nat) (ρ : Nat → Nat) (ls : Array Slot) (nL : Nat) (L : ip_Lo) : Prop := ls.size = nL ∧ lv_wf ls ∧ L.length = nL ∧ (∀ (i : Nat) (v : Value), L[i]? = some (some v) → ls[i]? = some (.val (ip_v ρ v))) ∧ ∀ (i : Nat) (v : Value), L[i]? = some (some v) → v.category = 2 → i ∈ ip_lng mi
def ip_as (ρ : Nat → Nat) (L : ip_Lo) : List (Nat × Value) := (List.range L.length).filterMap (fun i => match L[i]? with
  | some (some v) => some (i, ip_v ρ v)
  | _ => none)
theorem ip_as_mem {ρ : Nat → Nat} {L : ip_Lo} {i : Nat} {v : Value} (h : L[i]? = some (some v)) : (i, ip_v ρ v) ∈ ip_as ρ L := by
  refine List.mem_filterMap.mpr ⟨i, List.mem_range.mpr (List.getElem?_eq_some_iff.mp h).1, ?_⟩
  simp [h]
theorem ip_lo_has {mi : Nat} {ρ : Nat → Nat} {ls : Array Slot} {nL : Nat} {L : ip_Lo} (h : ip_lo mi ρ ls nL L) : lv_has ls nL (ip_as ρ L) := by
  obtain ⟨h1, h2, h3, h4, h5⟩ := h
  refine ⟨h1, h2, fun q hq => ?_⟩
  obtain ⟨i, -, hi⟩ := List.mem_filterMap.mp hq
  cases hL : L[i]? with
  | none => simp [hL] at hi
  | some o =>
    cases o with
    | none => simp [hL] at hi
    | some v =>
      simp [hL] at hi
      subst hi
      exact h4 i v hL
theorem ip_stI_len (mi : Nat) (L : ip_Lo) (i : Nat) (v : Option Value) : (ip_stI mi L i v).length = L.length := by
  unfold ip_stI
  split <;> simp
theorem ip_stI_get {mi : Nat} {L : ip_Lo} {i j : Nat} {v : Option Value} {w : Value} (h : (ip_stI mi L i v)[j]? = some (some w)) : (j = i ∧ v = some w) ∨ (j ≠ i ∧ L[j]? = some (some w) ∧ ¬ (j + 1 = i ∧ j ∈ ip_lng mi)) := by
  by_cases hj : j = i
  · left
    subst hj
    refine ⟨rfl, ?_⟩
    unfold ip_stI at h
    have hl : j < L.length := by
      have := (List.getElem?_eq_some_iff.mp h).1
      split at this <;> simpa using this
    split at h
    · rw [List.getElem?_set_self (by simpa using hl)] at h; exact Option.some.inj h
    · rw [List.getElem?_set_self hl] at h; exact Option.some.inj h
  · right
    unfold ip_stI at h
    split at h
    · rename_i hc
      rw [List.getElem?_set_ne (Ne.symm hj)] at h
      by_cases hk : j = i - 1
      · subst hk
        have hl : i - 1 < L.length := by
          have := (List.getElem?_eq_some_iff.mp h).1
          simpa using this
        rw [List.getElem?_set_self hl] at h
        cases h
      · rw [List.getElem?_set_ne (Ne.symm hk)] at h
        exact ⟨hj, h, fun hc2 => hk (by omega)⟩
    · rename_i hc
      rw [List.getElem?_set_ne (Ne.symm hj)] at h
      refine ⟨hj, h, fun hc2 => hc ⟨by omega, ?_⟩⟩
      rw [← hc2.1]; exact hc2.2
theorem ip_lo_st {mi : Nat} {ρ : Nat → Nat} {ls ls' : Array Slot} {nL : Nat} {L : ip_Lo} {i : Nat} {v : Value} (h : ip_lo mi ρ ls nL L) (hc : v.category = 1)
    (h' : lv_has ls' nL ((i, ip_v ρ v) :: (ip_as ρ L).filter (fun q => !(q.1 == i) && !(q.1 + 1 == i && q.2.category == 2)))) : ip_lo mi ρ ls' nL (ip_stI mi L i (some v)) := by
  obtain ⟨h1, h2, h3, h4, h5⟩ := h
  obtain ⟨g1, g2, g3⟩ := h'
  refine ⟨g1, g2, by rw [ip_stI_len]; exact h3, fun j w hw => ?_, fun j w hw hcw => ?_⟩
  · rcases ip_stI_get hw with ⟨rfl, e⟩ | ⟨hj, hL, hn⟩
    · cases e
      exact g3 (j, ip_v ρ v) List.mem_cons_self
    · refine g3 (j, ip_v ρ w) (List.mem_cons_of_mem _ (List.mem_filter.mpr ⟨ip_as_mem hL, ?_⟩))
      simp only [ip_v_cat, Bool.and_eq_true, Bool.not_eq_true', beq_eq_false_iff_ne, ne_eq, Bool.and_eq_false_iff, hj, not_false_eq_true, true_and]
      by_cases hji : j + 1 = i
      · right
        intro hcat
        exact hn ⟨hji, h5 j w hL hcat⟩
      · left; exact hji
  · rcases ip_stI_get hw with ⟨rfl, e⟩ | ⟨hj, hL, hn⟩
    · cases e
      omega
    · exact h5 j w hL hcw
