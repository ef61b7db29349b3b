/-! new objects and arrays -/
def ip_ext (ρ : Nat → Nat) (n q : Nat) : Nat → Nat := fun k => if k = n then q else ρ k
theorem ip_ext_ag {ρ : Nat → Nat} {n q : Nat} (hn : n < ip_SC) : ip_ag n ρ (ip_ext ρ n q) := by
  intro k hk
  unfold ip_ext
  rw [if_neg]
  intro e
  rcases hk with h | h <;> omega
theorem ip_w_app {dA : Nat → ClassId} {ρ : Nat → Nat} {h h' : ip_H} {x : ip_K} {q : Nat} (hw : ip_wH h) (hn : h.1.length < ip_SC) (hG : h'.1 = h.1 ++ [x]) (hF : ∀ a, a < h.1.length → h'.2.1 a = h.2.1 a ∧ h'.2.2.1 a = h.2.2.1 a ∧ h'.2.2.2 a = h.2.2.2 a) :
    ip_w dA (ip_ext ρ h.1.length q) h' = ip_w dA ρ h ++ [(q, ip_cell dA (ip_ext ρ h.1.length q) h' h.1.length x)] := by
  have hag := ip_ext_ag (ρ := ρ) (q := q) hn
  rw [← ip_w_ext (ρ' := ip_ext ρ h.1.length q) hw hag]
  unfold ip_w
  rw [hG, List.mapIdx_append]
  congr 1
  · apply List.ext_getElem?
    intro k
    simp only [List.getElem?_mapIdx]
    cases hk : h.1[k]? with
    | none => rfl
    | some y =>
      obtain ⟨e1, e2, e3⟩ := hF k (List.getElem?_eq_some_iff.mp hk).1
      simp only [Option.map_some]
      congr 2
      cases y with
      | inl z => simp only [ip_cell, e2, e3]
      | inr z => simp only [ip_cell, e1]
  · simp [ip_ext]
theorem ip_dfl_eq (t : FieldType) : defaultValue t = ip_dfl t := by cases t <;> rfl
theorem ip_dfl_v (ρ : Nat → Nat) (t : FieldType) : ip_v ρ (ip_dfl t) = ip_dfl t := by cases t <;> rfl
theorem ip_dfl_w (n : Nat) (t : FieldType) : ip_wV n (ip_dfl t) := by
  intro k hk
  cases t <;> cases hk
theorem ip_okr_w {n : Nat} {v : Value} (h : ip_okr n v = true) : ip_wV n v := by
  intro k hk
  subst hk
  unfold ip_okr at h
  simp only [Bool.or_eq_true, decide_eq_true_eq] at h
  exact h
theorem ip_wfc_w {n : Nat} {L : ip_Lo} {S : List Value} (h : ip_wfc n L S = true) : ip_wL n L ∧ ip_wS n S := by
  unfold ip_wfc at h
  rw [Bool.and_eq_true] at h
  refine ⟨fun i v hv => ?_, fun v hv => ip_okr_w (List.all_eq_true.mp h.2 v hv)⟩
  exact ip_okr_w (List.all_eq_true.mp h.1 (some v) (List.mem_of_getElem? hv))
section IPAL
variable {p : Program} {l : Launch} {e : Env} {R : Room} {s : State} {m : MethodId} {args : Array Value} {below : List Frame} {meth : Method} {c : Code} {H : Heap} {locs : List Loc} {cells slots : Nat} {Q : State → Prop}
variable {D : va_G} {dA : Nat → ClassId} {A : Nat → Prop} {ρ : Nat → Nat} {mi pc : Nat} {L : ip_Lo} {S : List Value} {h : ip_H} {ls : Array Slot}
theorem ip_newO (hC : ip_Cx D dA mi p s m args meth c) (hA : ∀ q, s.heap.size ≤ q → A q) {ix ci : Nat} (hd : decode (ip_bytes mi) pc = .ok (.new ix, 3)) (hlk : ∃ C U N, ip_cls[ci]? = some (C, U, N) ∧ Cond.classLink (ip_own mi) ix C ∈ ip_gw) (hfr : ip_fr D dA A s mi ρ ls L h H locs) (hwf : ip_wfc h.1.length L S = true)
    (hb1 : cells + 1 ≤ R.cells) (hb2 : slots + ip_nf ci ≤ R.slots) (hn : h.1.length < ip_SC)
    (kk : ∀ (q : Nat) (H' : Heap), ip_fr D dA A s mi (ip_ext ρ h.1.length q) ls L (h.1 ++ [.inr (ci, ip_nf ci)], fun a j => if a = h.1.length then ip_dfl (ip_fty ci j) else h.2.1 a j, h.2.2) H' locs →
      W p l e R s m args below meth c H' locs (cells + 1) (slots + ip_nf ci) Q (F0 m (pc + 3) ls ((.ref h.1.length :: S).map (ip_v (ip_ext ρ h.1.length q))))) : W p l e R s m args below meth c H locs cells slots Q (F0 m pc ls (S.map (ip_v ρ))) := by
  obtain ⟨hx, hb, hml, hown, hts, hK, hnm⟩ := hC
  obtain ⟨hl, hP, hD, hS, hw⟩ := hfr
  obtain ⟨C, U, N, hc, hcl⟩ := hlk
  obtain ⟨c1, c2, c3, c4, c5, c6⟩ := ip_clsOK hc
  dsimp only at c1 c2 c3 c4 c5 c6
  obtain ⟨wL, wS⟩ := ip_wfc_w hwf
  subst c4
  refine va_new (D := D) (ci := ci) (C := C) (T := U) (N := ip_nf ci) (fs := (List.range (ip_nf ci)).map (fun j => ip_dfl (ip_fty ci j))) hx hb hts c1 (ip_fty ci) c2 hown (hts _ hcl) (hts _ c5) (hts _ c6) hK hP hD hS hA hc (fun j hj => ?_) hb1 hb2 hd (fun q H' hP' hD' hS' => ?_)
  · rw [ip_dfl_eq]
    simp [vp_V, hj]
  · have hag := ip_ext_ag (ρ := ρ) (q := q) hn
    have ew := ip_w_app (dA := dA) (ρ := ρ) (q := q) (x := .inr (ci, ip_nf ci)) (h := h) (h' := (h.1 ++ [.inr (ci, ip_nf ci)], fun a j => if a = h.1.length then ip_dfl (ip_fty ci j) else h.2.1 a j, h.2.2)) hw hn rfl (fun a ha => ⟨by
      funext j
      show (if a = h.1.length then ip_dfl (ip_fty ci j) else h.2.1 a j) = h.2.1 a j
      rw [if_neg (by omega)], rfl, rfl⟩)
    have ec : ip_cell dA (ip_ext ρ h.1.length q) (h.1 ++ [.inr (ci, ip_nf ci)], fun a j => if a = h.1.length then ip_dfl (ip_fty ci j) else h.2.1 a j, h.2.2) h.1.length (.inr (ci, ip_nf ci)) = .inr (ci, (List.range (ip_nf ci)).map (fun j => ip_dfl (ip_fty ci j))) := by
      show (Sum.inr (ci, _) : va_E) = Sum.inr (ci, _)
      congr 2
      refine List.map_congr_left fun j _ => ?_
      show ip_v _ (if h.1.length = h.1.length then ip_dfl (ip_fty ci j) else h.2.1 h.1.length j) = _
      rw [if_pos rfl, ip_dfl_v]
    rw [ec] at ew
    have hst : (.ref h.1.length :: S).map (ip_v (ip_ext ρ h.1.length q)) = .ref q :: S.map (ip_v ρ) := by
      rw [List.map_cons, ip_S_ext wS hag]
      show Value.ref (ip_ext ρ h.1.length q h.1.length) :: _ = _
      simp [ip_ext]
    have k2 := kk q H' ⟨ip_lo_ext hl wL hag, by rw [ew]; exact hP', by rw [ew]; exact hD', hS', ?_⟩
    · rw [hst] at k2
      exact k2
    · refine ⟨by simp; omega, fun a x ha => ?_⟩
      simp only [List.length_append, List.length_singleton] at ha ⊢
      by_cases hlt : a < h.1.length
      · rw [List.getElem?_append_left hlt] at ha
        obtain ⟨g1, g2⟩ := hw.2 a x ha
        refine ⟨fun ci' nf' ex => ?_, g2⟩
        obtain ⟨g3, g4⟩ := g1 ci' nf' ex
        refine ⟨g3, fun j hj => ?_⟩
        show ip_wV _ (if a = h.1.length then ip_dfl (ip_fty ci j) else h.2.1 a j)
        rw [if_neg (by omega)]
        exact ip_wV_le (g4 j hj) (by omega)
      · rw [List.getElem?_append_right (by omega)] at ha
        have hz : a - h.1.length < 1 := (List.getElem?_eq_some_iff.mp ha).1
        have ha0 : a = h.1.length := by omega
        subst ha0
        rw [Nat.sub_self] at ha
        cases ha
        refine ⟨fun ci' nf' ex => ?_, fun t n' ex => by cases ex⟩
        cases ex
        refine ⟨rfl, fun j hj => ?_⟩
        show ip_wV _ (if h.1.length = h.1.length then ip_dfl (ip_fty ci j) else h.2.1 h.1.length j)
        rw [if_pos rfl]
        exact ip_dfl_w _ _
end IPAL
