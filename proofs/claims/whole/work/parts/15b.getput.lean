/-! fields and constants -/
section IPG
variable {p : Program} {l : Launch} {e : Env} {R : Room} {s : State} {m : MethodId} {args : Array Value} {below : List Frame} {meth : Method} {c : Code} {H : Heap} {locs : List Loc} {cells slots : Nat} {Q : State → Prop}
variable {D : va_G} {dA : Nat → ClassId} {A : Nat → Prop} {ρ : Nat → Nat} {mi pc len : Nat} {L L' : ip_Lo} {S S' : List Value} {h h' : ip_H} {b b' : ip_B} {pc' : Nat} {ls : Array Slot} {rest : List Value}
theorem ip_getf (hC : ip_Cx D dA mi p s m args meth c) {ix : Nat} (hd : decode (ip_bytes mi) pc = .ok (.getfield ix, 3)) (hfr : ip_fr D dA A s mi ρ ls L h H locs) {ci j k : Nat} (hf : ip_fld mi ix = some (ci, j)) (hi : ip_isO h.1 k ci = true)
    (kk : W p l e R s m args below meth c H locs cells slots Q (F0 m (pc + 3) ls (ip_v ρ (h.2.1 k j) :: rest))) : W p l e R s m args below meth c H locs cells slots Q (F0 m pc ls (.ref (ρ k) :: rest)) := by
  obtain ⟨hx, hb, hml, hown, hts, hK, hnm⟩ := hC
  obtain ⟨hl, hP, hD, hS, hw⟩ := hfr
  obtain ⟨⟨C, U, N⟩, hr, hj, hlk⟩ := ip_fldOK hf
  obtain ⟨nf, hk⟩ := ip_isO_spec hi
  obtain ⟨c1, c2, c3, c4, -⟩ := ip_clsOK hr
  have hnf : nf = N := (((hw.2 k _ hk).1 ci nf rfl).1).trans c4.symm
  dsimp only at hj hlk c1 c2 c3
  refine va_get (D := D) (ci := ci) (C := C) (T := U) (N := N) (ref := (U j).1) hx hb hts c1 hown hK hP k (ip_w_get hk) hr j hj (hts _ hlk) (fun _ h9 => h9) (v := ip_v ρ (h.2.1 k j)) ?_ hd kk
  rw [hnf]
  simp [hj]
theorem ip_fit_spec {n ci j : Nat} {v : Value} (h : ip_fit n ci j v = true) : narrow (ip_fty ci j) (ip_v ρ v) = ip_v ρ v ∧ fits (ip_fty ci j) (ip_v ρ v) = true ∧ ip_wV n v := by
  unfold ip_fit at h
  split at h
  · rename_i x h1
    rw [h1]; exact ⟨rfl, rfl, ip_wV_int⟩
  · rename_i x h1
    rw [h1]; exact ⟨rfl, rfl, ip_wV_long⟩
  · rename_i x k h1
    rw [h1]; exact ⟨rfl, rfl, fun a ha => by cases ha; exact Or.inl (of_decide_eq_true h)⟩
  · rename_i x k h1
    rw [h1]; exact ⟨rfl, rfl, fun a ha => by cases ha; exact Or.inl (of_decide_eq_true h)⟩
  · cases h
theorem ip_wH_put {G : List ip_K} {F : Nat → Nat → Value} {I : Nat → Nat → Int32} {J : Nat → Nat → Int64} {k j : Nat} {v : Value} (hw : ip_wH (G, F, I, J)) (hv : ip_wV G.length v) : ip_wH (G, ip_up F k j v, I, J) := by
  refine ⟨hw.1, fun a x ha => ⟨fun ci nf e => ?_, (hw.2 a x ha).2⟩⟩
  obtain ⟨h1, h2⟩ := (hw.2 a x ha).1 ci nf e
  refine ⟨h1, fun i hi => ?_⟩
  show ip_wV G.length (ip_up F k j v a i)
  unfold ip_up
  split
  · exact hv
  · exact h2 i hi
theorem ip_putf (hC : ip_Cx D dA mi p s m args meth c) {ix : Nat} (hft : ip_fetch mi pc = some (.putfield ix, 3)) (hd : decode (ip_bytes mi) pc = .ok (.putfield ix, 3)) (hfr : ip_fr D dA A s mi ρ ls L h H locs) {ci j k : Nat} {v : Value} (hf : ip_fld mi ix = some (ci, j)) (hi : (ip_isO h.1 k ci && ip_fit h.1.length ci j v) = true)
    (kk : ∀ (H' : Heap) (locs' : List Loc), ip_fr D dA A s mi ρ ls L (h.1, ip_up h.2.1 k j v, h.2.2) H' locs' → W p l e R s m args below meth c H' locs' cells slots Q (F0 m (pc + 3) ls rest)) : W p l e R s m args below meth c H locs cells slots Q (F0 m pc ls (ip_v ρ v :: .ref (ρ k) :: rest)) := by
  obtain ⟨hx, hb, hml, hown, hts, hK, hnm⟩ := hC
  obtain ⟨hl, hP, hD, hS, hw⟩ := hfr
  rw [Bool.and_eq_true] at hi
  obtain ⟨hi, hfit⟩ := hi
  obtain ⟨⟨C, U, N⟩, hr, hj, hlk⟩ := ip_fldOK hf
  obtain ⟨nf, hk⟩ := ip_isO_spec hi
  obtain ⟨c1, c2, c3, c4, -⟩ := ip_clsOK hr
  have hnf : nf = N := (((hw.2 k _ hk).1 ci nf rfl).1).trans c4.symm
  dsimp only at hj hlk c1 c2 c3
  obtain ⟨f1, f2, f3⟩ := ip_fit_spec (ρ := ρ) hfit
  have hchk := ip_all ip_putOK hft
  unfold ip_pchk at hchk
  dsimp only at hchk
  rw [hf] at hchk
  dsimp only at hchk
  rw [hr] at hchk
  dsimp only at hchk
  obtain ⟨G, F, I, J⟩ := h
  have ew := ip_w_putF (dA := dA) (ρ := ρ) (F := F) (I := I) (J := J) (j := j) (v := v) hk
  have kk2 : ∀ (H1 : Heap) (locs1 : List Loc), va_P D ip_cls ((ip_w dA ρ (G, F, I, J)).set k (ρ k, .inr (ci, ((List.range nf).map (fun j => ip_v ρ (F k j))).set j (ip_v ρ v)))) H1 → va_D A ((ip_w dA ρ (G, F, I, J)).set k (ρ k, .inr (ci, ((List.range nf).map (fun j => ip_v ρ (F k j))).set j (ip_v ρ v)))) → va_S A s.heap H1 locs1 → W p l e R s m args below meth c H1 locs1 cells slots Q (F0 m (pc + 3) ls rest) := by
    intro H1 locs1 hP1 hD1 hS1
    rw [ew] at hP1 hD1
    exact kk H1 locs1 ⟨hl, hP1, hD1, hS1, ip_wH_put hw f3⟩
  have hlen : j < ((List.range nf).map (fun j => ip_v ρ (F k j))).length := by rw [List.length_map, List.length_range, hnf]; exact hj
  by_cases hfin : (U j).2.2.2 = true
  · rw [hfin] at hchk
    simp only [Bool.not_true, Bool.false_or, Bool.and_eq_true, decide_eq_true_eq] at hchk
    exact va_putF (D := D) (ci := ci) (C := C) (T := U) (N := N) (ref := (U j).1) hx hb hts c1 (ip_fty ci) c2 c3 hown hK hP hD hS k (ip_w_get hk) hr j hj (hts _ hlk) (fun _ h9 => h9) hfin (hnm.1.trans hchk.1) hchk.2 (c2 j hj) f1 f2 hlen hd kk2
  · exact va_put (D := D) (ci := ci) (C := C) (T := U) (N := N) (ref := (U j).1) hx hb hts c1 (ip_fty ci) c2 c3 hown hK hP hD hS k (ip_w_get hk) hr j hj (hts _ hlk) (fun _ h9 => h9) (by simpa using hfin) (c2 j hj) f1 f2 hlen hd kk2
end IPG
