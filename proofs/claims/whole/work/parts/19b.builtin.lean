/-! new arrays, Object(), arraycopy -/
section IPBI
variable {p : Program} {l : Launch} {e : Env} {R : Room} {s : State} {m : MethodId} {args : Array Value} {below : List Frame} {meth : Method} {c : Code} {H : Heap} {locs : List Loc} {cells slots : Nat} {Q : State → Prop}
variable {D : va_G} {dA : Nat → ClassId} {A : Nat → Prop} {ρ : Nat → Nat} {mi pc : Nat} {L : ip_Lo} {S : List Value} {h : ip_H} {ls : Array Slot}
/-- what the tags of arrays mean -/
def ip_tty (u : Nat) : FieldType := match u with
  | 0 => .int
  | 1 => .byte
  | 2 => .long
  | _ => .boolean
def ip_za (u n : Nat) : vp_A := (n, if u = 2 then .inr (.inl (fun _ => 0)) else .inl (fun _ => 0))
theorem ip_tag_spec {t : ArrayType} {u : Nat} (h : ip_tag t = some u) : newarray.typeOf t = ip_tty u ∧ u < 4 ∧ Cond.arrayClass (newarray.typeOf t) ∈ ip_gw := by
  obtain ⟨a0, a1, a2, a3⟩ := ip_arOK
  cases t <;> first | (cases h; done) | (cases h; exact ⟨rfl, by decide, by assumption⟩)
theorem ip_za_cell (u n : Nat) (hu : u < 4) (cA : ClassId) : vp_cell cA (ip_za u n) = arrV cA n (fun _ => defaultValue (ip_tty u)) := by
  match u, hu with
  | 0, _ => rfl
  | 1, _ => rfl
  | 2, _ => rfl
  | 3, _ => rfl
theorem ip_newA (hC : ip_Cx D dA mi p s m args meth c) (hA : ∀ q, s.heap.size ≤ q → A q) {t : ArrayType} {u : Nat} {n : Int32} (hd : decode (ip_bytes mi) pc = .ok (.newarray t, 2)) (ht : ip_tag t = some u) (hfr : ip_fr D dA A s mi ρ ls L h H locs) (hwf : ip_wfc h.1.length L S = true)
    (hb1 : cells + 1 ≤ R.cells) (hb2 : slots + n.toNatClampNeg ≤ R.slots) (hn : h.1.length < ip_SC) (hn0 : ¬ n < 0) (hbig : n.toNatClampNeg ≤ 60000000)
    (kk : ∀ (q : Nat) (H' : Heap), ip_fr D dA A s mi (ip_ext ρ h.1.length q) ls L (h.1 ++ [.inl (u, n.toNatClampNeg)], h.2.1, fun a j => if a = h.1.length then 0 else h.2.2.1 a j, fun a j => if a = h.1.length then 0 else h.2.2.2 a j) H' locs →
      W p l e R s m args below meth c H' locs (cells + 1) (slots + n.toNatClampNeg) Q (F0 m (pc + 2) ls ((.ref h.1.length :: S).map (ip_v (ip_ext ρ h.1.length q))))) : W p l e R s m args below meth c H locs cells slots Q (F0 m pc ls (.int n :: S.map (ip_v ρ))) := by
  obtain ⟨hx, hb, hml, hown, hts, hK, hnm⟩ := hC
  obtain ⟨hl, hP, hD, hS, hw⟩ := hfr
  obtain ⟨e1, hu, hwd⟩ := ip_tag_spec ht
  obtain ⟨wL, wS⟩ := ip_wfc_w hwf
  have hbytes : n.toNatClampNeg * componentBytes (ip_tty u) ≤ 536870912 := by
    have hcb : componentBytes (ip_tty u) ≤ 8 := by
      match u, hu with
      | 0, _ => decide
      | 1, _ => decide
      | 2, _ => decide
      | 3, _ => decide
    calc n.toNatClampNeg * componentBytes (ip_tty u) ≤ 60000000 * 8 := Nat.mul_le_mul hbig hcb
      _ ≤ 536870912 := by decide
  refine va_newa (a0 := ip_za u n.toNatClampNeg) hx hb (hts _ hwd) e1 hK hP hD hS hA (ip_za_cell u _ hu) hn0 rfl hbytes hb1 hb2 hd (fun q cA H' hK' hP' hD' hS' => ?_)
  have hcA : cA = dA u := by
    have h1 := (hK'.2 4 (cA, ip_tty u) rfl).2
    have h2 : va_RA s (dA u) (ip_tty u) := by
      match u, hu with
      | 0, _ => exact (hK.2 0 _ rfl).2
      | 1, _ => exact (hK.2 1 _ rfl).2
      | 2, _ => exact (hK.2 2 _ rfl).2
      | 3, _ => exact (hK.2 3 _ rfl).2
    match u, hu, h1, h2 with
    | 0, _, h1, h2 => exact Option.some.inj (h1.symm.trans h2)
    | 1, _, h1, h2 => exact Option.some.inj (h1.symm.trans h2)
    | 2, _, h1, h2 => exact Option.some.inj (h1.symm.trans h2)
    | 3, _, h1, h2 => exact Option.some.inj (h1.symm.trans h2)
  subst hcA
  have hag := ip_ext_ag (ρ := ρ) (q := q) hn
  have ew := ip_w_app (dA := dA) (ρ := ρ) (q := q) (x := .inl (u, n.toNatClampNeg)) (h := h) (h' := (h.1 ++ [.inl (u, n.toNatClampNeg)], h.2.1, fun a j => if a = h.1.length then 0 else h.2.2.1 a j, fun a j => if a = h.1.length then 0 else h.2.2.2 a j)) hw hn rfl (fun a ha => ⟨rfl, by
    funext j
    show (if a = h.1.length then 0 else h.2.2.1 a j) = h.2.2.1 a j
    rw [if_neg (by omega)], by
    funext j
    show (if a = h.1.length then 0 else h.2.2.2 a j) = h.2.2.2 a j
    rw [if_neg (by omega)]⟩)
  have ec : ip_cell dA (ip_ext ρ h.1.length q) (h.1 ++ [.inl (u, n.toNatClampNeg)], h.2.1, fun a j => if a = h.1.length then 0 else h.2.2.1 a j, fun a j => if a = h.1.length then 0 else h.2.2.2 a j) h.1.length (.inl (u, n.toNatClampNeg)) = .inl (dA u, ip_za u n.toNatClampNeg) := by
    show (Sum.inl (dA u, n.toNatClampNeg, _) : va_E) = Sum.inl (dA u, n.toNatClampNeg, _)
    simp
  rw [ec] at ew
  have hst : (.ref h.1.length :: S).map (ip_v (ip_ext ρ h.1.length q)) = .ref q :: S.map (ip_v ρ) := by
    rw [List.map_cons, ip_S_ext wS hag]
    show Value.ref (ip_ext ρ h.1.length q h.1.length) :: _ = _
    simp [ip_ext]
  have k2 := kk q H' ⟨ip_lo_ext hl wL hag, by rw [ew]; exact hP', by rw [ew]; exact hD', hS', ?_⟩
  · rw [hst] at k2
    exact k2
  · refine ⟨by simp; omega, fun a x ha => ?_⟩
    simp only [List.length_append, List.length_singleton] at ha ⊢
    by_cases hlt : a < h.1.length
    · rw [List.getElem?_append_left hlt] at ha
      obtain ⟨g1, g2⟩ := hw.2 a x ha
      refine ⟨fun ci' nf' ex => ?_, g2⟩
      obtain ⟨g3, g4⟩ := g1 ci' nf' ex
      exact ⟨g3, fun j hj => ip_wV_le (g4 j hj) (by omega)⟩
    · rw [List.getElem?_append_right (by omega)] at ha
      have hz : a - h.1.length < 1 := (List.getElem?_eq_some_iff.mp ha).1
      have ha0 : a = h.1.length := by omega
      subst ha0
      rw [Nat.sub_self] at ha
      cases ha
      refine ⟨fun ci' nf' ex => (by cases ex), fun t' n' ex => ?_⟩
      cases ex
      exact hu
theorem ip_objI (hC : ip_Cx D dA mi p s m args meth c) (hR : ip_fm mi ≤ R.frames ∧ ip_lm mi ≤ R.locals) {ix : Nat} (hd : decode (ip_bytes mi) pc = .ok (.invokespecial ix, 3)) (hbi : ip_bi mi ix = 1) (hfr : ip_fr D dA A s mi ρ ls L h H locs) (hroom : 1 ≤ ip_fm mi ∧ 20 ≤ ip_lm mi) {k : Nat} (hcat : (S.map fun v => v.category).sum ≤ 8)
    (kk : W p l e R s m args below meth c H locs cells slots Q (F0 m (pc + 3) ls (S.map (ip_v ρ)))) : W p l e R s m args below meth c H locs cells slots Q (F0 m pc ls (.ref (ρ k) :: S.map (ip_v ρ))) := by
  obtain ⟨hx, hb, hml, hown, hts, hK, hnm⟩ := hC
  have hlk := ip_biOK hbi (by decide)
  refine W.objInit hx hb hown (hts _ hlk) (hts _ ip_objOK.1) (hts _ ip_objOK.2) rfl (by rw [hml]; exact hfr.1.1) rfl hd (Nat.le_trans hroom.1 hR.1) ?_ kk
  rw [ip_v_cats]
  show 2 * 0 + _ + 12 ≤ R.locals
  omega
theorem ip_copyS (hC : ip_Cx D dA mi p s m args meth c) (hR : ip_fm mi ≤ R.frames ∧ ip_lm mi ≤ R.locals) {ix : Nat} (hd : decode (ip_bytes mi) pc = .ok (.invokestatic ix, 3)) (hbi : ip_bi mi ix = 2) (hfr : ip_fr D dA A s mi ρ ls L h H locs) (hroom : 1 ≤ ip_fm mi ∧ 40 ≤ ip_lm mi) {k0 k1 : Nat} {sp dp n : Int32} (hok : ip_cpok h.1 h.2.2.1 k0 sp k1 dp n) (hcat : (S.map fun v => v.category).sum ≤ 8)
    (kk : ∀ (H' : Heap) (locs' : List Loc), ip_fr D dA A s mi ρ ls L (h.1, h.2.1, ip_cpI h.2.2.1 k0 sp k1 dp n, h.2.2.2) H' locs' → W p l e R s m args below meth c H' locs' cells slots Q (F0 m (pc + 3) ls (S.map (ip_v ρ)))) : W p l e R s m args below meth c H locs cells slots Q (F0 m pc ls (.int n :: .int dp :: .ref (ρ k1) :: .int sp :: .ref (ρ k0) :: S.map (ip_v ρ))) := by
  obtain ⟨hx, hb, hml, hown, hts, hK, hnm⟩ := hC
  obtain ⟨hl, hP, hD, hS, hw⟩ := hfr
  obtain ⟨⟨h1, h2, h3⟩, h4, h5⟩ := hok
  have hlk := ip_biOK hbi (by decide)
  obtain ⟨G, F, I, J⟩ := h
  obtain ⟨n0, n1, g0, g1, g2, g3⟩ : ∃ n0 n1, G[k0]? = some (.inl (1, n0)) ∧ G[k1]? = some (.inl (1, n1)) ∧ sp.toNatClampNeg + n.toNatClampNeg ≤ n0 ∧ dp.toNatClampNeg + n.toNatClampNeg ≤ n1 := by
    dsimp only at h4
    split at h4
    · rename_i n0 n1 e0 e1
      exact ⟨n0, n1, e0, e1, h4.1, h4.2⟩
    · exact h4.elim
  have w0 : (ip_w dA ρ (G, F, I, J))[k0]? = some (ρ k0, .inl (dA 1, n0, .inl (I k0))) := ip_w_get (h := (G, F, I, J)) g0
  have w1 : (ip_w dA ρ (G, F, I, J))[k1]? = some (ρ k1, .inl (dA 1, n1, .inl (I k1))) := ip_w_get (h := (G, F, I, J)) g1
  refine va_copyi (f := I k0) (g := I k1) (ty := .byte) hx hb (by rw [hml]; exact hl.1.symm) hown (hts _ hlk) (hts _ ip_acOK.1) (hts _ ip_acOK.2.1) (hts _ ip_acOK.2.2) hK hP hD hS k0 k1 1 1 w0 w1 rfl rfl rfl h1 h2 h3 g2 g3 h5 (Nat.le_trans hroom.1 hR.1) ?_ hd (fun H' locs' hP' hD' hS' => ?_)
  · rw [ip_v_cats]
    have : nativeFrameWords "java/lang/System" "arraycopy" 5 + 11 ≤ 32 := by decide +kernel
    omega
  · have ew : (ip_w dA ρ (G, F, I, J)).set k1 (ρ k1, .inl (dA 1, n1, .inl (va_cpy (I k0) (I k1) sp.toNatClampNeg dp.toNatClampNeg n.toNatClampNeg))) = ip_w dA ρ (G, F, ip_cpI I k0 sp k1 dp n, J) := by
      refine ip_w_set (h := (G, F, I, J)) rfl g1 ?_ ?_
      · show _ = Sum.inl (dA 1, n1, _)
        rw [if_neg (by decide)]
        congr 4
        funext j
        show _ = ip_cpI I k0 sp k1 dp n k1 j
        simp [ip_cpI]
      · intro a y ha
        have e2 : ip_cpI I k0 sp k1 dp n a = I a := by
          funext j
          simp [ip_cpI, ha]
        simp only [ip_cell, e2]
    rw [ew] at hP' hD'
    exact kk H' locs' ⟨hl, hP', hD', hS', hw⟩
end IPBI
