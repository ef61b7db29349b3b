/-! the instructions that look at cells -/
section IPH
variable {p : Program} {l : Launch} {e : Env} {R : Room} {s : State} {m : MethodId} {args : Array Value} {below : List Frame} {meth : Method} {c : Code} {H : Heap} {locs : List Loc} {cells slots : Nat} {Q : State → Prop}
variable {D : va_G} {dA : Nat → ClassId} {A : Nat → Prop} {ρ : Nat → Nat} {mi pc len : Nat} {L L' : ip_Lo} {S S' : List Value} {h h' : ip_H} {b b' : ip_B} {pc' : Nat} {ls : Array Slot} {rest : List Value}
def ip_tys (dA : Nat → ClassId) : List (ClassId × FieldType) := [(dA 0, .int), (dA 1, .byte), (dA 2, .long), (dA 3, .boolean)]
/-- what stands of a frame for good: machine, code, tables -/
def ip_xtl : List (Nat × List (Nat × Nat × Nat × Nat)) := [(197, [(0, 14, 17, 13)]), (198, [(0, 9, 12, 19), (0, 9, 15, 13)]), (199, [(0, 8, 11, 19)]), (200, [(0, 9, 12, 28)]), (201, [(0, 10, 13, 28)]), (202, [(0, 9, 12, 28)]), (203, [(0, 10, 13, 28)]), (204, [(0, 10, 13, 28)]), (205, [(0, 17, 20, 28)]), (206, [(0, 10, 13, 28)]), (207, [(0, 10, 13, 28)]), (208, [(0, 9, 12, 28)])]
def ip_xts (mi : Nat) : List (Nat × Nat × Nat × Nat) := (ip_lkN ip_xtl mi).getD []
/-- the handlers of the code -/
def ip_xt (mi : Nat) (c : Code) : Prop := c.exceptionTable.toList.map (fun x => (x.startPc, x.endPc, x.handlerPc, x.catchType)) = ip_xts mi
/-- what is given of a frame of method mi -/
def ip_Cx (D : va_G) (dA : Nat → ClassId) (mi : Nat) (p : Program) (s : State) (m : MethodId) (args : Array Value) (meth : Method) (c : Code) : Prop :=
  p.tables.exec = Jvm.exec ∧ c.code = ip_bytes mi ∧ c.maxLocals = ip_maxL mi ∧ s.vm.findClass (ip_own mi) = some m.cls ∧ (∀ w ∈ ip_gw, w.before args s = true) ∧ va_K D ip_cls (ip_tys dA) s ∧ meth.name = (ip_y mi).name ∧ ip_xt mi c
/-- the frame's world: locals, cells, what may change -/
def ip_fr (D : va_G) (dA : Nat → ClassId) (A : Nat → Prop) (s : State) (mi : Nat) (ρ : Nat → Nat) (ls : Array Slot) (L : ip_Lo) (h : ip_H) (H : Heap) (locs : List Loc) : Prop :=
  ip_lo mi ρ ls (ip_maxL mi) L ∧ va_P D ip_cls (ip_w dA ρ h) H ∧ va_D A (ip_w dA ρ h) ∧ va_S A s.heap H locs ∧ ip_wH h
theorem ip_to_eq {off : Int} {t : Nat} (h : ip_to pc off = some t) : (pc : Int) + off = (t : Int) := by
  unfold ip_to at h
  split at h
  · rename_i u hu
    cases h
    exact hu
  · cases h
theorem ip_inA_spec {G : List ip_K} {k t : Nat} {i : Int32} (h : ip_inA G k t i = true) : ∃ n, G[k]? = some (.inl (t, n)) ∧ vp_in i n := by
  unfold ip_inA at h
  split at h
  · rename_i u n hu
    simp only [Bool.and_eq_true, beq_iff_eq, decide_eq_true_eq] at h
    obtain ⟨rfl, h2⟩ := h
    exact ⟨n, hu, h2⟩
  · cases h
theorem ip_lenA_spec {G : List ip_K} {k n : Nat} (h : ip_lenA G k = some n) : ∃ t, G[k]? = some (.inl (t, n)) := by
  unfold ip_lenA at h
  split at h
  · rename_i t n' hu
    cases h
    exact ⟨t, hu⟩
  · cases h
theorem ip_isO_spec {G : List ip_K} {k ci : Nat} (h : ip_isO G k ci = true) : ∃ nf, G[k]? = some (.inr (ci, nf)) := by
  unfold ip_isO at h
  split at h
  · rename_i c nf hu
    simp only [beq_iff_eq] at h
    subst h
    exact ⟨nf, hu⟩
  · cases h
theorem ip_alen (hC : ip_Cx D dA mi p s m args meth c) (hd : decode (ip_bytes mi) pc = .ok (.arraylength, 1)) (hfr : ip_fr D dA A s mi ρ ls L h H locs) {k n : Nat} (hn : ip_lenA h.1 k = some n)
    (kk : W p l e R s m args below meth c H locs cells slots Q (F0 m (pc + 1) ls (.int (Int32.ofNat n) :: rest))) : W p l e R s m args below meth c H locs cells slots Q (F0 m pc ls (.ref (ρ k) :: rest)) := by
  obtain ⟨hx, hb, hml, hown, hts, hK, hnm⟩ := hC
  obtain ⟨hl, hP, hD, hS, hw⟩ := hfr
  obtain ⟨t, hk⟩ := ip_lenA_spec hn
  have ht := (hw.2 k _ hk).2 t n rfl
  match t, ht, hk with
  | 0, _, hk => exact va_alen hx hb hK hP k 0 (x := (n, .inl (h.2.2.1 k))) (ip_w_get hk) (ty := .int) rfl rfl hd kk
  | 1, _, hk => exact va_alen hx hb hK hP k 1 (x := (n, .inl (h.2.2.1 k))) (ip_w_get hk) (ty := .byte) rfl rfl hd kk
  | 2, _, hk => exact va_alen hx hb hK hP k 2 (x := (n, .inr (.inl (h.2.2.2 k)))) (ip_w_get hk) (ty := .long) rfl rfl hd kk
  | 3, _, hk => exact va_alen hx hb hK hP k 3 (x := (n, .inl (h.2.2.1 k))) (ip_w_get hk) (ty := .boolean) rfl rfl hd kk
  | t + 4, ht, _ => omega
theorem ip_iald (hC : ip_Cx D dA mi p s m args meth c) (hd : decode (ip_bytes mi) pc = .ok (.iaload, 1)) (hfr : ip_fr D dA A s mi ρ ls L h H locs) {k : Nat} {i : Int32} (hi : ip_inA h.1 k 0 i = true)
    (kk : W p l e R s m args below meth c H locs cells slots Q (F0 m (pc + 1) ls (.int (h.2.2.1 k i.toNatClampNeg) :: rest))) : W p l e R s m args below meth c H locs cells slots Q (F0 m pc ls (.int i :: .ref (ρ k) :: rest)) := by
  obtain ⟨hx, hb, hml, hown, hts, hK, hnm⟩ := hC
  obtain ⟨hl, hP, hD, hS, hw⟩ := hfr
  obtain ⟨n, hk, hin⟩ := ip_inA_spec hi
  exact va_iald hx hb hK hP k 0 (ip_w_get hk) rfl hin hd kk
theorem ip_bald (hC : ip_Cx D dA mi p s m args meth c) (hd : decode (ip_bytes mi) pc = .ok (.baload, 1)) (hfr : ip_fr D dA A s mi ρ ls L h H locs) {k : Nat} {i : Int32} (hi : (ip_inA h.1 k 1 i || ip_inA h.1 k 3 i) = true)
    (kk : W p l e R s m args below meth c H locs cells slots Q (F0 m (pc + 1) ls (.int (h.2.2.1 k i.toNatClampNeg) :: rest))) : W p l e R s m args below meth c H locs cells slots Q (F0 m pc ls (.int i :: .ref (ρ k) :: rest)) := by
  obtain ⟨hx, hb, hml, hown, hts, hK, hnm⟩ := hC
  obtain ⟨hl, hP, hD, hS, hw⟩ := hfr
  rw [Bool.or_eq_true] at hi
  rcases hi with hi | hi
  · obtain ⟨n, hk, hin⟩ := ip_inA_spec hi
    exact va_bald hx hb hK hP k 1 (ip_w_get hk) rfl hin hd kk
  · obtain ⟨n, hk, hin⟩ := ip_inA_spec hi
    exact va_zald hx hb hK hP k 3 (ip_w_get hk) rfl hin hd kk
theorem ip_lald (hC : ip_Cx D dA mi p s m args meth c) (hd : decode (ip_bytes mi) pc = .ok (.laload, 1)) (hfr : ip_fr D dA A s mi ρ ls L h H locs) {k : Nat} {i : Int32} (hi : ip_inA h.1 k 2 i = true)
    (kk : W p l e R s m args below meth c H locs cells slots Q (F0 m (pc + 1) ls (.long (h.2.2.2 k i.toNatClampNeg) :: rest))) : W p l e R s m args below meth c H locs cells slots Q (F0 m pc ls (.int i :: .ref (ρ k) :: rest)) := by
  obtain ⟨hx, hb, hml, hown, hts, hK, hnm⟩ := hC
  obtain ⟨hl, hP, hD, hS, hw⟩ := hfr
  obtain ⟨n, hk, hin⟩ := ip_inA_spec hi
  exact va_lald hx hb hK hP k 2 (ip_w_get hk) rfl hin hd kk
theorem ip_wH_I {G : List ip_K} {F : Nat → Nat → Value} {I I' : Nat → Nat → Int32} {J J' : Nat → Nat → Int64} (hw : ip_wH (G, F, I, J)) : ip_wH (G, F, I', J') := hw
theorem ip_iast (hC : ip_Cx D dA mi p s m args meth c) (hd : decode (ip_bytes mi) pc = .ok (.iastore, 1)) (hfr : ip_fr D dA A s mi ρ ls L h H locs) {k : Nat} {i x : Int32} (hi : ip_inA h.1 k 0 i = true)
    (kk : ∀ (H' : Heap) (locs' : List Loc), ip_fr D dA A s mi ρ ls L (h.1, h.2.1, ip_up h.2.2.1 k i.toNatClampNeg x, h.2.2.2) H' locs' → W p l e R s m args below meth c H' locs' cells slots Q (F0 m (pc + 1) ls rest)) : W p l e R s m args below meth c H locs cells slots Q (F0 m pc ls (.int x :: .int i :: .ref (ρ k) :: rest)) := by
  obtain ⟨hx, hb, hml, hown, hts, hK, hnm⟩ := hC
  obtain ⟨hl, hP, hD, hS, hw⟩ := hfr
  obtain ⟨n, hk, hin⟩ := ip_inA_spec hi
  obtain ⟨G, F, I, J⟩ := h
  refine va_iast hx hb hK hP hD hS k 0 (f := I k) (ip_w_get hk) rfl hin hd (fun H' locs' hP' hD' hS' => ?_)
  have e := ip_w_putI (dA := dA) (ρ := ρ) (F := F) (I := I) (J := J) (j := i.toNatClampNeg) (x := x) (t := 0) (by decide) hk
  rw [e] at hP' hD'
  exact kk H' locs' ⟨hl, hP', hD', hS', hw⟩
theorem ip_bast (hC : ip_Cx D dA mi p s m args meth c) (hd : decode (ip_bytes mi) pc = .ok (.bastore, 1)) (hfr : ip_fr D dA A s mi ρ ls L h H locs) {k : Nat} {i x : Int32} (hi : ip_inA h.1 k 1 i = true)
    (kk : ∀ (H' : Heap) (locs' : List Loc), ip_fr D dA A s mi ρ ls L (h.1, h.2.1, ip_up h.2.2.1 k i.toNatClampNeg (vp_nar .byte x), h.2.2.2) H' locs' → W p l e R s m args below meth c H' locs' cells slots Q (F0 m (pc + 1) ls rest)) : W p l e R s m args below meth c H locs cells slots Q (F0 m pc ls (.int x :: .int i :: .ref (ρ k) :: rest)) := by
  obtain ⟨hx, hb, hml, hown, hts, hK, hnm⟩ := hC
  obtain ⟨hl, hP, hD, hS, hw⟩ := hfr
  obtain ⟨n, hk, hin⟩ := ip_inA_spec hi
  obtain ⟨G, F, I, J⟩ := h
  refine va_bast hx hb hK hP hD hS k 1 (f := I k) (ip_w_get hk) rfl hin hd (fun H' locs' hP' hD' hS' => ?_)
  have e := ip_w_putI (dA := dA) (ρ := ρ) (F := F) (I := I) (J := J) (j := i.toNatClampNeg) (x := vp_nar .byte x) (t := 1) (by decide) hk
  rw [e] at hP' hD'
  exact kk H' locs' ⟨hl, hP', hD', hS', hw⟩
theorem ip_zast (hC : ip_Cx D dA mi p s m args meth c) (hd : decode (ip_bytes mi) pc = .ok (.bastore, 1)) (hfr : ip_fr D dA A s mi ρ ls L h H locs) {k : Nat} {i x : Int32} (hi : ip_inA h.1 k 3 i = true)
    (kk : ∀ (H' : Heap) (locs' : List Loc), ip_fr D dA A s mi ρ ls L (h.1, h.2.1, ip_up h.2.2.1 k i.toNatClampNeg (vp_nar .boolean x), h.2.2.2) H' locs' → W p l e R s m args below meth c H' locs' cells slots Q (F0 m (pc + 1) ls rest)) : W p l e R s m args below meth c H locs cells slots Q (F0 m pc ls (.int x :: .int i :: .ref (ρ k) :: rest)) := by
  obtain ⟨hx, hb, hml, hown, hts, hK, hnm⟩ := hC
  obtain ⟨hl, hP, hD, hS, hw⟩ := hfr
  obtain ⟨n, hk, hin⟩ := ip_inA_spec hi
  obtain ⟨G, F, I, J⟩ := h
  refine va_zast hx hb hK hP hD hS k 3 (f := I k) (ip_w_get hk) rfl hin hd (fun H' locs' hP' hD' hS' => ?_)
  have e := ip_w_putI (dA := dA) (ρ := ρ) (F := F) (I := I) (J := J) (j := i.toNatClampNeg) (x := vp_nar .boolean x) (t := 3) (by decide) hk
  rw [e] at hP' hD'
  exact kk H' locs' ⟨hl, hP', hD', hS', hw⟩
theorem ip_last (hC : ip_Cx D dA mi p s m args meth c) (hd : decode (ip_bytes mi) pc = .ok (.lastore, 1)) (hfr : ip_fr D dA A s mi ρ ls L h H locs) {k : Nat} {i : Int32} {x : Int64} (hi : ip_inA h.1 k 2 i = true)
    (kk : ∀ (H' : Heap) (locs' : List Loc), ip_fr D dA A s mi ρ ls L (h.1, h.2.1, h.2.2.1, ip_up h.2.2.2 k i.toNatClampNeg x) H' locs' → W p l e R s m args below meth c H' locs' cells slots Q (F0 m (pc + 1) ls rest)) : W p l e R s m args below meth c H locs cells slots Q (F0 m pc ls (.long x :: .int i :: .ref (ρ k) :: rest)) := by
  obtain ⟨hx, hb, hml, hown, hts, hK, hnm⟩ := hC
  obtain ⟨hl, hP, hD, hS, hw⟩ := hfr
  obtain ⟨n, hk, hin⟩ := ip_inA_spec hi
  obtain ⟨G, F, I, J⟩ := h
  refine va_last hx hb hK hP hD hS k 2 (f := J k) (ip_w_get hk) rfl hin hd (fun H' locs' hP' hD' hS' => ?_)
  have e := ip_w_putJ (dA := dA) (ρ := ρ) (F := F) (I := I) (J := J) (j := i.toNatClampNeg) (x := x) hk
  rw [e] at hP' hD'
  exact kk H' locs' ⟨hl, hP', hD', hS', hw⟩
end IPH
