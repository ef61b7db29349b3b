/-! new E(".."), and its throw -/
section IPX3
variable {p : Program} {l : Launch} {e : Env} {R : Room} {s : State} {m : MethodId} {args : Array Value} {below : List Frame} {meth : Method} {c : Code} {T : State} {locs : List Loc} {cells slots : Nat}
/-- the frame as if it began here -/
def ip_now (s T : State) : State := { s with heap := T.heap, slotsUsed := T.slotsUsed }
theorem ip_rebase (X : Stand p l e R s m args below meth c T locs cells slots) {a b : Nat} (ha : cells + a ≤ R.cells) (hb : slots + b ≤ R.slots) : Stand p l e { R with cells := a, slots := b } (ip_now s T) m args below meth c T [] 0 0 := by
  have hdrop : (T.heap.toList.drop T.heap.size) = [] := List.drop_eq_nil_of_le (by simp)
  refine ⟨X.admits, X.cas, X.clock, X.frames, ?_, X.hears, X.method, X.code, X.here, X.tail, X.warmed, X.limits, X.bytes, ?_⟩
  · have h := X.room
    have h1 := X.heapSize
    have h2 := X.used
    have h3 : (ip_now s T).slotsTrue = true := X.book
    simp only [State.hasRoom, Bool.and_eq_true, decide_eq_true_eq] at h ⊢
    obtain ⟨⟨⟨⟨g1, g2⟩, g3⟩, g4⟩, -⟩ := h
    refine ⟨⟨⟨⟨g1, g2⟩, ?_⟩, ?_⟩, h3⟩
    · show T.heap.size + a ≤ _
      omega
    · show T.slotsUsed + b ≤ _
      omega
  · refine ⟨X.same.1, Nat.le_refl _, Nat.le_refl _, ?_, ?_, ?_⟩
    · show T.slotsUsed = T.slotsUsed + ((T.heap.toList.drop T.heap.size).map (·.slots.size)).sum
      rw [hdrop]
      rfl
    · show ((T.heap.toList.drop T.heap.size).map (·.slots.size)).sum ≤ 0
      rw [hdrop]
      exact Nat.le_refl 0
    · intro a c hc
      exact ⟨c, hc, rfl, rfl, fun _ _ => rfl⟩
/-- nothing freed: the cells stand -/
theorem ip_same_kept {s t : State} {n k : Nat} (h : s.sameButNew t [] n k) : ∀ a : Nat, a < s.heap.size → t.heap[a]? = s.heap[a]? := by
  intro a ha
  obtain ⟨c', h1, h2, h3, h4⟩ := h.2.2.2.2.2 a _ (Array.getElem?_eq_getElem ha)
  rw [h1, Array.getElem?_eq_getElem ha]
  have e : c'.slots = (s.heap[a]).slots := Array.ext_getElem? fun i => h4 i (by simp)
  rw [h2, e]
theorem ip_now_same (X : Stand p l e R s m args below meth c T locs cells slots) {t : State} {n k : Nat} (h : (ip_now s T).sameButNew ({ t with vm := s.vm } : State) [] n k) : s.sameButNew ({ t with vm := s.vm } : State) (locs ++ []) (cells + n) (slots + k) := by
  refine X.same.trans ⟨?_, h.2⟩
  have e1 : (T.setVm s.vm).setFrames t.frames = ({ s.setFrames t.frames with heap := T.heap, slotsUsed := T.slotsUsed } : State) := by
    have e2 := congrArg (fun z : State => z.setFrames t.frames) X.same.1
    refine Eq.trans e2 ?_
    show ({ (s.setFrames T.frames).setFrames t.frames with heap := T.heap, slotsUsed := T.slotsUsed } : State) = _
    rw [State.setFrames_setFrames]
  have e3 := h.1
  refine e3.trans ?_
  show _ = ({ (T.setVm s.vm).setFrames t.frames with heap := t.heap, slotsUsed := t.slotsUsed } : State)
  rw [e1]
  rfl
/-- what stands behind a 'new' that is thrown -/
def ip_xi (mi pc : Nat) : Nat := match ip_fetch mi (pc + 4) with
  | some (.ldc i, _) => i
  | _ => 0
def ip_xx (mi pc : Nat) : Option Nat := match ip_cst mi (ip_xi mi pc) with
  | some (.ref x) => some x
  | _ => none
def ip_xok (q : Nat × Nat × String) : Bool := ip_xix.any (fun w => decide (w.1 = q.2.2) && decide (ip_fetch q.1 q.2.1 = some (.new w.2.1, 3)) && decide (ip_fetch q.1 (q.2.1 + 3) = some (.dup, 1)) && decide (ip_fetch q.1 (q.2.1 + 4) = some (.ldc (ip_xi q.1 q.2.1), 2)) && (ip_xx q.1 q.2.1).isSome &&
  decide (ip_fetch q.1 (q.2.1 + 6) = some (.invokespecial w.2.2, 3)) && decide (ip_fetch q.1 (q.2.1 + 9) = some (.athrow, 1)) && decide (ip_own q.1 = "CoreText"))
set_option maxRecDepth 100000 in
theorem ip_excOK : ip_excs.all ip_xok = true := by decide +kernel
theorem ip_xwx : ∀ w ∈ ip_xix, (∀ x ∈ ip_oA w.2.2 w.1, x ∈ ip_gw ∨ x ∈ ip_isS) ∧ Cond.classLink "CoreText" w.2.1 w.1 ∈ ip_gw ∧ Cond.initialized w.1 ∈ ip_gw ∧ Bundle.fit w.1 = true := by
  intro w hw
  simp only [ip_xix, List.mem_cons, List.not_mem_nil, or_false] at hw
  rcases hw with rfl | rfl | rfl
  · exact ⟨ip_xw0, ip_xc0.1, ip_xc0.2, by decide +kernel⟩
  · exact ⟨ip_xw1, ip_xc1.1, ip_xc1.2, by decide +kernel⟩
  · exact ⟨ip_xw2, ip_xc2.1, ip_xc2.2, by decide +kernel⟩
theorem ip_Zq_isRef {C n d : String} {A : Nat → Prop} {s : State} (h : va_Zq C n d A s s.heap) : (Cond.isRef (.static C n d)).before args s = true := by
  rcases h with h | ⟨t, h⟩
  · obtain ⟨cf, kf, fi, f, a, cell, h1, h2, h3, h4, h5, h6, h7, h8⟩ := h
    simp [Cond.before, Cond.holds, Cond.value, Term.eval, State.fieldNamed?, h1, h2, h4, h5, h6, h7, Value.isRef]
  · obtain ⟨cf, kf, fi, f, a, cell, h1, h2, h3, h4, h5, h6, h7, h8⟩ := h
    simp [Cond.before, Cond.holds, Cond.value, Term.eval, State.fieldNamed?, h1, h2, h4, h5, h6, h7, Value.isRef]
set_option maxHeartbeats 1000000 in
theorem ip_TH_ok {D : va_G} {dA : Nat → ClassId} (hl : l.stackTraces = false) : ip_TH l D dA := by
  intro p e R s m args below meth c A ρ mi pc ix len E L S h H locs cells slots ls hC hR hlocks ht hZ hA hfr hf he hc hs hcat
  obtain ⟨hx, hb, hml, hown, hts, hK, hnm⟩ := hC
  obtain ⟨hlo, hP, hD, hS, hw⟩ := hfr
  have hck := ip_all ip_callOK hf
  simp only [ip_cchk, he, Bool.and_eq_true, decide_eq_true_eq] at hck
  have h0 := List.all_eq_true.mp ip_excOK _ (ip_lk2_mem he)
  obtain ⟨w, hwm, h1⟩ := List.any_eq_true.mp h0
  simp only [Bool.and_eq_true, decide_eq_true_eq] at h1
  obtain ⟨⟨⟨⟨⟨⟨⟨d0, d1⟩, d2⟩, d3⟩, d4⟩, d5⟩, d6⟩, d7⟩ := h1
  obtain ⟨w1, w2, w3, w4⟩ := ip_xwx w hwm
  subst d0
  rw [d7] at hown
  have hn1 := (ip_dec d1).1
  have hn2 := (ip_dec d2).1
  have hn3 := (ip_dec d3).1
  have hn5 := (ip_dec d5).1
  have hn6 := (ip_dec d6).1
  obtain ⟨x, hxx⟩ := Option.isSome_iff_exists.mp d4
  have hcst : ip_cst mi (ip_xi mi pc) = some (.ref x) := by
    unfold ip_xx at hxx
    split at hxx
    · rename_i y hy; cases hxx; exact hy
    · cases hxx
  obtain ⟨tx, i, hr, ex⟩ := ip_cstS hcst
  intro T hT X
  have htr : e.platform.stackTraces = false := (congrArg Platform.stackTraces X.admits.platform).trans hl
  have X' := ip_rebase X (a := 1) (b := 6) hc hs
  have hvm : (ip_now s T).vm = s.vm := rfl
  have hheap : (ip_now s T).heap = H := hT
  have hZ' : ip_Z ρ A (ip_now s T) (ip_now s T).heap := by
    rw [hheap]
    exact ip_Z.same (u := s) hvm (hZ.kept hS.2.1)
  have hts' : ∀ w ∈ ip_gw, w.before args (ip_now s T) = true := fun w hw => pay_in hts ip_gw_good w hw args (ip_now s T) (State.WarmedH.refl s)
  have hat : ∀ a ∈ ip_oA w.2.2 w.1, a.before args (ip_now s T) = true := by
    intro a ha
    rcases w1 a ha with h9 | h9
    · exact hts' a h9
    · rcases List.mem_append.mp h9 with h9 | h9
      · simp only [List.mem_cons, List.not_mem_nil, or_false] at h9
        rcases h9 with rfl | rfl | rfl | rfl
        · exact ip_Zq_isRef hZ'.2.2.2.2.1
        · exact ip_Zq_isRef hZ'.2.2.2.2.2.1
        · exact hZ'.2.2.2.2.2.2.2.1.word
        · exact hZ'.2.2.2.2.2.2.2.2.1.word
      · exact hZ'.2.2.2.2.2.2.2.2.2 a h9 args
  have hins : (Cond.instantiable w.1 6).before args (ip_now s T) = true := hat _ (by simp [ip_oA, Bundle.ownAtoms])
  obtain ⟨cE, kE, hcE, hkE, -⟩ := Cond.instantiable_spec hins
  have K : W p l e { R with cells := 1, slots := 6 } (ip_now s T) m args below meth c H [] 0 0 (fun t => ∃ (q : Addr) (ce : Cell), t.status = .running ∧ Ended t below (.threw q) ∧ t.heap[q]? = some ce ∧ ce.vm = .none ∧ s.vm.findClass w.1 = some ce.cls ∧ s.WarmedH t.vm ∧ (ip_now s T).sameButNew ({ t with vm := s.vm } : State) [] (0 + 1) (0 + 6)) (F0 m pc ls (S.map (ip_v ρ))) := by
    refine W.newcK (s := ip_now s T) (R := { R with cells := 1, slots := 6 }) (cells := 0) (slots := 0) (g := F0 m pc ls (S.map (ip_v ρ))) hx hb hown (hts' _ w2) hins (hts' _ w3) rfl hn1 (Nat.le_refl _) (Nat.le_refl _) hcE rfl fun H1 kC hkC e1 z1 o1 => ?_
    refine lv_dup hx hb hn2 rfl ?_
    have hown2 : (ip_now s T).vm.findClass (ip_onm (ip_o mi)) = some m.cls := by
      have : ip_onm (ip_o mi) = "CoreText" := d7
      rw [this]; exact hown
    refine va_ldcS (own := ip_onm (ip_o mi)) hx hb hown2 (ip_ZR hZ' hr) hn3 ?_
    intro T2 hT2 X2
    obtain ⟨U, st, r1, r2, r3, r4, ce, r5, r6⟩ := X2.ctorThrowS hx htr (own := "CoreText") (cls := w.1) (names := ["java/lang/RuntimeException", "java/lang/Exception"]) (ic := w.2.2) hown w4 (by decide +kernel) hat (fun x hx => by cases hx) hcE hkC (by rw [hT2]; exact e1) (by rw [hheap]; exact Nat.le_refl _) (msg := .ref (ρ (ip_sa i))) rfl
      (g := F0 m (pc + 6) ls (.ref (ρ (ip_sa i)) :: .ref H.size :: .ref H.size :: S.map (ip_v ρ))) rfl (hlo.1.trans hml.symm) rfl rfl rfl (by rw [hb]; exact hn5) (by rw [hb]; exact hn6) (fun x hx => (ht x hx).elim)
      (by show 2 + 3 < R.frames; omega)
      (by
        show 2 * 0 + ((Value.ref H.size :: S.map (ip_v ρ)).map fun v => v.category).sum + (13 * (2 + 1) + 42) ≤ R.locals
        rw [List.map_cons, List.sum_cons, ip_v_cats]
        show 2 * 0 + (1 + _) + _ ≤ _
        omega) hlocks
    exact ⟨U, st, H.size, ce, r1, r2, r5, r6.vm, r6.cls, r3, r4⟩
  obtain ⟨t, a1, q, ce, b1, b2, b3, b4, b5, b6, b7⟩ := K T hT X'
  have hk := ip_same_kept b7
  rw [hheap] at hk
  have hz : H.size ≤ t.heap.size := by
    have := b7.2.1
    rw [hheap] at this
    exact this
  exact ⟨t, a1, q, ce, locs ++ [], b1, b2, hk, hz, b3, b4, b5, b6, ip_now_same X b7, fun z hz => hS.2.2 z (by simpa using hz)⟩
end IPX3
