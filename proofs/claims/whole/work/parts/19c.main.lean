/-! THE RUNS ARE SOUND (open: calls of methods that may throw, what is made to be thrown, the JDK's two String methods) -/
section IPMAIN
/-- all that stands of a frame -/
def ip_CTX (l : Launch) (D : va_G) (dA : Nat → ClassId) (p : Program) (e : Env) (R : Room) (s : State) (m : MethodId) (args : Array Value) (below : List Frame) (meth : Method) (c : Code) (A : Nat → Prop) (ρ ρ0 : Nat → Nat) (n0 : Nat) (H : Heap) (locs : List Loc) (cells slots : Nat) (ls : Array Slot) (Q : State → Prop) (mi : Nat) (L : ip_Lo) (h : ip_H) (b : ip_B) (post : Option Value → ip_H → Prop) (px : String → ip_H → Prop) : Prop :=
  ip_Cx D dA mi p s m args meth c ∧ (ip_fm mi ≤ R.frames ∧ ip_lm mi ≤ R.locals) ∧ ip_Z ρ A s s.heap ∧ (∀ q, s.heap.size ≤ q → A q) ∧ ip_fr D dA A s mi ρ ls L h H locs ∧ ip_ag n0 ρ0 ρ ∧ (ip_al mi = false → ρ = ρ0) ∧ n0 ≤ h.1.length ∧ cells + b.1 ≤ R.cells ∧ slots + b.2 ≤ R.slots ∧ (mi = 209 → ip_XS ρ A s h) ∧
  ip_HR p l e R s m args below meth c Q D dA A mi n0 ρ0 post ∧ ip_HX p l e R s m args below meth c Q D dA A mi n0 ρ0 px
/-- OPEN: a call of a method that may throw -/
def ip_EH (l : Launch) (D : va_G) (dA : Nat → ClassId) : Prop := ∀ (n : Nat), ip_SND l D dA n → ∀ (mi pc len : Nat) (ins : Instr) (L : ip_Lo) (S : List Value) (h : ip_H) (b : ip_B) (post : Option Value → ip_H → Prop) (px : String → ip_H → Prop) (q : Nat × ip_Lo × List Value × ip_B × ip_B),
  ip_fetch mi pc = some (ins, len) → ip_ex mi pc ins L S h b = some (.inr (.inl q)) → ip_nt q.1 = false →
  ip_wp n q.1 0 q.2.1 [] h q.2.2.2.1 (fun r h' => ip_wp n mi (pc + 3) L (r.toList ++ q.2.2.1) h' q.2.2.2.2 post px) (fun E h' => match ip_hd q.1 mi pc E with
          | none => px E h'
          | some none => False
          | some (some w) => ip_wp n mi w.1 (L.set w.2 none) [] h' q.2.2.2.2 post px) →
  ∀ (p : Program) (e : Env) (R : Room) (s : State) (m : MethodId) (args : Array Value) (below : List Frame) (meth : Method) (c : Code) (A : Nat → Prop) (ρ ρ0 : Nat → Nat) (n0 : Nat) (H : Heap) (locs : List Loc) (cells slots : Nat) (ls : Array Slot) (Q : State → Prop),
    ip_CTX l D dA p e R s m args below meth c A ρ ρ0 n0 H locs cells slots ls Q mi L h b post px → W p l e R s m args below meth c H locs cells slots Q (F0 m pc ls (S.map (ip_v ρ)))
/-- OPEN: String.length and String.charAt on the constants -/
def ip_DH (l : Launch) (D : va_G) (dA : Nat → ClassId) : Prop := ∀ (mi pc ix : Nat) (L : ip_Lo) (S : List Value) (h : ip_H) (pc' : Nat) (L' : ip_Lo) (S' : List Value) (h' : ip_H) (b b' : ip_B), ip_fetch mi pc = some (.invokevirtual ix, 3) → (ip_bi mi ix = 3 ∨ ip_bi mi ix = 4) → ip_ex mi pc (.invokevirtual ix) L S h b = some (.inl (pc', L', S', h', b')) →
  ∀ (p : Program) (e : Env) (R : Room) (s : State) (m : MethodId) (args : Array Value) (below : List Frame) (meth : Method) (c : Code) (A : Nat → Prop) (ρ : Nat → Nat) (H : Heap) (locs : List Loc) (cells slots : Nat) (ls : Array Slot) (Q : State → Prop),
    ip_Cx D dA mi p s m args meth c → (ip_fm mi ≤ R.frames ∧ ip_lm mi ≤ R.locals) → ip_Z ρ A s s.heap → (∀ q, s.heap.size ≤ q → A q) → ip_fr D dA A s mi ρ ls L h H locs → cells ≤ R.cells → slots ≤ R.slots →
    (∀ (H' : Heap) (locs' : List Loc), ip_fr D dA A s mi ρ ls L h H' locs' → W p l e R s m args below meth c H' locs' cells slots Q (F0 m pc' ls (S'.map (ip_v ρ)))) → W p l e R s m args below meth c H locs cells slots Q (F0 m pc ls (S.map (ip_v ρ)))
theorem ip_inv_not {mi ci na : Nat} {L0 L : ip_Lo} {S rest : List Value} {h : ip_H} {b : ip_B} {q : Nat × ip_Lo × List Value × ip_H × ip_B} (hx : ip_inv mi ci na L0 L S rest h b = some (.inl q)) : False := by
  unfold ip_inv at hx
  split at hx
  · split at hx <;> cases hx
  · cases hx
variable {l : Launch} {D : va_G} {dA : Nat → ClassId} {p : Program} {e : Env} {R : Room} {s : State} {m : MethodId} {args : Array Value} {below : List Frame} {meth : Method} {c : Code} {A : Nat → Prop} {ρ ρ0 : Nat → Nat} {n0 : Nat} {H : Heap} {locs : List Loc} {cells slots : Nat} {ls : Array Slot} {Q : State → Prop} {mi pc len : Nat} {L L' : ip_Lo} {S S' : List Value} {h h' : ip_H} {b b' : ip_B} {pc' : Nat}
set_option maxHeartbeats 8000000 in
set_option maxRecDepth 100000 in
theorem ip_next (hDH : ip_DH l D dA) {ins : Instr} (hC : ip_Cx D dA mi p s m args meth c) (hR : ip_fm mi ≤ R.frames ∧ ip_lm mi ≤ R.locals) (hZ : ip_Z ρ A s s.heap) (hA : ∀ q, s.heap.size ≤ q → A q) (hfr : ip_fr D dA A s mi ρ ls L h H locs) (hag : ip_ag n0 ρ0 ρ) (hal : ip_al mi = false → ρ = ρ0) (hn0 : n0 ≤ h.1.length) (hc1 : cells + b.1 ≤ R.cells) (hc2 : slots + b.2 ≤ R.slots) (hXS : mi = 209 → ip_XS ρ A s h)
    (hf : ip_fetch mi pc = some (ins, len)) (hx : ip_ex mi pc ins L S h b = some (.inl (pc', L', S', h', b')))
    (kk : ∀ (ρ' : Nat → Nat) (H' : Heap) (locs' : List Loc) (ls' : Array Slot) (cells' slots' : Nat), ip_Z ρ' A s s.heap → ip_fr D dA A s mi ρ' ls' L' h' H' locs' → ip_ag n0 ρ0 ρ' → (ip_al mi = false → ρ' = ρ0) → n0 ≤ h'.1.length → cells' + b'.1 ≤ R.cells → slots' + b'.2 ≤ R.slots →
      W p l e R s m args below meth c H' locs' cells' slots' Q (F0 m pc' ls' (S'.map (ip_v ρ')))) : W p l e R s m args below meth c H locs cells slots Q (F0 m pc ls (S.map (ip_v ρ))) := by
  obtain ⟨hd, hln⟩ := ip_dec hf
  have hck := ip_all ip_callOK hf
  have def0 : ip_ex0 mi pc ins L S h b = some (.inl (pc', L', S', h', b')) → W p l e R s m args below meth c H locs cells slots Q (F0 m pc ls (S.map (ip_v ρ))) := fun hs =>
    ip_step0 hC hZ hf hd hln hs hfr (fun H' locs' ls' hb hG hfr' => kk ρ H' locs' ls' cells slots hZ hfr' hag hal (by rw [hG]; exact hn0) (by rw [hb]; exact hc1) (by rw [hb]; exact hc2))
  cases ins
  case iaload =>
    have hl1 : len = 1 := by simpa [ip_okl] using hln
    subst hl1
    simp only [ip_ex] at hx
    split at hx
    · rename_i hm
      split at hx
      · rename_i i k S
        split at hx
        · rename_i hc
          cases hx
          simp only [Bool.and_eq_true, decide_eq_true_eq] at hc
          obtain ⟨rfl, hin⟩ := hc
          obtain ⟨hx0, hb, -⟩ := id hC
          obtain ⟨x1, x2, x3⟩ := hXS hm
          exact va_sld hx0 hb x1 x2 x3 hfr.2.2.2.1 hin hd (kk ρ H locs ls cells slots hZ hfr hag hal hn0 hc1 hc2)
        · cases hx
      · cases hx
    · exact def0 hx
  case arraylength =>
    have hl1 : len = 1 := by simpa [ip_okl] using hln
    subst hl1
    simp only [ip_ex] at hx
    split at hx
    · rename_i hm
      split at hx
      · rename_i k S
        split at hx
        · rename_i hc
          cases hx
          simp only [decide_eq_true_eq] at hc
          subst hc
          obtain ⟨hx0, hb, -⟩ := id hC
          obtain ⟨x1, x2, x3⟩ := hXS hm
          exact va_slen hx0 hb x1 x2 x3 hfr.2.2.2.1 hd (kk ρ H locs ls cells slots hZ hfr hag hal hn0 hc1 hc2)
        · cases hx
      · cases hx
    · exact def0 hx
  case invokevirtual ix =>
    have hl3 : len = 3 := by simpa [ip_okl] using hln
    subst hl3
    by_cases h3 : ip_bi mi ix = 3 ∨ ip_bi mi ix = 4
    · have hbb : h' = h ∧ L' = L ∧ b' = b := by
        rcases h3 with h3 | h3
        · simp only [ip_ex, h3] at hx
          (repeat' split at hx) <;> first | (cases hx; done) | (cases hx; exact ⟨rfl, rfl, rfl⟩)
        · simp only [ip_ex, h3] at hx
          (repeat' split at hx) <;> first | (cases hx; done) | (cases hx; exact ⟨rfl, rfl, rfl⟩)
      obtain ⟨e1, e2, e3⟩ := hbb
      refine hDH mi pc ix L S h pc' L' S' h' b b' hf h3 hx p e R s m args below meth c A ρ H locs cells slots ls Q hC hR hZ hA hfr (by omega) (by omega) (fun H' locs' hfr' => ?_)
      subst e1; subst e2; subst e3
      exact kk ρ H' locs' ls cells slots hZ hfr' hag hal hn0 hc1 hc2
    · exfalso
      simp only [ip_ex] at hx
      split at hx
      · rename_i hh; exact h3 (Or.inl hh)
      · rename_i hh; exact h3 (Or.inr hh)
      · split at hx
        · split at hx
          · split at hx
            · exact ip_inv_not hx
            · cases hx
          · cases hx
        · cases hx
  case invokespecial ix =>
    have hl3 : len = 3 := by simpa [ip_okl] using hln
    subst hl3
    simp only [ip_ex] at hx
    split at hx
    · rename_i hbi
      split at hx
      · rename_i k S
        split at hx
        · rename_i hcat
          cases hx
          simp only [ip_cchk, hbi, Bool.and_eq_true, decide_eq_true_eq] at hck
          exact ip_objI hC hR hd hbi hfr hck.2 hcat (kk ρ H locs ls cells slots hZ hfr hag hal hn0 hc1 hc2)
        · cases hx
      · cases hx
    · exfalso
      split at hx
      · split at hx
        · exact ip_inv_not hx
        · cases hx
      · cases hx
  case invokestatic ix =>
    have hl3 : len = 3 := by simpa [ip_okl] using hln
    subst hl3
    simp only [ip_ex] at hx
    split at hx
    · rename_i hbi
      split at hx
      · rename_i n dp k1 sp k0 S
        unfold ip_copy at hx
        by_cases hq : ip_cpok h.1 h.2.2.1 k0 sp k1 dp n ∧ (S.map fun v => v.category).sum ≤ 8
        · rw [if_pos hq] at hx
          cases hx
          simp only [ip_cchk, hbi, Bool.and_eq_true, decide_eq_true_eq] at hck
          exact ip_copyS hC hR hd hbi hfr hck.2 hq.1 hq.2 (fun H' locs' hfr' => kk ρ H' locs' ls cells slots hZ hfr' hag hal hn0 hc1 hc2)
        · rw [if_neg hq] at hx
          cases hx
      · cases hx
    · exfalso
      split at hx
      · exact ip_inv_not hx
      · cases hx
  case new ix =>
    have hl3 : len = 3 := by simpa [ip_okl] using hln
    subst hl3
    simp only [ip_ex] at hx
    split at hx
    · split at hx <;> cases hx
    · split at hx
      · rename_i ci hci
        split at hx
        · rename_i hwf
          split at hx
          · rename_i hbb
            cases hx
            rw [Bool.and_eq_true] at hwf
            refine ip_newO hC hA hd (ip_newOK hci) hfr hwf.2 (by omega) (by omega) hbb.2.2 (fun q H' hfr' => ?_)
            refine kk (ip_ext ρ h.1.length q) H' locs ls (cells + 1) (slots + ip_nf ci) (hZ.ext (ip_ext_ag hbb.2.2)) hfr' ?_ ?_ ?_ ?_ ?_
            · intro k hk
              have := ip_ext_ag (ρ := ρ) (q := q) hbb.2.2 k (hk.imp (fun z => Nat.lt_of_lt_of_le z hn0) id)
              rw [this]
              exact hag k hk
            · intro hz
              rw [hwf.1] at hz
              cases hz
            · simp; omega
            · show cells + 1 + (b.1 - 1) ≤ R.cells; omega
            · show slots + ip_nf ci + (b.2 - ip_nf ci) ≤ R.slots; omega
          · cases hx
        · cases hx
      · cases hx
  case newarray t =>
    have hl2 : len = 2 := by simpa [ip_okl] using hln
    subst hl2
    simp only [ip_ex] at hx
    split at hx
    · rename_i n S
      split at hx
      · rename_i u hu
        split at hx
        · rename_i hwf
          split at hx
          · rename_i hbb
            cases hx
            rw [Bool.and_eq_true] at hwf
            refine ip_newA hC hA hd hu hfr hwf.2 (by omega) (by omega) hbb.2.2.1 hbb.2.2.2.1 hbb.2.2.2.2 (fun q H' hfr' => ?_)
            refine kk (ip_ext ρ h.1.length q) H' locs ls (cells + 1) (slots + n.toNatClampNeg) (hZ.ext (ip_ext_ag hbb.2.2.1)) hfr' ?_ ?_ ?_ ?_ ?_
            · intro k hk
              have := ip_ext_ag (ρ := ρ) (q := q) hbb.2.2.1 k (hk.imp (fun z => Nat.lt_of_lt_of_le z hn0) id)
              rw [this]
              exact hag k hk
            · intro hz
              rw [hwf.1] at hz
              cases hz
            · simp; omega
            · show cells + 1 + (b.1 - 1) ≤ R.cells; omega
            · show slots + n.toNatClampNeg + (b.2 - n.toNatClampNeg) ≤ R.slots; omega
          · cases hx
        · cases hx
      · cases hx
    · cases hx
  case ireturn =>
    simp only [ip_ex] at hx
    (repeat' split at hx) <;> cases hx
  case lreturn =>
    simp only [ip_ex] at hx
    (repeat' split at hx) <;> cases hx
  case areturn =>
    simp only [ip_ex] at hx
    (repeat' split at hx) <;> cases hx
  case return_ =>
    simp only [ip_ex] at hx
    (repeat' split at hx) <;> cases hx
  all_goals exact def0 hx
end IPMAIN
