/-! methods that may throw, as contracts (open: ip_TH, the making of an exception) -/
section IPX2
/-- where a method has thrown q -/
def ip_TT (D : va_G) (dA : Nat → ClassId) (ρ : Nat → Nat) (h : ip_H) (ci : Nat) (px : String → ip_H → Prop) (A1 : Nat → Prop) (mc ms : Nat) (st : State) (q : Addr) (t : State) : Prop :=
  ∃ (E : String) (ce : Cell) (L : List Loc) (ρ' : Nat → Nat) (h' : ip_H), px E h' ∧ ip_ag h.1.length ρ ρ' ∧ (ip_al ci = false → ρ' = ρ) ∧ h.1.length ≤ h'.1.length ∧ va_P D ip_cls (ip_w dA ρ' h') t.heap ∧ va_D A1 (ip_w dA ρ' h') ∧ ip_wH h' ∧ va_F A1 st t ∧
    t.heap[q]? = some ce ∧ ce.vm = .none ∧ st.vm.findClass E = some ce.cls ∧ st.WarmedH t.vm ∧ st.sameButNew ({ t with vm := st.vm } : State) L mc ms ∧ ∀ z ∈ L, A1 z.base
def ip_QX (D : va_G) (dA : Nat → ClassId) (ρ : Nat → Nat) (h : ip_H) (ci : Nat) (post : Option Value → ip_H → Prop) (px : String → ip_H → Prop) (A1 : Nat → Prop) (mc ms : Nat) : Array Value → State → Outcome → State → Prop := fun a st o t =>
  (ip_Q D dA ρ h ci post A1 a st o t ∧ ∃ L, FrameEnd st o t L mc ms ∧ ∀ q ∈ L, A1 q.base) ∨ ∃ q, o = .threw q ∧ ip_TT D dA ρ h ci px A1 mc ms st q t
def ip_MQX (below : List Frame) (D : va_G) (dA : Nat → ClassId) (ρ : Nat → Nat) (h : ip_H) (ci : Nat) (post : Option Value → ip_H → Prop) (px : String → ip_H → Prop) (A1 : Nat → Prop) (a : Array Value) (s : State) (mc ms : Nat) : State → Prop := fun t =>
  ∃ o, t.status = .running ∧ Ended t below o ∧ ip_QX D dA ρ h ci post px A1 mc ms a s o t
/-- OPEN: new E("..") and its throw -/
def ip_TH (l : Launch) (D : va_G) (dA : Nat → ClassId) : Prop := ∀ (p : Program) (e : Env) (R : Room) (s : State) (m : MethodId) (args : Array Value) (below : List Frame) (meth : Method) (c : Code) (A : Nat → Prop) (ρ : Nat → Nat) (mi pc ix len : Nat) (E : String) (L : ip_Lo) (S : List Value) (h : ip_H) (H : Heap) (locs : List Loc) (cells slots : Nat) (ls : Array Slot),
  ip_Cx D dA mi p s m args meth c → (ip_fm mi ≤ R.frames ∧ ip_lm mi ≤ R.locals) → meth.locks = false → (∀ x ∈ c.exceptionTable.toList, False) → ip_Z ρ A s s.heap → (∀ q, s.heap.size ≤ q → A q) → ip_fr D dA A s mi ρ ls L h H locs → ip_fetch mi pc = some (.new ix, len) → ip_exc mi pc = some E → cells + 1 ≤ R.cells → slots + 6 ≤ R.slots → (S.map fun v => v.category).sum ≤ 8 →
  W p l e R s m args below meth c H locs cells slots (fun t => ∃ (q : Addr) (ce : Cell) (L : List Loc), t.status = .running ∧ Ended t below (.threw q) ∧ (∀ a : Nat, a < H.size → t.heap[a]? = H[a]?) ∧ H.size ≤ t.heap.size ∧ t.heap[q]? = some ce ∧ ce.vm = .none ∧ s.vm.findClass E = some ce.cls ∧ s.WarmedH t.vm ∧ s.sameButNew ({ t with vm := s.vm } : State) L (cells + 1) (slots + 6) ∧ ∀ z ∈ L, A z.base) (F0 m pc ls (S.map (ip_v ρ)))
theorem ip_W_mono {p : Program} {l : Launch} {e : Env} {R : Room} {s : State} {m : MethodId} {args : Array Value} {below : List Frame} {meth : Method} {c : Code} {H : Heap} {locs : List Loc} {cells slots : Nat} {Q Q' : State → Prop} {g : JFrame} (h : ∀ t, Q t → Q' t) (k : W p l e R s m args below meth c H locs cells slots Q g) : W p l e R s m args below meth c H locs cells slots Q' g := by
  intro T hT X
  obtain ⟨t, a1, b1⟩ := k T hT X
  exact ⟨t, a1, h t b1⟩
variable {p : Program} {l : Launch} {e : Env} {R : Room} {s : State} {m : MethodId} {args : Array Value} {below : List Frame} {meth : Method} {c : Code} {D : va_G} {dA : Nat → ClassId} {ci : Nat} {ρ : Nat → Nat} {h : ip_H} {post : Option Value → ip_H → Prop} {px : String → ip_H → Prop} {A : Nat → Prop}
theorem ip_HX_of (hTH : ip_TH l D dA) (hC : ip_Cx D dA ci p s m args meth c) (hR : ip_fm ci ≤ R.frames ∧ ip_lm ci ≤ R.locals) (hlocks : meth.locks = false) (ht : ∀ x ∈ c.exceptionTable.toList, False) (hA : ∀ q, s.heap.size ≤ q → A q) :
    ip_HX p l e R s m args below meth c (ip_MQX below D dA ρ h ci post px A args s R.cells R.slots) D dA A ci h.1.length ρ px := by
  intro ρ' h' H' locs' cells' slots' ls' L' S' pc' E hp hfr hZ hag hal hn
  obtain ⟨hl, hP, hD, hS, hw⟩ := id hfr
  refine ⟨fun ix len hf he hc hs hcat => ?_, fun q ce hno hc hs hq hv hcl => ?_⟩
  · refine ip_W_mono ?_ (hTH p e R s m args below meth c A ρ' ci pc' ix len E L' S' h' H' locs' cells' slots' ls' hC hR hlocks ht hZ hA hfr hf he hc hs hcat)
    rintro t ⟨q, ce, L, h1, h2, h3, h3z, h4, h5, h6, h7, h8, h9⟩
    refine ⟨.threw q, h1, h2, Or.inr ⟨q, rfl, E, ce, L, ρ', h', hp, hag, hal, hn, hP.kept (fun k x hk => h3 _ (hP k x hk).lt), hD, hw, ⟨Nat.le_trans hS.1 h3z, fun a ha hna => ?_⟩, h4, h5, h6, h7, h8.mono hc hs, h9⟩⟩
    rw [h3 a (Nat.lt_of_lt_of_le ha hS.1)]
    exact hS.2.1 a ha hna
  · intro T hT X
    obtain ⟨st1, hrun, hend, hW, hsm⟩ := X.leaveThrown q (g := F0 m pc' ls' (S'.map (ip_v ρ'))) rfl rfl rfl (fun x hx => (ht x hx).elim) hlocks
    have hheap : (T.setFrames (.throwing q :: below)).heap = H' := hT
    exact ⟨_, st1, .threw q, hrun, hend, Or.inr ⟨q, rfl, E, ce, locs', ρ', h', hp, hag, hal, hn, by rw [hheap]; exact hP, hD, hw, hS.F hheap, by rw [hheap]; exact hq, hv, hcl, hW, hsm.mono hc hs, hS.2.2⟩⟩
/-- a method that may throw and has no handlers, by its runs -/
theorem ip_metX (hTH : ip_TH l D dA) {n : Nat} (hS : ip_SND l D dA n) {sz : Nat} {vs : List Value} (hci : ¬ ci = 209) (hno : ip_xts ci = []) (hm : ip_mOK ci) (hw : ip_wp n ci 0 (ip_ent vs (ip_maxL ci)) [] h (ip_cost ci) post px)
    (hok : ip_entok ci (ip_ent vs (ip_maxL ci)) = true) (hln : (ip_ent vs (ip_maxL ci)).length = ip_maxL ci) (hwH : ip_wH h) :
    MetFree l (ip_y ci) (headSpec (ip_ws ci) (ip_rm ci)) (ip_Pc D dA ρ vs h sz) (fun _ _ _ _ _ => True) (ip_QX D dA ρ h ci post px (va_A (ip_w dA ρ h) sz) (ip_cost ci).1 (ip_cost ci).2) := by
  obtain ⟨-, -, ⟨hpl, -, hown0⟩, -⟩ := hm
  refine MetFree.of_bodyS (code := ip_bytes ci) (maxLocals := ip_maxL ci) (ret := ip_ret ci) hpl ?_ ?_
  · intro args s m h hn
    obtain ⟨meth, c, h1, h2, h3, h4, h5, h6, -, -⟩ := Cond.code_spec hn (atoms_spec (ws := ip_ws ci) h _ List.mem_cons_self)
    exact ⟨meth, c, h1, h2, h3, h4, h5, h6⟩
  · intro p e s m args below meth c s₁ B hml hv _
    obtain ⟨rfl, hsz, hP, hK, hD0, hZ⟩ := hv
    have hh0 : s₁.heap = s.heap := by rw [B.state]; rfl
    have hts := atoms_spec (ws := ip_ws ci) B.pre
    have hown : s.vm.findClass (ip_own ci) = some m.cls := by rw [← hown0]; exact findClass_of_methodNamed B.named
    have hin : meth.name = (ip_y ci).name := (name_of_methodNamed B.named B.method).1
    have ht : ∀ x ∈ c.exceptionTable.toList, False := by
      obtain ⟨meth9, c9, h1, h2, -, -, -, -, h7, -⟩ := Cond.code_spec B.named (hts _ List.mem_cons_self)
      cases Option.some.inj (h1.symm.trans B.method)
      cases Option.some.inj (h2.symm.trans (Stand.of_body B).code)
      intro x hx
      rw [Array.isEmpty_iff.mp h7] at hx
      cases hx
    have hlen : (ip_spread vs).length ≤ ip_maxL ci := by
      have := hln
      unfold ip_ent at this
      simp at this
      omega
    have hl := lv_entry (vs.map (ip_v ρ)) (n := ip_maxL ci) (by rw [ip_spread_len]; exact hlen)
    subst hsz
    have hA : ∀ q, s.heap.size ≤ q → va_A (ip_w dA ρ h) s.heap.size q := fun q hq => Or.inr hq
    have hC : ip_Cx D dA ci p s m ((vs.map (ip_v ρ)).toArray) meth c := ⟨B.exec, B.bytes, hml, hown, fun w hw => hts w (List.mem_cons_of_mem _ hw), hK, hin, by unfold ip_xt; rw [hno]; exact List.eq_nil_iff_forall_not_mem.mpr (fun x hx => by obtain ⟨y, hy, -⟩ := List.mem_map.mp hx; exact ht y hy)⟩
    have K : W p l e (ip_rm ci) s m ((vs.map (ip_v ρ)).toArray) below meth c s.heap [] 0 0 (ip_MQX below D dA ρ h ci post px (va_A (ip_w dA ρ h) s.heap.size) ((vs.map (ip_v ρ)).toArray) s (ip_cost ci).1 (ip_cost ci).2) (entryFrame m ((vs.map (ip_v ρ)).toArray) (ip_maxL ci)) := by
      rw [lg_entry_eq]
      generalize ((lg_sl (vs.map (ip_v ρ)) ++ List.replicate (ip_maxL ci - (lg_sl (vs.map (ip_v ρ))).length) Slot.unset).toArray) = ls at hl ⊢
      refine hS ci 0 _ [] h (ip_cost ci) post px hw p e (ip_rm ci) s m _ below meth c (va_A (ip_w dA ρ h) s.heap.size) ρ ρ h.1.length s.heap [] 0 0 ls _
        hC ⟨Nat.le_refl _, Nat.le_refl _⟩ hZ hA
        ⟨ip_ent_lo hlen hl hok, hP, hD0.self, va_S.rf, hwH⟩ (fun _ _ => rfl) (fun _ => rfl) (Nat.le_refl _) (by show 0 + (ip_cost ci).1 ≤ (ip_cost ci).1; omega) (by show 0 + (ip_cost ci).2 ≤ (ip_cost ci).2; omega) (fun z => absurd z hci)
        ?_ (ip_HX_of hTH hC ⟨Nat.le_refl _, Nat.le_refl _⟩ B.notSynchronized ht hA)
      intro ρ' h' H' locs' cells' slots' ls' L' pc' r ins g1 g2 g3 g4 g5 g6 g7 g8 g9 g10
      refine ip_W_mono ?_ (ip_HR_of (l := l) (e := e) (R := ip_rm ci) (s := s) (m := m) (args := (vs.map (ip_v ρ)).toArray) (below := below) (D := D) (dA := dA) (ρ := ρ) (h := h) (post := post) (A := va_A (ip_w dA ρ h) s.heap.size) B.exec B.bytes B.returns B.notSynchronized ρ' h' H' locs' cells' slots' ls' L' pc' r ins g1 g2 g3 g4 g5 g6 g7 g8 g9 g10)
      rintro t ⟨o, b1, b2, b3, b4⟩
      exact ⟨o, b1, b2, Or.inl ⟨b3, b4⟩⟩
    obtain ⟨t, a1, o, b1, b2, b3⟩ := K s₁ hh0 (Stand.of_body B)
    exact ⟨t, o, a1, b1, b2, b3⟩
end IPX2
