/-! SOUND: what the pure machine runs, the real one runs -/
section IPSND
/-- the frame of method m, with q thrown over it -/
def ip_TW (p : Program) (l : Launch) (e : Env) (R : Room) (s : State) (m : MethodId) (args : Array Value) (below : List Frame) (meth : Method) (c : Code) (H : Heap) (locs : List Loc) (cells slots : Nat) (Q : State → Prop) (g : JFrame) (q : Addr) : Prop :=
  ∀ T : State, T.heap = H → Stand p l e R s m args below meth c T locs cells slots → ∃ t, Steps p.tables e below ((T.setTop g).pushFrame (.throwing q)) t ∧ Q t
def ip_isr (ins : Instr) (r : Option Value) : Bool := match ins, r with
  | .ireturn, some (.int _) => true
  | .lreturn, some (.long _) => true
  | .areturn, some (.ref _) => true
  | .return_, none => true
  | _, _ => false
/-- which answers a method's return type takes -/
def ip_isv (mi : Nat) (r : Option Value) : Prop := match r with
  | none => ip_rt1 mi = 0
  | some (.int x) => ip_rt1 mi = 1 ∨ (ip_rt1 mi = 3 ∧ (x = 0 ∨ x = 1))
  | some (.long _) => ip_rt1 mi = 2
  | some (.ref _) => ip_rt1 mi = 4
  | _ => False
/-- the end by a return goes on to Q -/
def ip_HR (p : Program) (l : Launch) (e : Env) (R : Room) (s : State) (m : MethodId) (args : Array Value) (below : List Frame) (meth : Method) (c : Code) (Q : State → Prop) (D : va_G) (dA : Nat → ClassId) (A : Nat → Prop) (mi n0 : Nat) (ρ0 : Nat → Nat) (post : Option Value → ip_H → Prop) : Prop :=
  ∀ (ρ' : Nat → Nat) (h' : ip_H) (H' : Heap) (locs' : List Loc) (cells' slots' : Nat) (ls' : Array Slot) (L' : ip_Lo) (pc' : Nat) (r : Option Value) (ins : Instr), decode (ip_bytes mi) pc' = .ok (ins, 1) → ip_isr ins r = true → ip_isv mi r → post r h' → ip_fr D dA A s mi ρ' ls' L' h' H' locs' → ip_ag n0 ρ0 ρ' → (ip_al mi = false → ρ' = ρ0) → n0 ≤ h'.1.length → cells' ≤ R.cells → slots' ≤ R.slots →
    W p l e R s m args below meth c H' locs' cells' slots' Q (F0 m pc' ls' (r.toList.map (ip_v ρ')))
/-- the end by an exception goes on to Q: one made here, one that comes from a callee and isn't caught -/
def ip_HX (p : Program) (l : Launch) (e : Env) (R : Room) (s : State) (m : MethodId) (args : Array Value) (below : List Frame) (meth : Method) (c : Code) (Q : State → Prop) (D : va_G) (dA : Nat → ClassId) (A : Nat → Prop) (mi n0 : Nat) (ρ0 : Nat → Nat) (px : String → ip_H → Prop) : Prop :=
  ∀ (ρ' : Nat → Nat) (h' : ip_H) (H' : Heap) (locs' : List Loc) (cells' slots' : Nat) (ls' : Array Slot) (L' : ip_Lo) (S' : List Value) (pc' : Nat) (E : String), px E h' → ip_fr D dA A s mi ρ' ls' L' h' H' locs' → ip_Z ρ' A s s.heap → ip_ag n0 ρ0 ρ' → (ip_al mi = false → ρ' = ρ0) → n0 ≤ h'.1.length →
    (∀ ix len, ip_fetch mi pc' = some (.new ix, len) → ip_exc mi pc' = some E → cells' + 1 ≤ R.cells → slots' + 6 ≤ R.slots → (S'.map fun v => v.category).sum ≤ 8 → W p l e R s m args below meth c H' locs' cells' slots' Q (F0 m pc' ls' (S'.map (ip_v ρ')))) ∧
    (∀ (q : Addr) (ce : Cell), ip_noh mi = true → cells' ≤ R.cells → slots' ≤ R.slots → H'[q]? = some ce → ce.vm = .none → s.vm.findClass E = some ce.cls → ip_TW p l e R s m args below meth c H' locs' cells' slots' Q (F0 m pc' ls' (S'.map (ip_v ρ'))) q)
/-- runs of at most n steps are sound -/
def ip_SND (l : Launch) (D : va_G) (dA : Nat → ClassId) (n : Nat) : Prop := ∀ (mi pc : Nat) (L : ip_Lo) (S : List Value) (h : ip_H) (b : ip_B) (post : Option Value → ip_H → Prop) (px : String → ip_H → Prop), ip_wp n mi pc L S h b post px →
  ∀ (p : Program) (e : Env) (R : Room) (s : State) (m : MethodId) (args : Array Value) (below : List Frame) (meth : Method) (c : Code) (A : Nat → Prop) (ρ ρ0 : Nat → Nat) (n0 : Nat) (H : Heap) (locs : List Loc) (cells slots : Nat) (ls : Array Slot) (Q : State → Prop),
    ip_Cx D dA mi p s m args meth c → (ip_fm mi ≤ R.frames ∧ ip_lm mi ≤ R.locals) → ip_Z ρ A s s.heap → (∀ q, s.heap.size ≤ q → A q) → ip_fr D dA A s mi ρ ls L h H locs → ip_ag n0 ρ0 ρ → (ip_al mi = false → ρ = ρ0) → n0 ≤ h.1.length → cells + b.1 ≤ R.cells → slots + b.2 ≤ R.slots → (mi = 209 → ip_XS ρ A s h) →
    ip_HR p l e R s m args below meth c Q D dA A mi n0 ρ0 post → ip_HX p l e R s m args below meth c Q D dA A mi n0 ρ0 px → W p l e R s m args below meth c H locs cells slots Q (F0 m pc ls (S.map (ip_v ρ)))
/-- a callee's words, room, start and end -/
def ip_ws (ci : Nat) : List Cond := Cond.code (ip_y ci) (ip_bytes ci) (ip_maxL ci) (ip_ret ci) :: ip_gw
def ip_rm (ci : Nat) : Room := { frames := ip_fm ci, cells := (ip_cost ci).1, slots := (ip_cost ci).2, locals := ip_lm ci }
def ip_Pc (D : va_G) (dA : Nat → ClassId) (ρ : Nat → Nat) (vs : List Value) (h : ip_H) (sz : Nat) : Array Value → State → Prop := va_Pc (vs.map (ip_v ρ)) (fun U => U.heap.size = sz ∧ va_P D ip_cls (ip_w dA ρ h) U.heap ∧ va_K D ip_cls (ip_tys dA) U ∧ va_D (fun _ => True) (ip_w dA ρ h) ∧ ip_Z ρ (va_A (ip_w dA ρ h) sz) U U.heap)
def ip_Q (D : va_G) (dA : Nat → ClassId) (ρ : Nat → Nat) (h : ip_H) (ci : Nat) (post : Option Value → ip_H → Prop) (A1 : Nat → Prop) : Array Value → State → Outcome → State → Prop := fun _ st o t =>
  (∃ (r : Option Value) (ρ' : Nat → Nat) (h' : ip_H), o = .returned (r.map (ip_v ρ')) ∧ post r h' ∧ ip_ag h.1.length ρ ρ' ∧ (ip_al ci = false → ρ' = ρ) ∧ h.1.length ≤ h'.1.length ∧ va_P D ip_cls (ip_w dA ρ' h') t.heap ∧ va_D A1 (ip_w dA ρ' h') ∧ ip_wH h') ∧ va_F A1 st t
theorem ip_rt1_eq {mi k : Nat} (h : ip_rt1 mi = k) : (k = 0 → ip_ret mi = none) ∧ (k = 1 → ip_ret mi = some .int) ∧ (k = 2 → ip_ret mi = some .long) ∧ (k = 3 → ip_ret mi = some .boolean) ∧ (k = 4 → ∃ n, ip_ret mi = some (.object n)) := by
  unfold ip_rt1 at h
  split at h <;> rename_i hr <;> subst h <;> refine ⟨?_, ?_, ?_, ?_, ?_⟩ <;> intro h <;> first | exact hr | exact ⟨_, hr⟩ | cases h
/-- the ends of a method that returns -/
theorem ip_HR_of {p : Program} {l : Launch} {e : Env} {R : Room} {s : State} {m : MethodId} {args : Array Value} {below : List Frame} {meth : Method} {c : Code} {D : va_G} {dA : Nat → ClassId} {ci : Nat} {ρ : Nat → Nat} {h : ip_H} {post : Option Value → ip_H → Prop} {A : Nat → Prop}
    (hx : p.tables.exec = Jvm.exec) (hb : c.code = ip_bytes ci) (hr : meth.sig.returnType = ip_ret ci) (hlocks : meth.locks = false) :
    ip_HR p l e R s m args below meth c (MQ below (ip_Q D dA ρ h ci post A) args s R.cells R.slots A) D dA A ci h.1.length ρ post := by
  intro ρ' h' H' locs' cells' slots' ls' L' pc' r ins hd hi hv hp hfr hag hal hn hc hs
  obtain ⟨hl, hP, hD, hS, hw⟩ := hfr
  refine W.widen hc hs ?_
  have hq : ∀ t : State, t.heap = H' → s.WarmedH t.vm → ip_Q D dA ρ h ci post A args s (.returned (r.map (ip_v ρ'))) t := fun t ht hW => ⟨⟨r, ρ', h', rfl, hp, hag, hal, hn, by rw [ht]; exact hP, hD, hw⟩, hS.F ht⟩
  cases r with
  | none =>
    cases ins <;> first | (cases hi; done) | skip
    have hr0 := (ip_rt1_eq (mi := ci) hv).1 rfl
    exact W.vret hx hb (hr.trans hr0) hq hS.2.2 hd hlocks
  | some v =>
    cases v with
    | int x =>
      cases ins <;> first | (cases hi; done) | skip
      rcases hv with hv | ⟨hv, hx01⟩
      · exact W.iret hx hb (hr.trans ((ip_rt1_eq (mi := ci) hv).2.1 rfl)) hq hS.2.2 hd hlocks
      · refine W.zret (ty := .boolean) hx hb (hr.trans ((ip_rt1_eq (mi := ci) hv).2.2.2.1 rfl)) ?_ hq hS.2.2 hd hlocks
        rcases hx01 with rfl | rfl <;> rfl
    | long x =>
      cases ins <;> first | (cases hi; done) | skip
      exact W.lret hx hb (hr.trans ((ip_rt1_eq (mi := ci) hv).2.2.1 rfl)) hq hS.2.2 hd hlocks
    | ref k =>
      cases ins <;> first | (cases hi; done) | skip
      obtain ⟨nm, hr4⟩ := (ip_rt1_eq (mi := ci) hv).2.2.2.2 rfl
      exact W.aret hx hb (hr.trans hr4) (Or.inl ⟨nm, rfl⟩) (Or.inr ⟨_, rfl⟩) hq hS.2.2 hd hlocks
    | _ => exact hv.elim
/-- a method that never throws, by its runs -/
theorem ip_met {l : Launch} {D : va_G} {dA : Nat → ClassId} {n : Nat} (hS : ip_SND l D dA n) {ci sz : Nat} {vs : List Value} {h : ip_H} {ρ : Nat → Nat} {post : Option Value → ip_H → Prop} (hci : ¬ ci = 209) (hno : ip_xts ci = []) (hm : ip_mOK ci) (hw : ip_wp n ci 0 (ip_ent vs (ip_maxL ci)) [] h (ip_cost ci) post (fun _ _ => False))
    (hok : ip_entok ci (ip_ent vs (ip_maxL ci)) = true) (hln : (ip_ent vs (ip_maxL ci)).length = ip_maxL ci) (hwH : ip_wH h) :
    Met l (ip_y ci) (ip_ws ci) (ip_rm ci) (ip_Pc D dA ρ vs h sz) (ip_Q D dA ρ h ci post (va_A (ip_w dA ρ h) sz)) (ip_cost ci).1 (ip_cost ci).2 (va_A (ip_w dA ρ h) sz) := by
  obtain ⟨-, -, ⟨hpl, -, hown0⟩, -⟩ := hm
  refine Met.ofW (cc := ip_bytes ci) (maxL := ip_maxL ci) (ret := ip_ret ci) hpl rfl ?_
  intro p e s m args below meth c s₁ B hml hv
  obtain ⟨rfl, hsz, hP, hK, hD0, hZ⟩ := hv
  have hts := atoms_spec (ws := ip_ws ci) B.pre
  have hown : s.vm.findClass (ip_own ci) = some m.cls := by rw [← hown0]; exact findClass_of_methodNamed B.named
  have hin : meth.name = (ip_y ci).name := (name_of_methodNamed B.named B.method).1
  have hxt : ip_xt ci c := by
    obtain ⟨meth9, c9, h1, h2, -, -, -, -, h7, -⟩ := Cond.code_spec B.named (hts _ List.mem_cons_self)
    cases Option.some.inj (h1.symm.trans B.method)
    cases Option.some.inj (h2.symm.trans (Stand.of_body B).code)
    unfold ip_xt
    rw [hno, Array.isEmpty_iff.mp h7]
    rfl
  have hlen : (ip_spread vs).length ≤ ip_maxL ci := by
    have := hln
    unfold ip_ent at this
    simp at this
    omega
  have hl := lv_entry (vs.map (ip_v ρ)) (n := ip_maxL ci) (by rw [ip_spread_len]; exact hlen)
  rw [lg_entry_eq]
  generalize ((lg_sl (vs.map (ip_v ρ)) ++ List.replicate (ip_maxL ci - (lg_sl (vs.map (ip_v ρ))).length) Slot.unset).toArray) = ls at hl ⊢
  subst hsz
  have hA : ∀ q, s.heap.size ≤ q → va_A (ip_w dA ρ h) s.heap.size q := fun q hq => Or.inr hq
  exact hS ci 0 _ [] h (ip_cost ci) post _ hw p e (ip_rm ci) s m _ below meth c (va_A (ip_w dA ρ h) s.heap.size) ρ ρ h.1.length s.heap [] 0 0 ls _
    ⟨B.exec, B.bytes, hml, hown, fun w hw => hts w (List.mem_cons_of_mem _ hw), hK, hin, hxt⟩ ⟨Nat.le_refl _, Nat.le_refl _⟩ hZ hA
    ⟨ip_ent_lo hlen hl hok, hP, hD0.self, va_S.rf, hwH⟩ (fun _ _ => rfl) (fun _ => rfl) (Nat.le_refl _) (by show 0 + (ip_cost ci).1 ≤ (ip_cost ci).1; omega) (by show 0 + (ip_cost ci).2 ≤ (ip_cost ci).2; omega) (fun z => absurd z hci)
    (ip_HR_of B.exec B.bytes B.returns B.notSynchronized) (fun _ _ _ _ _ _ _ _ _ _ _ hf => hf.elim)
end IPSND
