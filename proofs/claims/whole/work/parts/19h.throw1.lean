/-! callees that return or throw: how the caller's frame stands behind them -/
section IPX1
variable {p : Program} {l : Launch} {e : Env} {R : Room} {s : State} {m : MethodId} {sargs : Array Value} {below : List Frame} {meth : Method} {c : Code} {U : State} {locs : List Loc} {cells slots : Nat}
/-- the caller's state with the callee's heap -/
def ip_after2 (U s₂ : State) : State := ({ U with heap := s₂.heap, slotsUsed := s₂.slotsUsed } : State).setVm s₂.vm
theorem ip_resume (X : Stand p l e R s m sargs below meth c U locs cells slots) {g : JFrame} {mk : MethodId} {a : Array Value} {s₂ : State} {L : List Loc} {mc ms : Nat} (hW : (U.calling g mk a).WarmedH s₂.vm) (hsm : (U.calling g mk a).sameButNew ({ s₂ with vm := (U.calling g mk a).vm } : State) L mc ms) :
    Stand p l e R s m sargs below meth c (ip_after2 U s₂) (locs ++ L) (cells + mc) (slots + ms) ∧ s₂ = (ip_after2 U s₂).setFrames s₂.frames := by
  have hW' : U.WarmedH s₂.vm := hW
  obtain ⟨e2, q2, q3, q4, q5, q6⟩ := hsm
  have hcall := State.calling_eq X.here.top g mk a
  have hs2 : s₂ = (ip_after2 U s₂).setFrames s₂.frames := by
    have h1 : s₂ = ({ s₂ with vm := (U.calling g mk a).vm } : State).setVm s₂.vm := rfl
    rw [e2] at h1
    refine h1.trans ?_
    rw [hcall, State.setFrames_setFrames]
    rfl
  refine ⟨?_, hs2⟩
  have hsame : U.sameButNew ({ U with heap := s₂.heap, slotsUsed := s₂.slotsUsed } : State) L mc ms := by
    refine ⟨?_, q2, q3, q4, q5, q6⟩
    obtain ⟨g₀, hg0⟩ := Option.isSome_iff_exists.mp X.here.top
    obtain ⟨r, hr⟩ := State.topJava?_eq_some.mp hg0
    obtain ⟨t, ht, -⟩ := State.frames_cons hr
    show ({ U with heap := s₂.heap, slotsUsed := s₂.slotsUsed } : State) = { U.setFrames U.frames with heap := s₂.heap, slotsUsed := s₂.slotsUsed }
    rw [State.setFrames_self ht]
  exact ⟨X.admits, X.cas, X.clock, X.frames, X.room, X.hears, X.method, X.code, (X.here.setHeapUsed s₂.heap s₂.slotsUsed).setVm hW'.alike, X.tail, State.WarmedH.trans X.warmed hW', X.limits, X.bytes, X.same.trans (hsame.setVm s.vm)⟩
theorem ip_after2_top (X : Stand p l e R s m sargs below meth c U locs cells slots) (s₂ : State) : ∃ g₀ r, (ip_after2 U s₂).frames = .java g₀ :: r ∧ U.frames = .java g₀ :: r := by
  obtain ⟨g₀, hg0⟩ := Option.isSome_iff_exists.mp X.here.top
  obtain ⟨r, hr⟩ := State.topJava?_eq_some.mp hg0
  exact ⟨g₀, r, hr, hr⟩
/-- a callee, called: it ends, by an answer or an exception -/
theorem ip_ends {y : MethodName} {ws : List Cond} {rm : Room} {Pc : Array Value → State → Prop} {QX : Array Value → State → Outcome → State → Prop} {mc ms W9 len : Nat} {maxL : Nat}
    (hM : MetFree l y (headSpec ws rm) Pc (fun _ _ _ _ _ => True) QX) (hblind : FrameBlind Pc) (hrc : rm.cells = mc) (hrs : rm.slots = ms) (hframes : rm.frames + 1 ≤ R.frames) (hlocals : W9 + (maxL + 11) + rm.locals ≤ R.locals)
    (hws : ∀ w ∈ ws, ∀ a' U, s.WarmedH U.vm → w.before a' U = true) (hinit : ∀ a' U, s.WarmedH U.vm → (Cond.initialized y.cls).before a' U = true)
    (hcd : ∀ (a' : Array Value) (U : State) (mk : MethodId), s.WarmedH U.vm → U.methodNamed? y = some mk → ∃ (methY : Method) (cY : Code), U.vm.method? mk = some methY ∧ methY.code = some cY ∧ cY.maxLocals = maxL)
    (X : Stand p l e R s m sargs below meth c U locs cells slots) {g : JFrame} {ig : Instr} {mk : MethodId} {a : Array Value} (hg : g.method = m) (hsize : g.locals.size = c.maxLocals) (hdg : decode c.code g.pc = .ok (ig, len)) (hW : 2 * g.monitorRoom + (g.stack.map fun v => v.category).sum ≤ W9) (hn : U.methodNamed? y = some mk)
    (hc : cells + mc ≤ R.cells) (hs : slots + ms ≤ R.slots) (hP : Pc a U) :
    ∃ o s₂, Steps p.tables e below (doInvoke e (U.setTop g) [] mk a).1 s₂ ∧ s₂.status = .running ∧ Ended s₂ (.java g :: U.frames.tail) o ∧ QX a (U.calling g mk a) o s₂ := by
  have h1 : (headSpec ws rm).pre.before a U = true := atoms_intro fun w hw => hws w hw _ _ X.warmed
  have h3 : (Cond.initialized y.cls).before a U = true := hinit _ _ X.warmed
  have h4 : cells + (headSpec ws rm).room.cells ≤ R.cells := by rw [show (headSpec ws rm).room.cells = mc from hrc]; exact hc
  have h5 : slots + (headSpec ws rm).room.slots ≤ R.slots := by rw [show (headSpec ws rm).room.slots = ms from hrs]; exact hs
  have hPc : Pc a (U.calling g mk a) := hblind _ _ _ _ hP
  obtain ⟨methY, cY, hmY, hcY, hlY⟩ := hcd a U mk X.warmed hn
  obtain ⟨kY, hkY, -⟩ := className_of_methodNamed hn
  have hinitY : kY.init = .initialized := Cond.initialized_spec (findClass_of_methodNamed hn) hkY h3
  have h : At U g.method c below := by rw [hg]; exact X.here
  have hlocals9 : W9 + (maxL + 11) + (headSpec ws rm).room.locals ≤ R.locals := hlocals
  have happ : (headSpec ws rm).appliesLoose y e.platform (U.calling g mk a) = true :=
    Spec.appliesLoose_calling (g := g) h hdg hn hkY hinitY
      (X.room_calling (g := g) (R' := (headSpec ws rm).room) hsize hmY hcY hframes (by rw [hlY]; omega) h4 h5) h1
  obtain ⟨mid, hmid⟩ := h.above
  have hfr : (U.setTop g).frames = (.java g :: mid) ++ below := by rw [State.frames_setTop' g h.top, hmid]; rfl
  obtain ⟨o, s₂, hsteps, hrun, hend, hq⟩ := Steps.callFree hM p X.admits X.cas X.clock (acts := []) hfr happ hPc trivial
  rw [State.frames_setTop' g h.top] at hend
  exact ⟨o, s₂, hsteps, hrun, hend, hq⟩
/-- .. by an answer -/
theorem ip_ret_back (X : Stand p l e R s m sargs below meth c U locs cells slots) {g : JFrame} {ig : Instr} {len : Nat} {mk : MethodId} {a : Array Value} (hg : g.method = m) (hdg : decode c.code g.pc = .ok (ig, len)) {s₂ : State} {v : Option Value} {L : List Loc} {mc ms : Nat}
    (hend : Ended s₂ (.java g :: U.frames.tail) (.returned v)) (hW : (U.calling g mk a).WarmedH s₂.vm) (hsm : (U.calling g mk a).sameButNew ({ s₂ with vm := (U.calling g mk a).vm } : State) L mc ms) :
    s₂ = (ip_after2 U s₂).setTop { g with pc := g.pc + len, stack := v.toList ++ g.stack } := by
  obtain ⟨g₀, r, hr, hrU⟩ := ip_after2_top X s₂
  obtain ⟨-, hs2⟩ := ip_resume X hW hsm
  obtain ⟨c₂, i₂, len₂, hc₂, hd₂, hf₂⟩ := hend
  have hW' : U.WarmedH s₂.vm := hW
  have h : At U g.method c below := by rw [hg]; exact X.here
  have hcc : c₂ = c := by
    have h1 : s₂.code? g.method = U.code? g.method := by
      rw [State.code?_eq, State.code?_eq, hW'.alike.method?]
    exact Option.some.inj (hc₂.symm.trans (h1.trans h.code))
  subst hcc
  have hlen : len₂ = len := by rw [hdg] at hd₂; cases hd₂; rfl
  subst hlen
  refine hs2.trans ?_
  rw [hf₂, State.setTop_of_frames _ hr, hrU]
  rfl
/-- .. by an exception -/
theorem ip_thr_back (X : Stand p l e R s m sargs below meth c U locs cells slots) {g : JFrame} {mk : MethodId} {a : Array Value} {s₂ : State} {q : Addr} {L : List Loc} {mc ms : Nat}
    (hend : Ended s₂ (.java g :: U.frames.tail) (.threw q)) (hW : (U.calling g mk a).WarmedH s₂.vm) (hsm : (U.calling g mk a).sameButNew ({ s₂ with vm := (U.calling g mk a).vm } : State) L mc ms) :
    s₂ = ((ip_after2 U s₂).setTop g).pushFrame (.throwing q) := by
  obtain ⟨g₀, r, hr, hrU⟩ := ip_after2_top X s₂
  obtain ⟨-, hs2⟩ := ip_resume X hW hsm
  have hf₂ : s₂.frames = .throwing q :: .java g :: U.frames.tail := hend
  refine hs2.trans ?_
  rw [hf₂, State.pushFrame, State.frames_setTop _ hr, State.setTop_of_frames _ hr, State.setFrames_setFrames, hrU]
  rfl
end IPX1
