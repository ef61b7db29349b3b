/-! a call of a method that may throw -/
section IPX6
variable {p : Program} {l : Launch} {e : Env} {R : Room} {s : State} {m : MethodId} {args : Array Value} {below : List Frame} {meth : Method} {c : Code} {D : va_G} {dA : Nat → ClassId} {A : Nat → Prop} {ρ ρ0 : Nat → Nat} {n0 : Nat} {H : Heap} {locs : List Loc} {cells slots : Nat} {ls : Array Slot} {Q : State → Prop} {mi pc n : Nat} {L : ip_Lo} {S : List Value} {h : ip_H} {b : ip_B} {post : Option Value → ip_H → Prop} {px : String → ip_H → Prop} {T : State}
/-- one of the law's methods with handlers, by its runs -/
theorem ip_metW {ci : Nat} (hS : ip_SND l D dA n) {sz : Nat} {vs : List Value} (hci : ¬ ci = 209) (hm : ip_mW ci) (hex : ∀ pc, ip_exc ci pc = none) (hw : ip_wp n ci 0 (ip_ent vs (ip_maxL ci)) [] h (ip_cost ci) post px)
    (hok : ip_entok ci (ip_ent vs (ip_maxL ci)) = true) (hln : (ip_ent vs (ip_maxL ci)).length = ip_maxL ci) (hwH : ip_wH h) :
    MetFree l (ip_y ci) (headSpec (ip_wsW ci) (ip_rm ci)) (ip_Pc D dA ρ vs h sz) (fun _ _ _ _ _ => True) (ip_QX D dA ρ h ci post px (va_A (ip_w dA ρ h) sz) (ip_cost ci).1 (ip_cost ci).2) := by
  obtain ⟨-, -, ⟨hpl, -, hown0⟩, -, -, hnoh⟩ := hm
  refine MetFree.of_bodyS (code := ip_bytes ci) (maxLocals := ip_maxL ci) (ret := ip_ret ci) hpl ?_ ?_
  · intro args s m h hn
    obtain ⟨m9, meth, c, hn9, h1, h2, h3, h4, -, h5, h6, -⟩ := Cond.codeWith_spec (atoms_spec (ws := ip_wsW ci) h _ List.mem_cons_self)
    cases hn.symm.trans hn9
    exact ⟨meth, c, h1, h2, h3, h4, h5, h6⟩
  · intro p e s m args below meth c s₁ B hml hv _
    obtain ⟨rfl, hsz, hP, hK, hD0, hZ⟩ := hv
    have hh0 : s₁.heap = s.heap := by rw [B.state]; rfl
    have hts := atoms_spec (ws := ip_wsW ci) B.pre
    have hown : s.vm.findClass (ip_own ci) = some m.cls := by rw [← hown0]; exact findClass_of_methodNamed B.named
    have hin : meth.name = (ip_y ci).name := (name_of_methodNamed B.named B.method).1
    have hxt : ip_xt ci c := by
      obtain ⟨m9, meth9, c9, hn9, h1, h2, -, -, h7, -⟩ := Cond.codeWith_spec (hts _ List.mem_cons_self)
      cases B.named.symm.trans hn9
      cases Option.some.inj (h1.symm.trans B.method)
      cases Option.some.inj (h2.symm.trans (Stand.of_body B).code)
      exact h7
    have hlen : (ip_spread vs).length ≤ ip_maxL ci := by
      have := hln
      unfold ip_ent at this
      simp at this
      omega
    have hl := lv_entry (vs.map (ip_v ρ)) (n := ip_maxL ci) (by rw [ip_spread_len]; exact hlen)
    subst hsz
    have hA : ∀ q, s.heap.size ≤ q → va_A (ip_w dA ρ h) s.heap.size q := fun q hq => Or.inr hq
    have hC : ip_Cx D dA ci p s m ((vs.map (ip_v ρ)).toArray) meth c := ⟨B.exec, B.bytes, hml, hown, fun w hw => hts w (List.mem_cons_of_mem _ hw), hK, hin, hxt⟩
    have K : W p l e (ip_rm ci) s m ((vs.map (ip_v ρ)).toArray) below meth c s.heap [] 0 0 (ip_MQX below D dA ρ h ci post px (va_A (ip_w dA ρ h) s.heap.size) ((vs.map (ip_v ρ)).toArray) s (ip_cost ci).1 (ip_cost ci).2) (entryFrame m ((vs.map (ip_v ρ)).toArray) (ip_maxL ci)) := by
      rw [lg_entry_eq]
      generalize ((lg_sl (vs.map (ip_v ρ)) ++ List.replicate (ip_maxL ci - (lg_sl (vs.map (ip_v ρ))).length) Slot.unset).toArray) = ls at hl ⊢
      refine hS ci 0 _ [] h (ip_cost ci) post px hw p e (ip_rm ci) s m _ below meth c (va_A (ip_w dA ρ h) s.heap.size) ρ ρ h.1.length s.heap [] 0 0 ls _
        hC ⟨Nat.le_refl _, Nat.le_refl _⟩ hZ hA
        ⟨ip_ent_lo hlen hl hok, hP, hD0.self, va_S.rf, hwH⟩ (fun _ _ => rfl) (fun _ => rfl) (Nat.le_refl _) (by show 0 + (ip_cost ci).1 ≤ (ip_cost ci).1; omega) (by show 0 + (ip_cost ci).2 ≤ (ip_cost ci).2; omega) (fun z => absurd z hci)
        ?_ ?_
      · intro ρ' h' H' locs' cells' slots' ls' L' pc' r ins g1 g2 g3 g4 g5 g6 g7 g8 g9 g10
        refine ip_W_mono ?_ (ip_HR_of (l := l) (e := e) (R := ip_rm ci) (s := s) (m := m) (args := (vs.map (ip_v ρ)).toArray) (below := below) (D := D) (dA := dA) (ρ := ρ) (h := h) (post := post) (A := va_A (ip_w dA ρ h) s.heap.size) B.exec B.bytes B.returns B.notSynchronized ρ' h' H' locs' cells' slots' ls' L' pc' r ins g1 g2 g3 g4 g5 g6 g7 g8 g9 g10)
        rintro t ⟨o, b1, b2, b3, b4⟩
        exact ⟨o, b1, b2, Or.inl ⟨b3, b4⟩⟩
      · intro ρ' h' H' locs' cells' slots' ls' L' S' pc' E hp hfr hZ9 hag hal hn9
        refine ⟨fun ix len hf he => ?_, fun q ce hno => ?_⟩
        · rw [hex pc'] at he; cases he
        · rw [hnoh] at hno; cases hno
    obtain ⟨t, a1, o, b1, b2, b3⟩ := K s₁ hh0 (Stand.of_body B)
    exact ⟨t, o, a1, b1, b2, b3⟩
/-- into a method, by the receiver -/
theorem ip_enterV (X : Stand p l e R s m args below meth c T locs cells slots) (hexec : p.tables.exec = Jvm.exec) {own C : String} {index : Nat} {y : MethodName}
    (hown : s.vm.findClass own = some m.cls) (hlink : (Cond.methodLink own index y).before args s = true) (hinst : (Cond.instanceMethod y).before args s = true) (hsel : (Cond.selects C y y).before args s = true)
    (hsig : ∀ mk, s.methodNamed? y = some mk → ∃ methM, s.vm.method? mk = some methM ∧ parseMethodDescriptor y.desc = some methM.sig) (hy : y.cls ≠ "java/lang/invoke/MethodHandle" ∧ y.cls ≠ "java/lang/invoke/VarHandle")
    {q : Addr} {cellB : Cell} (hcell : T.heap[q]? = some cellB) (hobj : cellB.vm.isStatics = false) (hcls : s.vm.findClass C = some cellB.cls)
    {g : JFrame} (hg : g.method = m) {argsL rest : List Value} (hlen : ∀ sig, parseMethodDescriptor y.desc = some sig → argsL.length = sig.parameters.length)
    (hstack : g.stack = argsL.reverse ++ .ref q :: rest) (hdg : decode c.code g.pc = .ok (.invokevirtual index, 3)) :
    ∃ (vm₁ : Vm) (mk : MethodId), Stand p l e R s m args below meth c (T.setVm vm₁) locs cells slots ∧ (T.setVm vm₁).methodNamed? y = some mk ∧ ∀ target, Steps p.tables e below (doInvoke e ((T.setVm vm₁).setTop { g with stack := rest }) [] mk (Value.ref q :: argsL).toArray).1 target → Steps p.tables e below (T.setTop g) target := by
  obtain ⟨mk, methM, hnamed, hmethM, hstM, habM⟩ := Cond.instanceMethod_spec hinst
  obtain ⟨methM', hmethM', hsigM⟩ := hsig mk hnamed
  cases hmethM.symm.trans hmethM'
  obtain ⟨c2, r2, m2, q1, q2, q3, q4, kP, hkP, hkPi⟩ := Cond.selects_spec hsel
  cases hcls.symm.trans q1
  cases (State.methodFound?_of_named hnamed hy).symm.trans q2
  cases hnamed.symm.trans q3
  have hselP : selectMethod e.platform s.vm cellB.cls mk = .method mk := by rw [Launch.admits_selectMethod X.admits]; exact q4
  obtain ⟨vm₁, X₁, hstep₁⟩ := X.invokevirtual hexec hown hlink hnamed hmethM hstM hkP hkPi hy (a := q) (cell := cellB) hcell
    (fun z h => by rw [h] at hobj; cases hobj) hselP hmethM habM hkP hkPi (g := g) hg (argsL := argsL) (rest := rest) (hlen _ hsigM) hstack hdg
  exact ⟨vm₁, mk, X₁, X₁.named hnamed, fun target h => hstep₁ _ fun acts => by rw [doInvoke_state]; exact h⟩
/-- into a static method -/
theorem ip_enterS (X : Stand p l e R s m args below meth c T locs cells slots) (hexec : p.tables.exec = Jvm.exec) {own : String} {index : Nat} {y : MethodName}
    (hown : s.vm.findClass own = some m.cls) (hlink : (Cond.methodLink own index y).before args s = true) (hstat : (Cond.static y).before args s = true) (hinit : (Cond.initialized y.cls).before args s = true)
    (hsig : ∃ mk methM, s.methodNamed? y = some mk ∧ s.vm.method? mk = some methM ∧ parseMethodDescriptor y.desc = some methM.sig) (hy : y.cls ≠ "java/lang/invoke/MethodHandle" ∧ y.cls ≠ "java/lang/invoke/VarHandle")
    {g : JFrame} (hg : g.method = m) {argsL rest : List Value} (hlen : ∀ sig, parseMethodDescriptor y.desc = some sig → argsL.length = sig.parameters.length)
    (hstack : g.stack = argsL.reverse ++ rest) (hdg : decode c.code g.pc = .ok (.invokestatic index, 3)) :
    ∃ (vm₁ : Vm) (mk : MethodId), Stand p l e R s m args below meth c (T.setVm vm₁) locs cells slots ∧ (T.setVm vm₁).methodNamed? y = some mk ∧ ∀ target, Steps p.tables e below (doInvoke e ((T.setVm vm₁).setTop { g with stack := rest }) [] mk argsL.toArray).1 target → Steps p.tables e below (T.setTop g) target := by
  obtain ⟨mk, methM, hnamed, hmethM, hsigM⟩ := hsig
  have hstatic : methM.isStatic = true := Cond.static_spec hnamed hmethM hstat
  obtain ⟨kP, hkP, -⟩ := className_of_methodNamed hnamed
  have hinitP : kP.init = .initialized := Cond.initialized_spec (findClass_of_methodNamed hnamed) hkP hinit
  obtain ⟨vm₁, X₁, hstep₁⟩ := X.invokestatic hexec hown hlink hnamed hmethM hstatic hkP hinitP hy (g := g) hg (argsL := argsL) (rest := rest) (hlen _ hsigM) hstack hdg
  exact ⟨vm₁, mk, X₁, X₁.named hnamed, fun target h => hstep₁ _ fun acts => by rw [doInvoke_state]; exact h⟩
set_option maxHeartbeats 1500000 in
/-- from the callee's first frame on -/
theorem ip_landed (ih : ip_SND l D dA n) (hX : ip_CTX l D dA p e R s m args below meth c A ρ ρ0 n0 H locs cells slots ls Q mi L h b post px) {ci na : Nat} {L0 : ip_Lo} {rest : List Value} (hck : ip_ckc mi h.1.length ci na L L0 S rest = true) (hbud : ip_bud ci b = true) (hnt : ip_nt ci = false) {ws : List Cond} {vs : List Value}
    (hM : MetFree l (ip_y ci) (headSpec ws (ip_rm ci)) (ip_Pc D dA ρ vs h H.size) (fun _ _ _ _ _ => True) (ip_QX D dA ρ h ci (fun r h' => ip_wp n mi (pc + 3) L (r.toList ++ rest) h' (ip_rst ci b) post px ∧ ip_sc h h') (fun E h' => (match ip_hd ci mi pc E with
          | none => px E h'
          | some none => False
          | some (some w) => ip_wp n mi w.1 (L.set w.2 none) [] h' (ip_rst ci b) post px) ∧ ip_sc h h') (va_A (ip_w dA ρ h) H.size) (ip_cost ci).1 (ip_cost ci).2))
    (hws : ∀ w ∈ ws, ∀ (a' : Array Value) (U : State), s.WarmedH U.vm → w.before a' U = true) (hinit : Cond.initialized (ip_y ci).cls ∈ ip_gw)
    (hcd : ∀ (a' : Array Value) (U : State) (mk : MethodId), s.WarmedH U.vm → U.methodNamed? (ip_y ci) = some mk → ∃ (methY : Method) (cY : Code), U.vm.method? mk = some methY ∧ methY.code = some cY ∧ cY.maxLocals = ip_maxL ci)
    (hfrm : ip_fm ci + 1 ≤ R.frames) (hlcl : 8 + (ip_maxL ci + 11) + ip_lm ci ≤ R.locals) {U : State} (hU : U.heap = H) (X₁ : Stand p l e R s m args below meth c U locs cells slots) {ig : Instr} (hdg : decode (ip_bytes mi) pc = .ok (ig, 3)) {mk : MethodId} (hn : U.methodNamed? (ip_y ci) = some mk) :
    ∃ t, Steps p.tables e below (doInvoke e (U.setTop (F0 m pc ls (rest.map (ip_v ρ)))) [] mk ((vs.map (ip_v ρ)).toArray)).1 t ∧ Q t := by
  obtain ⟨hC, hR, hZ, hA, hfr, hag, hal, hn0, hc1, hc2, hXS, hHR, hHX⟩ := id hX
  obtain ⟨hx, hb, hml, hown, hts, hK, hnm, hxt⟩ := id hC
  obtain ⟨hl, hP, hD, hS, hw0⟩ := id hfr
  obtain ⟨f1, f2, f3, f4, f5⟩ := ip_ckc_spec hck
  obtain ⟨hcs, hb1, hb2⟩ := ip_bud_spec hbud hc1 hc2
  have hdg' : decode c.code pc = .ok (ig, 3) := by rw [hb]; exact hdg
  obtain ⟨o, s₂, hst, hrun, hend, hq⟩ := ip_ends (W9 := 8) (maxL := ip_maxL ci) hM ip_blind rfl rfl hfrm hlcl hws (fun a' U hW => pay_in hts ip_gw_good _ hinit a' U hW) hcd X₁ (g := F0 m pc ls (rest.map (ip_v ρ))) (ig := ig) (len := 3) (mk := mk) (a := (vs.map (ip_v ρ)).toArray) rfl (hl.1.trans hml.symm) hdg'
    (by
      show 2 * 0 + ((rest.map (ip_v ρ)).map fun v => v.category).sum ≤ 8
      rw [ip_v_cats]; omega) hn hcs.1 hcs.2 (ip_pre hK hP hD hS hA hZ U hU X₁.warmed)
  have hsub := ip_sub_A hD hS hA
  have hS2 : ∀ (Lx : List Loc), H.size ≤ s₂.heap.size → (∀ q : Nat, q < H.size → ¬ va_A (ip_w dA ρ h) H.size q → s₂.heap[q]? = H[q]?) → (∀ z ∈ Lx, va_A (ip_w dA ρ h) H.size z.base) → va_S A s.heap s₂.heap (locs ++ Lx) := by
    intro Lx hz hk hLA
    refine ⟨Nat.le_trans hS.1 hz, fun q q1 q2 => ?_, fun q hq => ?_⟩
    · rw [hk q (Nat.lt_of_lt_of_le q1 hS.1) (fun z => q2 (hsub q z))]
      exact hS.2.1 q q1 q2
    · rcases List.mem_append.mp hq with h9 | h9
      · exact hS.2.2 q h9
      · exact hsub _ (hLA q h9)
  rcases hq with ⟨⟨⟨r, ρ', h', ho, hp, h1, h2, h3, h4, h5, h6⟩, hz, hk⟩, Lx, ⟨-, hW2, hsm⟩, hLA⟩ | ⟨q, ho, E, ce, Lx, ρ', h', hp, h1, h2, h3, h4, h5, h6, ⟨hz, hk⟩, hq1, hq2, hq3, hW2, hsm, hLA⟩
  · subst ho
    have hz' : H.size ≤ s₂.heap.size := by rw [← hU]; exact hz
    have hk' : ∀ q : Nat, q < H.size → ¬ va_A (ip_w dA ρ h) H.size q → s₂.heap[q]? = H[q]? := fun q a b => by
      have := hk q (by show q < U.heap.size; rw [hU]; exact a) b
      rw [this]
      show U.heap[q]? = _
      rw [hU]
    have e2 := ip_ret_back (g := F0 m pc ls (rest.map (ip_v ρ))) X₁ rfl hdg' hend hW2 hsm
    have X2 := (ip_resume X₁ hW2 hsm).1
    have K := ip_on_ret (H' := s₂.heap) (locs' := locs ++ Lx) ih hX hck hbud hp.1 h1 h2 h3 h4 (h5.weaken fun _ _ _ hq => hsub _ hq) (hS2 Lx hz' hk' hLA) h6 hp.2
    obtain ⟨t, a1, b1⟩ := K (ip_after2 U s₂) rfl X2
    refine ⟨t, hst.trans ?_, b1⟩
    rw [e2]
    exact a1
  · subst ho
    have hz' : H.size ≤ s₂.heap.size := by rw [← hU]; exact hz
    have hk' : ∀ q : Nat, q < H.size → ¬ va_A (ip_w dA ρ h) H.size q → s₂.heap[q]? = H[q]? := fun q a b => by
      have := hk q (by show q < U.heap.size; rw [hU]; exact a) b
      rw [this]
      show U.heap[q]? = _
      rw [hU]
    have e2 := ip_thr_back X₁ hend hW2 hsm
    have X2 := (ip_resume X₁ hW2 hsm).1
    have hrest : rest.map (ip_v ρ') = rest.map (ip_v ρ) := by
      rcases f5 with hw1 | ⟨-, hw1⟩
      · rw [h2 hw1]
      · exact ip_S_ext (ip_wfc_w hw1).2 h1
    have hlo : ip_lo mi ρ' ls (ip_maxL mi) L := by
      rcases f5 with hw1 | ⟨-, hw1⟩
      · rw [h2 hw1]; exact hl
      · exact ip_lo_ext hl (ip_wfc_w hw1).1 h1
    have hag' : ip_ag n0 ρ0 ρ' := by
      intro k hk
      rw [h1 k (hk.imp (fun z => Nat.lt_of_lt_of_le z hn0) id)]
      exact hag k hk
    have hal' : ip_al mi = false → ρ' = ρ0 := by
      intro hz
      rcases f5 with hw1 | ⟨hw0, -⟩
      · rw [h2 hw1]; exact hal hz
      · rw [hw0] at hz; cases hz
    have h5' := h5.weaken fun _ _ _ hq => hsub _ hq
    have hS' := hS2 Lx hz' hk' hLA
    have hcl : s.vm.findClass E = some ce.cls := by
      have h9 : U.vm.findClass E = some ce.cls := hq3
      rw [X₁.warmed.alike.findClass] at h9
      exact h9
    have e0 : ip_hd ci mi pc E = if ip_noh mi = true then none else some (ip_hnd mi pc E) := by
      unfold ip_hd
      rw [if_neg (by rw [hnt]; decide)]
    obtain ⟨hp1, hp2⟩ := hp
    rw [e0] at hp1
    by_cases hno : ip_noh mi = true
    · rw [if_pos hno] at hp1
      have K := (hHX ρ' h' s₂.heap (locs ++ Lx) (cells + (ip_cost ci).1) (slots + (ip_cost ci).2) ls L rest pc E hp1 ⟨hlo, h4, h5', hS', h6⟩ (hZ.ext h1) hag' hal' (Nat.le_trans hn0 h3)).2 q ce hno hcs.1 hcs.2 hq1 hq2 hcl
      obtain ⟨t, a1, b1⟩ := K (ip_after2 U s₂) rfl X2
      rw [hrest] at a1
      refine ⟨t, hst.trans ?_, b1⟩
      rw [e2]
      exact a1
    · rw [if_neg hno] at hp1
      cases hh : ip_hnd mi pc E with
      | none => rw [hh] at hp1; exact hp1.elim
      | some w =>
        rw [hh] at hp1
        obtain ⟨pre, rs, x, c1, c2, c3, c4, c5, c6, c7, c8, c9⟩ := ip_hnd_CK hh
        obtain ⟨l1, l2, hsp, m1, m2⟩ := List.map_eq_append_iff.mp (hxt.trans c1)
        obtain ⟨y, l3, rfl, m3, m4⟩ := List.map_eq_cons_iff.mp m2
        subst m3
        have hpl : e.platform.magicAccessors = ({} : Platform).magicAccessors := by rw [X₁.admits.platform]
        obtain ⟨k, hk1, hcl9⟩ := Cond.classLink_spec hown (hts _ c4) e.platform hpl
        cases hcl.symm.trans hk1
        obtain ⟨k1, k2, hk3, hk4, hasg⟩ := Cond.castable_spec (hZ.2.2.2.2.2.2.2.2.2 _ c5 args)
        cases hcl.symm.trans hk3
        cases hcl.symm.trans hk4
        obtain ⟨dk, _, _, kt, _, _, _, _, _, hkt, _, _⟩ := hcl9.here
        have hrows : ∀ z ∈ l1, ip_rowNo s e.platform m.cls pc ce.cls z := by
          rcases c6 with c6 | ⟨c6, y0, c61, c62, c63⟩
          · rw [c6] at m1
            rw [List.map_eq_nil_iff.mp m1]
            intro z hz
            cases hz
          · subst c6
            rw [c61] at m1
            obtain ⟨z0, l4, rfl, m5, m6⟩ := List.map_eq_cons_iff.mp m1
            rw [List.map_eq_nil_iff.mp m6]
            intro z hz
            have hz0 : z = z0 := by simpa using hz
            subst hz0
            subst m5
            obtain ⟨kA, hkA, hclA⟩ := Cond.classLink_spec hown (hts _ c63) e.platform hpl
            exact Or.inr ⟨c62, kA, hclA, hZ.2.2.2.2.2.2.1 _ _ hcl hkA⟩
        obtain ⟨vm', X3, st3⟩ := ip_caught X2 (g := F0 m pc ls (rest.map (ip_v ρ))) rfl (a := q) (cell := ce) hq1 (fun z hz => by rw [hq2] at hz; cases hz) ⟨kt, hkt⟩ l1 hsp hrows (by simp only [covers]; simpa using c2) c3 hcl9 hasg
        have K : W p l e R s m args below meth c s₂.heap (locs ++ Lx) (cells + (ip_cost ci).1) (slots + (ip_cost ci).2) Q (F0 m y.handlerPc ls [.ref q]) := by
          rcases c7 with ⟨d1, d2⟩ | ⟨k4, d1, d2, d3⟩
          · refine lv_astore (lv := ip_as ρ' L) hx hb (ip_dec d1).1 (ip_lo_has hlo) c8 rfl (fun ls' hl' => ?_)
            have hlo2 := ip_lo_drop (v := .ref q) hlo rfl hl' c9
            have K2 := ih mi w.1 (L.set w.2 none) [] h' (ip_rst ci b) post px hp1 p e R s m args below meth c A ρ' ρ0 n0 s₂.heap (locs ++ Lx) _ _ ls' Q hC hR (hZ.ext h1) hA ⟨hlo2, h4, h5', hS', h6⟩ hag' hal' (Nat.le_trans hn0 h3) hb1 hb2 (fun z => (hXS z).to (h1 _ (Or.inr (Nat.le_refl _))) hp2) hHR hHX
            rw [d2] at K2
            exact K2
          · refine lv_astore_n (lv := ip_as ρ' L) hx hb (ip_dec d1).1 d2 (ip_lo_has hlo) c8 rfl (fun ls' hl' => ?_)
            have hlo2 := ip_lo_drop (v := .ref q) hlo rfl hl' c9
            have K2 := ih mi w.1 (L.set w.2 none) [] h' (ip_rst ci b) post px hp1 p e R s m args below meth c A ρ' ρ0 n0 s₂.heap (locs ++ Lx) _ _ ls' Q hC hR (hZ.ext h1) hA ⟨hlo2, h4, h5', hS', h6⟩ hag' hal' (Nat.le_trans hn0 h3) hb1 hb2 (fun z => (hXS z).to (h1 _ (Or.inr (Nat.le_refl _))) hp2) hHR hHX
            rw [d3] at K2
            exact K2
        obtain ⟨t, a1, b1⟩ := K ((ip_after2 U s₂).setVm vm') rfl X3
        refine ⟨t, hst.trans ?_, b1⟩
        rw [e2]
        exact st3 t a1
theorem ip_goodwsW {ci : Nat} (hm : ip_mW ci) : GoodIn ip_gw (ip_wsW ci) := by
  intro w hw
  rcases List.mem_cons.mp hw with rfl | hw
  · exact ip_gw_good _ hm.1
  · exact ip_gw_good w hw
set_option maxRecDepth 100000 in
theorem ip_ctnt : ∀ q ∈ ip_cals, ip_kind q.2.2.1 = 1 → ip_nt q.2.2.1 = true := by decide +kernel
set_option maxHeartbeats 1500000 in
theorem ip_EH_ok (hTH : ip_TH l D dA) : ip_EH l D dA := by
  intro n ih mi pc len ins L S h b post px q hf hx hnt hw p e R s m args below meth c A ρ ρ0 n0 H locs cells slots ls Q hX
  obtain ⟨hd, hln⟩ := ip_dec hf
  have hck := ip_all ip_callOK hf
  have hkd := ip_all ip_kindOK hf
  obtain ⟨hC, hR, hZ, hA, hfr, hag, hal, hn0, hc1, hc2, hXS, hHR, hHX⟩ := id hX
  obtain ⟨hx0, hb, hml, hown, hts, hK, hnm⟩ := id hC
  obtain ⟨hl, hP, hD, hS, hw0⟩ := id hfr
  replace hw := ip_wp_sc n _ _ _ _ _ _ _ _ hw0.1 hw
  have def1 : ip_ex0 mi pc ins L S h b = some (.inr (.inl q)) → False := fun hs => by
    obtain ⟨_, _, _, _, h9, -⟩ := ip_ex0_nx hs
    cases h9
  have rooms : ∀ {ix ci na : Nat}, ip_call mi ix = some (ci, na) → ip_rchk mi ix = true → ip_fm ci + 1 ≤ R.frames ∧ 8 + (ip_maxL ci + 11) + ip_lm ci ≤ R.locals := by
    intro ix ci na hcall hr
    unfold ip_rchk at hr
    rw [hcall] at hr
    simp only [Bool.and_eq_true, decide_eq_true_eq] at hr
    exact ⟨Nat.le_trans hr.1 hR.1, Nat.le_trans hr.2 hR.2⟩
  have hcdP : ∀ {ci : Nat}, ip_mOK ci → ∀ (a' : Array Value) (U : State) (mk : MethodId), s.WarmedH U.vm → U.methodNamed? (ip_y ci) = some mk → ∃ (methY : Method) (cY : Code), U.vm.method? mk = some methY ∧ methY.code = some cY ∧ cY.maxLocals = ip_maxL ci := by
    intro ci hm a' U mk hW hn
    obtain ⟨me, co, h1, h2, h3, h4, -⟩ := Cond.code_spec hn (pay_in hts (ip_goodws hm) _ List.mem_cons_self a' U hW)
    exact ⟨me, co, h1, h2, h4⟩
  have hcdW : ∀ {ci : Nat}, ip_mW ci → ∀ (a' : Array Value) (U : State) (mk : MethodId), s.WarmedH U.vm → U.methodNamed? (ip_y ci) = some mk → ∃ (methY : Method) (cY : Code), U.vm.method? mk = some methY ∧ methY.code = some cY ∧ cY.maxLocals = ip_maxL ci := by
    intro ci hm a' U mk hW hn
    obtain ⟨m9, me, co, hn9, h1, h2, h3, h4, -⟩ := Cond.codeWith_spec (pay_in hts (ip_goodwsW hm) _ List.mem_cons_self a' U hW)
    cases hn.symm.trans hn9
    exact ⟨me, co, h1, h2, h4⟩
  cases ins
  case invokevirtual ix =>
    have hl3 : len = 3 := by simpa [ip_okl] using hln
    subst hl3
    simp only [ip_ex] at hx
    split at hx
    · (repeat' split at hx) <;> cases hx
    · (repeat' split at hx) <;> cases hx
    · split at hx
      · rename_i ci na hcall
        split at hx
        · rename_i k rest hdrop
          split at hx
          · rename_i hk
            obtain ⟨rfl, g1, g2⟩ := ip_inv_spec hx
            obtain ⟨f1, f2, f3, f4, f5⟩ := ip_ckc_spec g1
            simp only [ip_kchk, hcall, beq_iff_eq] at hkd
            simp only [ip_cchk, Bool.and_eq_true] at hck
            obtain ⟨r1, r2⟩ := rooms hcall hck.1
            obtain ⟨lk1, lk2⟩ := ip_linkOK hcall
            rcases ip_calX _ (ip_lk2_mem hcall) hnt with ⟨hok, hxs⟩ | hwr
            · have hm := ip_okmA ci hok
              obtain ⟨m1, m2, ⟨m3, m4, m5⟩, m6, m7, m8⟩ := id hm
              obtain ⟨i1, i2, N, U9, i3⟩ := m8 hkd
              obtain ⟨nf, hkk⟩ := ip_isO_spec hk
              have hM := ip_metX hTH ih (sz := H.size) (ρ := ρ) (ip_callne hcall) hxs hm hw f3 f4 hw0
              intro T hT X
              obtain ⟨cellB, hcB, hoB, hclB⟩ := va_recv hK hP i3 (ip_w_get (dA := dA) (ρ := ρ) hkk)
              obtain ⟨vm₁, mk, X₁, hn, st⟩ := ip_enterV X hx0 (C := (ip_y ci).cls) hown (hts _ lk1) (hts _ i1) (hts _ i2) (fun mk hn => by
                  obtain ⟨me, co, h1, -, -, -, -, -, -, h8⟩ := Cond.code_spec hn (hts _ m1)
                  exact ⟨me, h1, h8⟩) m4 (q := ρ k) (by rw [hT]; exact hcB) hoB hclB (g := F0 m pc ls (S.map (ip_v ρ))) rfl (argsL := ((S.take na).reverse).map (ip_v ρ)) (rest := rest.map (ip_v ρ)) (fun sig hsg => by
                  rw [hsg] at lk2
                  rw [List.length_map, List.length_reverse, List.length_take]
                  have h9 : sig.parameters.length = na := Option.some.inj lk2
                  rw [h9]
                  omega) (ip_stk hdrop) (by rw [hb]; exact hd)
              obtain ⟨t, a1, b1⟩ := ip_landed (vs := .ref k :: (S.take na).reverse) ih hX g1 g2 hnt hM (pay_in hts (ip_goodws hm)) m2 (hcdP hm) r1 r2 (U := T.setVm vm₁) hT X₁ hd hn
              exact ⟨t, st t a1, b1⟩
            · have := (ip_wrsA ci hwr).2.2.2.2.1
              rw [hkd] at this
              cases this
          · cases hx
        · cases hx
      · cases hx
  case invokespecial ix =>
    have hl3 : len = 3 := by simpa [ip_okl] using hln
    subst hl3
    simp only [ip_ex] at hx
    split at hx
    · (repeat' split at hx) <;> cases hx
    · split at hx
      · rename_i ci na hcall
        split at hx
        · rename_i k rest hdrop
          obtain ⟨rfl, g1, g2⟩ := ip_inv_spec hx
          simp only [ip_kchk, hcall, beq_iff_eq] at hkd
          have := ip_ctnt _ (ip_lk2_mem hcall) hkd
          dsimp only at this hnt
          rw [this] at hnt
          cases hnt
        · cases hx
      · cases hx
  case invokestatic ix =>
    have hl3 : len = 3 := by simpa [ip_okl] using hln
    subst hl3
    simp only [ip_ex] at hx
    split at hx
    · split at hx
      · unfold ip_copy at hx
        split at hx <;> cases hx
      · cases hx
    · split at hx
      · rename_i ci na hcall
        obtain ⟨rfl, g1, g2⟩ := ip_inv_spec hx
        obtain ⟨f1, f2, f3, f4, f5⟩ := ip_ckc_spec g1
        simp only [ip_kchk, hcall, beq_iff_eq] at hkd
        simp only [ip_cchk, Bool.and_eq_true] at hck
        obtain ⟨r1, r2⟩ := rooms hcall hck.1
        obtain ⟨lk1, lk2⟩ := ip_linkOK hcall
        have hlen9 : ∀ sig, parseMethodDescriptor (ip_y ci).desc = some sig → (((S.take na).reverse).map (ip_v ρ)).length = sig.parameters.length := fun sig hsg => by
          rw [hsg] at lk2
          rw [List.length_map, List.length_reverse, List.length_take]
          have h9 : sig.parameters.length = na := Option.some.inj lk2
          rw [h9]
          omega
        intro T hT X
        rcases ip_calX _ (ip_lk2_mem hcall) hnt with ⟨hok, hxs⟩ | hwr
        · have hm := ip_okmA ci hok
          obtain ⟨m1, m2, ⟨m3, m4, m5⟩, m6, m7, m8⟩ := id hm
          have hM := ip_metX hTH ih (sz := H.size) (ρ := ρ) (ip_callne hcall) hxs hm hw f3 f4 hw0
          obtain ⟨mk0, hnamed0⟩ := Cond.code_named (hts _ m1)
          obtain ⟨vm₁, mk, X₁, hn, st⟩ := ip_enterS X hx0 hown (hts _ lk1) (hts _ (m6 hkd)) (hts _ m2) (by
              obtain ⟨me, co, h1, -, -, -, -, -, -, h8⟩ := Cond.code_spec hnamed0 (hts _ m1)
              exact ⟨mk0, me, hnamed0, h1, h8⟩) m4 (g := F0 m pc ls (S.map (ip_v ρ))) rfl (argsL := ((S.take na).reverse).map (ip_v ρ)) (rest := (S.drop na).map (ip_v ρ)) hlen9 ip_stkS (by rw [hb]; exact hd)
          obtain ⟨t, a1, b1⟩ := ip_landed (vs := (S.take na).reverse) ih hX g1 g2 hnt hM (pay_in hts (ip_goodws hm)) m2 (hcdP hm) r1 r2 (U := T.setVm vm₁) hT X₁ hd hn
          exact ⟨t, st t a1, b1⟩
        · have hm := ip_wrsA ci hwr
          obtain ⟨m1, m2, ⟨m3, m4, m5⟩, m6, m7, m8⟩ := id hm
          have hex : ∀ pc, ip_exc ci pc = none := by
            intro pc9
            cases hE : ip_exc ci pc9 with
            | none => rfl
            | some E => exact absurd rfl (ip_excs_wr ci hwr _ (ip_lk2_mem hE))
          have hM := ip_metW ih (sz := H.size) (ρ := ρ) (ip_callne hcall) hm hex hw f3 f4 hw0
          obtain ⟨vm₁, mk, X₁, hn, st⟩ := ip_enterS X hx0 hown (hts _ lk1) (hts _ m6) (hts _ m2) (by
              obtain ⟨m9, me, co, hn9, h1, -, -, -, -, -, -, h8⟩ := Cond.codeWith_spec (hts _ m1)
              exact ⟨m9, me, hn9, h1, h8⟩) m4 (g := F0 m pc ls (S.map (ip_v ρ))) rfl (argsL := ((S.take na).reverse).map (ip_v ρ)) (rest := (S.drop na).map (ip_v ρ)) hlen9 ip_stkS (by rw [hb]; exact hd)
          obtain ⟨t, a1, b1⟩ := ip_landed (vs := (S.take na).reverse) ih hX g1 g2 hnt hM (pay_in hts (ip_goodwsW hm)) m2 (hcdW hm) r1 r2 (U := T.setVm vm₁) hT X₁ hd hn
          exact ⟨t, st t a1, b1⟩
      · cases hx
  case new ix =>
    simp only [ip_ex] at hx
    (repeat' split at hx) <;> cases hx
  case newarray t =>
    simp only [ip_ex] at hx
    (repeat' split at hx) <;> cases hx
  case ireturn =>
    simp only [ip_ex] at hx
    (repeat' split at hx) <;> cases hx
  case lreturn =>
    simp only [ip_ex] at hx
    (repeat' split at hx) <;> cases hx
  case areturn =>
    simp only [ip_ex] at hx
    (repeat' split at hx) <;> cases hx
  case return_ =>
    simp only [ip_ex] at hx
    (repeat' split at hx) <;> cases hx
  case iaload =>
    simp only [ip_ex] at hx
    split at hx
    · (repeat' split at hx) <;> cases hx
    · exact (def1 hx).elim
  case arraylength =>
    simp only [ip_ex] at hx
    split at hx
    · (repeat' split at hx) <;> cases hx
    · exact (def1 hx).elim
  all_goals exact (def1 hx).elim
/-- every run of the pure machine is a run of the real one -/
theorem ip_sound (hl : l.stackTraces = false) : ∀ n, ip_SND l D dA n := ip_sound_open (ip_EH_ok (ip_TH_ok hl)) (ip_DH_ok l D dA)
end IPX6
