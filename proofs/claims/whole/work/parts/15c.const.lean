/-! what never changes: the String constants, the JDK's statics -/
/-- words that no 'keeps' keeps: declares, castable -/
def ip_xf : List Cond := [.declares ⟨"java/lang/RuntimeException", "<init>", "(Ljava/lang/String;)V"⟩, .declares ⟨"java/lang/Exception", "<init>", "(Ljava/lang/String;)V"⟩, .declares ⟨"java/lang/Throwable", "<init>", "(Ljava/lang/String;)V"⟩, .castable "java/lang/IllegalStateException" "java/lang/IllegalStateException", .castable "java/lang/IllegalArgumentException" "java/lang/IllegalArgumentException", .castable "java/lang/IndexOutOfBoundsException" "java/lang/IndexOutOfBoundsException"]
theorem ip_xf_ok : ∀ w ∈ ip_xf, w.onTables = true ∧ w.faceAtom = true := by
  intro w hw
  simp only [ip_xf, List.mem_cons, List.not_mem_nil, or_false] at hw
  rcases hw with rfl | rfl | rfl | rfl | rfl | rfl <;> exact ⟨rfl, rfl⟩
/-- a static field's place -/
def ip_Ls (C n d : String) (A : Nat → Prop) (U : State) (H : Heap) : Prop := ∃ (c : ClassId) (k : Class) (i : Nat) (f : Field) (a : Nat) (cell : Cell), U.vm.findClass C = some c ∧ U.fieldFound? C n d = some (c, k, i, f) ∧ k.statics = some a ∧ k.staticTypes[f.slot]? = some f.type ∧ f.isStatic = true ∧ H[a]? = some cell ∧ cell.vm.isStatics = true ∧ cell.cls = c ∧ f.slot < cell.slots.size ∧ ¬ A a
theorem ip_Ls.moved {C n d : String} {A : Nat → Prop} {u U : State} {H : Heap} (hvm : u.vm.Alike U.vm) (h : ip_Ls C n d A u H) : ip_Ls C n d A U H := by
  obtain ⟨c, k, i, f, a, cell, h0, h1, h2, h3, h4⟩ := h
  obtain ⟨k', hi', he⟩ := State.fieldFound?_setVm hvm h1
  exact ⟨c, k', i, f, a, cell, by rw [hvm.findClass]; exact h0, hi', by rw [he]; exact h2, by rw [he]; exact h3, h4⟩
theorem ip_Ls.kept {C n d : String} {A : Nat → Prop} {U : State} {H H1 : Heap} (h : ip_Ls C n d A U H) (hq : ∀ a : Nat, a < H.size → ¬ A a → H1[a]? = H[a]?) : ip_Ls C n d A U H1 := by
  obtain ⟨c, k, i, f, a, cell, h0, h1, h2, h3, h4, h5, h6, h7, h8, h9⟩ := h
  exact ⟨c, k, i, f, a, cell, h0, h1, h2, h3, h4, by rw [hq a (Array.getElem?_eq_some_iff.mp h5).1 h9]; exact h5, h6, h7, h8, h9⟩
theorem ip_Ls.narrow {C n d : String} {A B : Nat → Prop} {U : State} {H : Heap} (h : ip_Ls C n d A U H) (hAB : ∀ q, B q → A q) : ip_Ls C n d B U H := by
  obtain ⟨c, k, i, f, a, cell, h0, h1, h2, h3, h4, h5, h6, h7, h8, h9⟩ := h
  exact ⟨c, k, i, f, a, cell, h0, h1, h2, h3, h4, h5, h6, h7, h8, fun z => h9 (hAB a z)⟩
theorem ip_Ls.word {C n d : String} {A : Nat → Prop} {s : State} {args : Array Value} (h : ip_Ls C n d A s s.heap) : (Cond.laysStatic C n d).before args s = true := by
  obtain ⟨c, k, i, f, a, cell, h0, h1, h2, h3, h4, h5, h6, h7, h8, h9⟩ := h
  simp [Cond.before, Cond.holds, Cond.value, h0, h1, h2, h3, h4, h5, h6, h7, h8]
/-- .. of exceptions: Throwable's statics, and that an IllegalStateException is no IllegalArgumentException -/
def ip_Zt (A : Nat → Prop) (U : State) (H : Heap) : Prop := va_Zq "java/lang/Throwable" "UNASSIGNED_STACK" "[Ljava/lang/StackTraceElement;" A U H ∧ va_Zq "java/lang/Throwable" "SUPPRESSED_SENTINEL" "Ljava/util/List;" A U H ∧
  (∀ c t, U.vm.findClass "java/lang/IllegalStateException" = some c → U.vm.findClass "java/lang/IllegalArgumentException" = some t → U.vm.assignable c t = false) ∧
  ip_Ls "java/lang/Throwable" "UNASSIGNED_STACK" "[Ljava/lang/StackTraceElement;" A U H ∧ ip_Ls "java/lang/Throwable" "SUPPRESSED_SENTINEL" "Ljava/util/List;" A U H ∧ ∀ w ∈ ip_xf, ∀ args, w.before args U = true
theorem ip_Zt.moved {A : Nat → Prop} {u U : State} {H : Heap} (hvm : u.vm.Alike U.vm) (h : ip_Zt A u H) : ip_Zt A U H :=
  ⟨va_Zq.moved hvm h.1, va_Zq.moved hvm h.2.1, fun c t hc ht => by rw [hvm.assignable]; exact h.2.2.1 c t (by rw [← hvm.findClass]; exact hc) (by rw [← hvm.findClass]; exact ht), h.2.2.2.1.moved hvm, h.2.2.2.2.1.moved hvm, fun w hw args => by
    have h1 := Cond.faceAtom_setVm hvm w (ip_xf_ok w hw).2 (h.2.2.2.2.2 w hw args)
    rw [Cond.onTables_vm (A' := args) (U' := U) U.vm w (ip_xf_ok w hw).1] at h1
    exact h1⟩
theorem ip_Zt.kept {A : Nat → Prop} {U : State} {H H1 : Heap} (h : ip_Zt A U H) (hq : ∀ a : Nat, a < H.size → ¬ A a → H1[a]? = H[a]?) : ip_Zt A U H1 := ⟨h.1.kept hq, h.2.1.kept hq, h.2.2.1, h.2.2.2.1.kept hq, h.2.2.2.2.1.kept hq, h.2.2.2.2.2⟩
theorem ip_Zt.narrow {A B : Nat → Prop} {U : State} {H : Heap} (h : ip_Zt A U H) (hAB : ∀ q, B q → A q) : ip_Zt B U H := ⟨h.1.narrow hAB, h.2.1.narrow hAB, h.2.2.1, h.2.2.2.1.narrow hAB, h.2.2.2.2.1.narrow hAB, h.2.2.2.2.2⟩
def ip_Z (ρ : Nat → Nat) (A : Nat → Prop) (U : State) (H : Heap) : Prop :=
  (∀ i, i < ip_strs.length → ∃ v : Nat, va_O "java/lang/String" (ρ (ip_sa i)) A U H ∧ va_OF "java/lang/String" "coder" "B" (.int 0) (ρ (ip_sa i)) A U H ∧ va_OF "java/lang/String" "value" "[B" (.ref v) (ρ (ip_sa i)) A U H ∧ va_T .byte v (ip_strs.getD i []).length (fun j => .int (Int32.ofNat ((ip_strs.getD i []).getD j 0))) A U H) ∧
  (∀ q ∈ ip_stt, vk_R (ip_onm q.1) q.2.1 q.2.2.1 (ρ (ip_sa q.2.2.2)) U) ∧ va_Z "java/lang/String" "COMPACT_STRINGS" "Z" (.int 1) A U H ∧ va_Zq "jdk/internal/util/Preconditions" "SIOOBE_FORMATTER" "Ljava/util/function/BiFunction;" A U H ∧ ip_Zt A U H
theorem ip_Z.warm {ρ : Nat → Nat} {A : Nat → Prop} {s U : State} {H : Heap} (hW : s.WarmedH U.vm) (h : ip_Z ρ A s H) : ip_Z ρ A U H := by
  obtain ⟨h1, h2, h3, h3q⟩ := h
  refine ⟨fun i hi => ?_, fun q hq => vk_R.warm hW (h2 q hq), va_Z.moved hW.alike h3, va_Zq.moved hW.alike h3q.1, ip_Zt.moved hW.alike h3q.2⟩
  obtain ⟨v, a1, a2, a3, a4⟩ := h1 i hi
  exact ⟨v, va_O.moved hW.alike a1, va_OF.moved hW.alike a2, va_OF.moved hW.alike a3, va_T.moved hW.alike a4⟩
theorem ip_Z.same {ρ : Nat → Nat} {A : Nat → Prop} {u U : State} {H : Heap} (hv : U.vm = u.vm) (h : ip_Z ρ A u H) : ip_Z ρ A U H := by
  obtain ⟨h1, h2, h3, h3q⟩ := h
  have ha : u.vm.Alike U.vm := by rw [hv]; exact Vm.Alike.refl _
  refine ⟨fun i hi => ?_, fun q hq => vk_R.same hv (h2 q hq), va_Z.moved ha h3, va_Zq.moved ha h3q.1, ip_Zt.moved ha h3q.2⟩
  obtain ⟨v, a1, a2, a3, a4⟩ := h1 i hi
  exact ⟨v, va_O.moved ha a1, va_OF.moved ha a2, va_OF.moved ha a3, va_T.moved ha a4⟩
theorem ip_Z.kept {ρ : Nat → Nat} {A : Nat → Prop} {U : State} {H H1 : Heap} (h : ip_Z ρ A U H) (hq : ∀ a : Nat, a < H.size → ¬ A a → H1[a]? = H[a]?) : ip_Z ρ A U H1 := by
  obtain ⟨h1, h2, h3, h3q⟩ := h
  refine ⟨fun i hi => ?_, h2, h3.kept hq, h3q.1.kept hq, h3q.2.kept hq⟩
  obtain ⟨v, a1, a2, a3, a4⟩ := h1 i hi
  exact ⟨v, a1.kept hq, a2.kept hq, a3.kept hq, a4.kept hq⟩
theorem ip_Z.narrow {ρ : Nat → Nat} {A B : Nat → Prop} {U : State} {H : Heap} (h : ip_Z ρ A U H) (hAB : ∀ q, B q → A q) : ip_Z ρ B U H := by
  obtain ⟨h1, h2, h3, h3q⟩ := h
  refine ⟨fun i hi => ?_, h2, h3.narrow hAB, h3q.1.narrow hAB, h3q.2.narrow hAB⟩
  obtain ⟨v, a1, a2, a3, a4⟩ := h1 i hi
  exact ⟨v, a1.narrow hAB, a2.narrow hAB, a3.narrow hAB, a4.narrow hAB⟩
theorem ip_Z.ext {n : Nat} {ρ ρ' : Nat → Nat} {A : Nat → Prop} {U : State} {H : Heap} (h : ip_Z ρ A U H) (hr : ip_ag n ρ ρ') : ip_Z ρ' A U H := by
  obtain ⟨h1, h2, h3, h3q⟩ := h
  have e : ∀ i, ρ' (ip_sa i) = ρ (ip_sa i) := fun i => hr _ (Or.inr (by unfold ip_sa; omega))
  exact ⟨fun i hi => by rw [e]; exact h1 i hi, fun q hq => by rw [e]; exact h2 q hq, h3, h3q⟩
theorem ip_ZR {ρ : Nat → Nat} {A : Nat → Prop} {U : State} {H : Heap} (hZ : ip_Z ρ A U H) {o ix i : Nat} {tx : String} (hr : (o, ix, tx, i) ∈ ip_stt) : vk_R (ip_onm o) ix tx (ρ (ip_sa i)) U := hZ.2.1 (o, ix, tx, i) hr
section IPK
variable {p : Program} {l : Launch} {e : Env} {R : Room} {s : State} {m : MethodId} {args : Array Value} {below : List Frame} {meth : Method} {c : Code} {H : Heap} {locs : List Loc} {cells slots : Nat} {Q : State → Prop}
variable {D : va_G} {dA : Nat → ClassId} {A : Nat → Prop} {ρ : Nat → Nat} {mi pc len : Nat} {L L' : ip_Lo} {S S' : List Value} {h h' : ip_H} {ls : Array Slot} {rest : List Value}
theorem ip_ldc (hC : ip_Cx D dA mi p s m args meth c) (hZ : ip_Z ρ A s s.heap) {ix x : Nat} (hd : decode (ip_bytes mi) pc = .ok (.ldc ix, 2)) (hv : ip_cst mi ix = some (.ref x))
    (kk : W p l e R s m args below meth c H locs cells slots Q (F0 m (pc + 2) ls (.ref (ρ x) :: rest))) : W p l e R s m args below meth c H locs cells slots Q (F0 m pc ls rest) := by
  obtain ⟨hx, hb, hml, hown, hts, hK, hnm⟩ := hC
  obtain ⟨tx, i, hr, ex⟩ := ip_cstS hv
  rw [ex] at kk
  exact va_ldcS (own := ip_onm (ip_o mi)) hx hb hown (ip_ZR hZ hr) hd kk
theorem ip_ldc2_w (hC : ip_Cx D dA mi p s m args meth c) {ix : Nat} {x : Int64} (hd : decode (ip_bytes mi) pc = .ok (.ldc2_w ix, 3)) (hv : ip_cst mi ix = some (.long x))
    (kk : W p l e R s m args below meth c H locs cells slots Q (F0 m (pc + 3) ls (.long x :: rest))) : W p l e R s m args below meth c H locs cells slots Q (F0 m pc ls rest) := by
  obtain ⟨hx, hb, hml, hown, hts, hK, hnm⟩ := hC
  exact lv_ldc2 hx hb hown (hts _ (ip_cstL hv)) hd kk
end IPK
