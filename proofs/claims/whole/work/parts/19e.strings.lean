/-! String.length and String.charAt on the constants (the JDK's own code as the Statement has it) -/
section IPSTR
/-- a method that only looks: its answer, the heap as it was -/
def ip_QH (r : Option Value) : Array Value → State → Outcome → State → Prop := fun _ st o t => o = .returned r ∧ t.heap = st.heap
abbrev sy_pre : MethodName := ⟨"jdk/internal/util/Preconditions", "checkIndex", "(IILjava/util/function/BiFunction;)I"⟩
abbrev sy_chk : MethodName := ⟨"java/lang/String", "checkIndex", "(II)V"⟩
abbrev sy_lat : MethodName := ⟨"java/lang/StringLatin1", "charAt", "([BI)C"⟩
abbrev sy_isl : MethodName := ⟨"java/lang/String", "isLatin1", "()Z"⟩
abbrev sy_cod : MethodName := ⟨"java/lang/String", "coder", "()B"⟩
abbrev sy_len : MethodName := ⟨"java/lang/String", "length", "()I"⟩
abbrev sy_cha : MethodName := ⟨"java/lang/String", "charAt", "(I)C"⟩
abbrev sw (y : MethodName) (cc : ByteArray) (n : Nat) (r : Option FieldType) : List Cond := Cond.code y cc n r :: ip_gw
theorem sd_pre_0 : decode prog_24_method_11_code 0 = .ok (.iload_n 0, 1) := by decide +kernel
theorem sd_pre_1 : decode prog_24_method_11_code 1 = .ok (.ifCond .lt 8, 3) := by decide +kernel
theorem sd_pre_4 : decode prog_24_method_11_code 4 = .ok (.iload_n 0, 1) := by decide +kernel
theorem sd_pre_5 : decode prog_24_method_11_code 5 = .ok (.iload_n 1, 1) := by decide +kernel
theorem sd_pre_6 : decode prog_24_method_11_code 6 = .ok (.if_icmp .lt 10, 3) := by decide +kernel
theorem sd_pre_16 : decode prog_24_method_11_code 16 = .ok (.iload_n 0, 1) := by decide +kernel
theorem sd_pre_17 : decode prog_24_method_11_code 17 = .ok (.ireturn, 1) := by decide +kernel
theorem sd_chk_0 : decode prog_19_method_155_code 0 = .ok (.iload_n 0, 1) := by decide +kernel
theorem sd_chk_1 : decode prog_19_method_155_code 1 = .ok (.iload_n 1, 1) := by decide +kernel
theorem sd_chk_2 : decode prog_19_method_155_code 2 = .ok (.getstatic 1053, 3) := by decide +kernel
theorem sd_chk_5 : decode prog_19_method_155_code 5 = .ok (.invokestatic 1059, 3) := by decide +kernel
theorem sd_chk_8 : decode prog_19_method_155_code 8 = .ok (.pop, 1) := by decide +kernel
theorem sd_chk_9 : decode prog_19_method_155_code 9 = .ok (.return_, 1) := by decide +kernel
theorem sd_lat_0 : decode prog_20_method_2_code 0 = .ok (.iload_n 1, 1) := by decide +kernel
theorem sd_lat_1 : decode prog_20_method_2_code 1 = .ok (.aload_n 0, 1) := by decide +kernel
theorem sd_lat_2 : decode prog_20_method_2_code 2 = .ok (.arraylength, 1) := by decide +kernel
theorem sd_lat_3 : decode prog_20_method_2_code 3 = .ok (.invokestatic 9, 3) := by decide +kernel
theorem sd_lat_6 : decode prog_20_method_2_code 6 = .ok (.aload_n 0, 1) := by decide +kernel
theorem sd_lat_7 : decode prog_20_method_2_code 7 = .ok (.iload_n 1, 1) := by decide +kernel
theorem sd_lat_8 : decode prog_20_method_2_code 8 = .ok (.baload, 1) := by decide +kernel
theorem sd_lat_9 : decode prog_20_method_2_code 9 = .ok (.sipush 255, 3) := by decide +kernel
theorem sd_lat_12 : decode prog_20_method_2_code 12 = .ok (.iand, 1) := by decide +kernel
theorem sd_lat_13 : decode prog_20_method_2_code 13 = .ok (.i2c, 1) := by decide +kernel
theorem sd_lat_14 : decode prog_20_method_2_code 14 = .ok (.ireturn, 1) := by decide +kernel
theorem sd_isl_0 : decode prog_19_method_154_code 0 = .ok (.getstatic 38, 3) := by decide +kernel
theorem sd_isl_3 : decode prog_19_method_154_code 3 = .ok (.ifCond .eq 14, 3) := by decide +kernel
theorem sd_isl_6 : decode prog_19_method_154_code 6 = .ok (.aload_n 0, 1) := by decide +kernel
theorem sd_isl_7 : decode prog_19_method_154_code 7 = .ok (.getfield 15, 3) := by decide +kernel
theorem sd_isl_10 : decode prog_19_method_154_code 10 = .ok (.ifCond .ne 7, 3) := by decide +kernel
theorem sd_isl_13 : decode prog_19_method_154_code 13 = .ok (.iconst 1, 1) := by decide +kernel
theorem sd_isl_14 : decode prog_19_method_154_code 14 = .ok (.goto 4, 3) := by decide +kernel
theorem sd_isl_18 : decode prog_19_method_154_code 18 = .ok (.ireturn, 1) := by decide +kernel
theorem sd_cod_0 : decode prog_19_method_152_code 0 = .ok (.getstatic 38, 3) := by decide +kernel
theorem sd_cod_3 : decode prog_19_method_152_code 3 = .ok (.ifCond .eq 10, 3) := by decide +kernel
theorem sd_cod_6 : decode prog_19_method_152_code 6 = .ok (.aload_n 0, 1) := by decide +kernel
theorem sd_cod_7 : decode prog_19_method_152_code 7 = .ok (.getfield 15, 3) := by decide +kernel
theorem sd_cod_10 : decode prog_19_method_152_code 10 = .ok (.goto 4, 3) := by decide +kernel
theorem sd_cod_14 : decode prog_19_method_152_code 14 = .ok (.ireturn, 1) := by decide +kernel
theorem sd_len_0 : decode prog_19_method_54_code 0 = .ok (.aload_n 0, 1) := by decide +kernel
theorem sd_len_1 : decode prog_19_method_54_code 1 = .ok (.getfield 9, 3) := by decide +kernel
theorem sd_len_4 : decode prog_19_method_54_code 4 = .ok (.arraylength, 1) := by decide +kernel
theorem sd_len_5 : decode prog_19_method_54_code 5 = .ok (.aload_n 0, 1) := by decide +kernel
theorem sd_len_6 : decode prog_19_method_54_code 6 = .ok (.invokevirtual 335, 3) := by decide +kernel
theorem sd_len_9 : decode prog_19_method_54_code 9 = .ok (.ishr, 1) := by decide +kernel
theorem sd_len_10 : decode prog_19_method_54_code 10 = .ok (.ireturn, 1) := by decide +kernel
theorem sd_cha_0 : decode prog_19_method_56_code 0 = .ok (.aload_n 0, 1) := by decide +kernel
theorem sd_cha_1 : decode prog_19_method_56_code 1 = .ok (.invokevirtual 492, 3) := by decide +kernel
theorem sd_cha_4 : decode prog_19_method_56_code 4 = .ok (.ifCond .eq 12, 3) := by decide +kernel
theorem sd_cha_7 : decode prog_19_method_56_code 7 = .ok (.aload_n 0, 1) := by decide +kernel
theorem sd_cha_8 : decode prog_19_method_56_code 8 = .ok (.getfield 9, 3) := by decide +kernel
theorem sd_cha_11 : decode prog_19_method_56_code 11 = .ok (.iload_n 1, 1) := by decide +kernel
theorem sd_cha_12 : decode prog_19_method_56_code 12 = .ok (.invokestatic 495, 3) := by decide +kernel
theorem sd_cha_15 : decode prog_19_method_56_code 15 = .ok (.ireturn, 1) := by decide +kernel
section
variable {p : Program} {l : Launch} {e : Env} {R : Room} {s : State} {m : MethodId} {args : Array Value} {below : List Frame} {meth : Method} {c : Code} {H : Heap} {locs : List Loc} {cells slots : Nat} {Q : State → Prop}
theorem sC_B {own : String} {ix : Nat} {y : MethodName} {cc : ByteArray} {maxL : Nat} {ret : Option FieldType} {rm : Room} {n : Nat} (hts : ∀ w ∈ ip_gw, w.before args s = true) (hcode : Cond.code y cc maxL ret ∈ ip_gw) (hini : Cond.initialized y.cls ∈ ip_gw) (hlink : Cond.methodLink own ix y ∈ ip_gw)
    (hd : (y.cls ≠ "java/lang/invoke/MethodHandle" ∧ y.cls ≠ "java/lang/invoke/VarHandle") ∧ (parseMethodDescriptor y.desc).map (fun d => d.parameters.length) = some n) (hR : rm.frames + 1 ≤ R.frames ∧ 8 + (maxL + 11) + rm.locals ≤ R.locals) (hrc : rm.cells = 0) (hrs : rm.slots = 0) :
    CallB R s args own ix y cc maxL ret (sw y cc maxL ret) rm 0 0 n := by
  refine ⟨hrc, hrs, hR.1, hR.2, pay_in hts (fun w hw => ?_), List.mem_cons_self, hts _ hcode, hts _ hini, hd.1, fun sig h => ?_, hts _ hlink⟩
  · rcases List.mem_cons.mp hw with rfl | hw
    · exact ip_gw_good _ hcode
    · exact ip_gw_good w hw
  · have h2 := hd.2
    rw [h] at h2
    exact (Option.some.inj h2).symm
/-- behind a call that only looked -/
theorem sC_after {r : Option Value} {a : Array Value} {pc : Nat} {ls : Array Slot} {st0 rest : List Value} (hr : va_Run p l e R s m args below meth c H locs cells slots 0 0 (F0 m pc ls st0) rest (ip_QH r a) (fun _ => False))
    (kk : W p l e R s m args below meth c H locs cells slots Q (F0 m (pc + 3) ls (r.toList ++ rest))) : W p l e R s m args below meth c H locs cells slots Q (F0 m pc ls st0) := by
  intro T hT X
  obtain ⟨v, st₀, t, T', L, h0, X', hL, e1, e2, ⟨hv, hh⟩, st⟩ := hr T hT X
  have hL0 : L = [] := by
    cases L with
    | nil => rfl
    | cons q L => exact (hL q List.mem_cons_self).elim
  subst hL0
  injection hv with hv
  subst hv
  rw [List.append_nil] at X'
  obtain ⟨t2, a1, b1⟩ := kk T' (by rw [e1, hh, h0]) X'
  exact ⟨t2, st t2 a1, b1⟩
end
set_option maxHeartbeats 4000000 in
set_option maxRecDepth 100000 in
theorem sM_pre (l : Launch) (i n : Int32) (f : Value) (hf : f.category = 1) (h0 : ¬ i < 0) (h1 : i < n) : Met l sy_pre (sw sy_pre prog_24_method_11_code 3 (some .int)) { frames := 0, cells := 0, slots := 0, locals := 0 } (va_Pc [.int i, .int n, f] (fun _ => True)) (ip_QH (some (.int i))) 0 0 (fun _ => False) := by
  refine Met.ofW (cc := prog_24_method_11_code) (maxL := 3) (ret := some .int) (by decide) rfl ?_
  intro p e s m args below meth c s₁ B hml hv
  obtain ⟨rfl, -⟩ := hv
  have hx := B.exec
  have hb := B.bytes
  have hr := B.returns
  have hlocks := B.notSynchronized
  have hlen : (lg_sl ([.int i, .int n, f] : List Value)).length ≤ 3 := by
    cases f <;> first | exact Nat.le_of_ble_eq_true rfl | exact absurd hf (by simp [Value.category])
  have hl := lv_entry ([.int i, .int n, f]) (n := 3) hlen
  rw [lg_entry_eq]
  generalize (lg_sl ([.int i, .int n, f]) ++ List.replicate (3 - (lg_sl ([.int i, .int n, f])).length) Slot.unset).toArray = ls at hl ⊢
  have hl : lv_has ls 3 [(0, .int i), (1, .int n), (2, f)] := hl
  refine lv_iload_n hx hb sd_pre_0 rfl (lv_at hl 0 rfl) ?_
  refine lv_if_lt (tgt := 9) hx hb sd_pre_1 (by decide) (fun q => absurd q h0) (fun _ => ?_)
  refine lv_iload_n hx hb sd_pre_4 rfl (lv_at hl 0 rfl) ?_
  refine lv_iload_n hx hb sd_pre_5 rfl (lv_at hl 1 rfl) ?_
  refine lv_icmp_lt (tgt := 16) hx hb sd_pre_6 (by decide) (fun _ => ?_) (fun q => absurd h1 q)
  refine lv_iload_n hx hb sd_pre_16 rfl (lv_at hl 0 rfl) ?_
  exact W.iret hx hb hr (fun t ht hW => ⟨rfl, ht⟩) (fun q hq => by cases hq) sd_pre_17 hlocks
/-- what these methods look at: one string's cells, the JDK's statics -/
def sZ (a v : Nat) (bs : List Nat) (U : State) : Prop := va_O "java/lang/String" a (fun _ => False) U U.heap ∧ va_OF "java/lang/String" "coder" "B" (.int 0) a (fun _ => False) U U.heap ∧ va_OF "java/lang/String" "value" "[B" (.ref v) a (fun _ => False) U U.heap ∧ va_T .byte v bs.length (fun j => .int (Int32.ofNat (bs.getD j 0))) (fun _ => False) U U.heap ∧
  va_Z "java/lang/String" "COMPACT_STRINGS" "Z" (.int 1) (fun _ => False) U U.heap ∧ va_Zq "jdk/internal/util/Preconditions" "SIOOBE_FORMATTER" "Ljava/util/function/BiFunction;" (fun _ => False) U U.heap
theorem sZ.moved {a v : Nat} {bs : List Nat} {u U : State} (hvm : u.vm.Alike U.vm) (hh : U.heap = u.heap) (h : sZ a v bs u) : sZ a v bs U := by
  obtain ⟨h1, h2, h3, h4, h5, h6⟩ := h
  unfold sZ
  rw [hh]
  exact ⟨va_O.moved hvm h1, va_OF.moved hvm h2, va_OF.moved hvm h3, va_T.moved hvm h4, va_Z.moved hvm h5, va_Zq.moved hvm h6⟩
theorem sZ_blind {a v : Nat} {bs : List Nat} {av : List Value} : FrameBlind (va_Pc av (sZ a v bs)) := by
  intro x U g mk q
  exact ⟨q.1, sZ.moved (u := U) (Vm.Alike.refl U.vm) rfl q.2⟩
theorem sZ_pre {a v : Nat} {bs : List Nat} {av : List Value} {s : State} (h : sZ a v bs s) : ∀ U : State, U.heap = s.heap → s.WarmedH U.vm → va_Pc av (sZ a v bs) av.toArray U := fun U hU hW => ⟨rfl, sZ.moved hW.alike hU h⟩
set_option maxHeartbeats 4000000 in
set_option maxRecDepth 100000 in
theorem sM_chk (l : Launch) (i n : Int32) (a v : Nat) (bs : List Nat) (h0 : ¬ i < 0) (h1 : i < n) : Met l sy_chk (sw sy_chk prog_19_method_155_code 2 none) { frames := 1, cells := 0, slots := 0, locals := 22 } (va_Pc [.int i, .int n] (sZ a v bs)) (ip_QH none) 0 0 (fun _ => False) := by
  refine Met.ofW (cc := prog_19_method_155_code) (maxL := 2) (ret := none) (by decide) rfl ?_
  intro p e s m args below meth c s₁ B hml hv
  obtain ⟨rfl, hZ⟩ := hv
  have hx := B.exec
  have hb := B.bytes
  have hr := B.returns
  have hlocks := B.notSynchronized
  have hts0 := atoms_spec (ws := sw sy_chk prog_19_method_155_code 2 none) B.pre
  have hts : ∀ w ∈ ip_gw, w.before _ s = true := fun w hw => hts0 w (List.mem_cons_of_mem _ hw)
  have hown : s.vm.findClass "java/lang/String" = some m.cls := findClass_of_methodNamed B.named
  have hl := lv_entry ([.int i, .int n]) (n := 2) (Nat.le_of_ble_eq_true rfl)
  rw [lg_entry_eq]
  generalize (lg_sl ([.int i, .int n]) ++ List.replicate (2 - (lg_sl ([.int i, .int n])).length) Slot.unset).toArray = ls at hl ⊢
  have hl : lv_has ls 2 [(0, .int i), (1, .int n)] := hl
  refine lv_iload_n hx hb sd_chk_0 rfl (lv_at hl 0 rfl) ?_
  refine lv_iload_n hx hb sd_chk_1 rfl (lv_at hl 1 rfl) ?_
  have go : ∀ f : Value, f.category = 1 → va_Z "jdk/internal/util/Preconditions" "SIOOBE_FORMATTER" "Ljava/util/function/BiFunction;" f (fun _ => False) s s.heap → W p l e (headSpec (sw sy_chk prog_19_method_155_code 2 none) { frames := 1, cells := 0, slots := 0, locals := 22 }).room s m (([.int i, .int n] : List Value).toArray) below meth c s.heap [] 0 0 (MQ below (ip_QH none) (([.int i, .int n] : List Value).toArray) s 0 0 (fun _ => False)) (F0 m 2 ls [.int n, .int i]) := by
    intro f hf hz
    refine va_gets (ref := "jdk/internal/util/Preconditions") hx hb hz va_S.rf hown (hts _ (ip_gw_t (i := 237) (by decide +kernel) (by decide +kernel))) (fun _ h9 => h9) sd_chk_2 ?_
    refine sC_after (va_runS (As := [.int i, .int n, f]) (rest := []) ⟨hx, hb, hml, hown, hts⟩ (sM_pre l i n f hf h0 h1) ⟨sC_B (n := 3) hts (ip_gw_t (i := 241) rfl (by decide +kernel)) (ip_gw_t (i := 11) (by decide +kernel) (by decide +kernel)) (ip_gw_t (i := 239) (by decide +kernel) (by decide +kernel)) (by decide +kernel) ⟨Nat.le_of_ble_eq_true rfl, Nat.le_of_ble_eq_true rfl⟩ rfl rfl, hts _ (ip_gw_t (i := 240) (by decide +kernel) (by decide +kernel))⟩ ⟨fun _ _ _ _ q => ⟨q.1, trivial⟩, fun U hU hW => ⟨rfl, trivial⟩⟩ rfl rfl hl.1 rfl (lv_room (Nat.le_of_ble_eq_true rfl)) sd_chk_5 ⟨Nat.le_refl _, Nat.le_refl _⟩) ?_
    refine lv_pop (va := .int i) hx hb sd_chk_8 rfl ?_
    exact W.vret hx hb hr (fun t ht hW => ⟨rfl, ht⟩) (fun q hq => by cases hq) sd_chk_9 hlocks
  rcases hZ.2.2.2.2.2 with hz | ⟨t, hz⟩
  · exact go .null rfl hz
  · exact go (.ref t) rfl hz
end IPSTR
