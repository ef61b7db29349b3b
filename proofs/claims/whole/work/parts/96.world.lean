/-! what stands at the law's entry: classes, arrays, texts -/
def strT (own : String) (k : Nat) : Term := .field (.string own k) "java/lang/String" "value" "[B"
def strW (own : String) (k : Nat) (cs : List Nat) : List Cond := [.exactly (.string own k) "java/lang/String", .eq (.field (.string own k) "java/lang/String" "coder" "B") (.int 0), .arrayOf (strT own k) .byte, .eq (.length (strT own k)) (.int (Int32.ofNat cs.length))] ++ (List.range cs.length).map (fun j => .eq (.elem (strT own k) (.int (Int32.ofNat j))) (.int (Int32.ofNat (cs.getD j 0))))
def spos : List Nat := [334, 364, 379, 416, 440, 456, 202, 212, 224, 234, 244, 256, 263, 274, 281, 291, 300, 310, 318, 327, 218, 48, 57, 66, 74, 85, 95, 103, 112, 121, 127, 135, 144, 154, 162, 173, 183, 192]
def sref : List Nat := [621, 668, 675, 906, 928, 945, 464, 465, 499, 504, 510, 511, 521, 522, 524, 533, 538, 539, 544, 546, 494, 189, 190, 191, 192, 193, 194, 195, 196, 197, 198, 202, 203, 204, 205, 206, 207, 208]
/-- string number i: its class's number, its constant's index, its text -/
def sq (i : Nat) : Nat × Nat × String × Nat := ip_stt.getD i (0, 0, "", 0)
theorem st_ok : ∀ i, i < 38 → ((flatC narrow_1).drop (spos.getD i 0)).take (4 + (ip_strs.getD i []).length) = strW (ip_onm (sq i).1) (sq i).2.1 (ip_strs.getD i []) := by decide +kernel
theorem sr_ok : ∀ i, i < 38 → tables_1[sref.getD i 0]? = some (.stringRef (ip_onm (sq i).1) (sq i).2.1 (sq i).2.2.1) := by decide +kernel
theorem sq_ok : ∀ i, i < 38 → ip_stt[i]? = some (sq i) ∧ (sq i).2.2.2 = i := by decide +kernel
theorem sq_len : ip_stt.length = 38 := by decide +kernel
theorem ss_len : ip_strs.length = 38 := by decide +kernel
theorem sc_len : ∀ i, i < 38 → (ip_strs.getD i []).length < 100 := by decide +kernel
theorem xf_ok : ∀ w ∈ ip_xf, w ∈ lw_tbl := by
  intro w hw
  simp only [ip_xf, List.mem_cons, List.not_mem_nil, or_false] at hw
  rcases hw with rfl | rfl | rfl | rfl | rfl | rfl
  · exact List.mem_append_right _ (List.mem_of_getElem? (i := 584) (by decide +kernel))
  · exact List.mem_append_right _ (List.mem_of_getElem? (i := 586) (by decide +kernel))
  · exact List.mem_append_right _ (List.mem_of_getElem? (i := 588) (by decide +kernel))
  · exact List.mem_append_right _ (List.mem_of_getElem? (i := 582) (by decide +kernel))
  · exact List.mem_append_right _ (List.mem_of_getElem? (i := 661) (by decide +kernel))
  · exact List.mem_append_right _ (List.mem_of_getElem? (i := 921) (by decide +kernel))
section
variable {args : Array Value} {s : State} {A : Nat → Prop}
theorem fld_at {t : Term} {a : Nat} {o n d : String} {v : Value} (ht : t.eval args s none [] s = some (.ref a)) (hv : (Term.field t o n d).eval args s none [] s = some v) (hA : ∀ a : Nat, a < s.heap.size → ¬ A a) : va_OF o n d v a A s s.heap := by
  cases hfo : s.fieldFound? o n d with
  | none =>
    rw [va_fe ht] at hv
    simp [State.fieldOf?, State.fieldNamed?, hfo] at hv
  | some x =>
    obtain ⟨cf, k, fi, f⟩ := x
    obtain ⟨g1, cell, g2, g3, -, -, g6⟩ := Term.field_spec hfo ht hv
    exact ⟨cf, k, fi, f, cell, hfo, g1, g2, g3, g6, hA _ (Array.getElem?_eq_some_iff.mp g2).1⟩
theorem str_at {own : String} {k : Nat} {cs : List Nat} (hw : ∀ w ∈ strW own k cs, w.before args s = true) (hl : cs.length < 100) (hA : ∀ a : Nat, a < s.heap.size → ¬ A a) : ∃ a : Nat, (Term.string own k).eval args s none [] s = some (.ref a) ∧ ∃ v : Nat, va_O "java/lang/String" a A s s.heap ∧ va_OF "java/lang/String" "coder" "B" (.int 0) a A s s.heap ∧ va_OF "java/lang/String" "value" "[B" (.ref v) a A s s.heap ∧ va_T .byte v cs.length (fun j => .int (Int32.ofNat (cs.getD j 0))) A s s.heap := by
  have h1 := hw (.exactly (.string own k) "java/lang/String") (by simp [strW])
  have h2 := hw (.eq (.field (.string own k) "java/lang/String" "coder" "B") (.int 0)) (by simp [strW])
  have h3 := hw (.arrayOf (strT own k) .byte) (by simp [strW])
  have h4 := hw (.eq (.length (strT own k)) (.int (Int32.ofNat cs.length))) (by simp [strW])
  have h5 : ∀ j, j < cs.length → (Cond.eq (.elem (strT own k) (.int (Int32.ofNat j))) (.int (Int32.ofNat (cs.getD j 0)))).before args s = true := fun j hj => hw _ (List.mem_append_right _ (List.mem_map.mpr ⟨j, List.mem_range.mpr hj, rfl⟩))
  obtain ⟨a, c, cell, kk, q1, q2, q3, q4, q5, q6, -⟩ := Cond.exactly_spec h1
  obtain ⟨v, hv, hT⟩ := va_Tof (A := A) (f := fun j => .int (Int32.ofNat (cs.getD j 0))) (by omega) h3 (va_eqt h4) (fun j hj => va_eqt (h5 j hj)) hA
  exact ⟨a, q1, v, ⟨cell, q3, q5, by rw [q6]; exact q2, hA a (Array.getElem?_eq_some_iff.mp q3).1⟩, fld_at q1 (va_eqt h2) hA, fld_at q1 hv hA, hT⟩
theorem ls_at {C n d : String} (hl : (Cond.laysStatic C n d).before args s = true) (hA : ∀ a : Nat, a < s.heap.size → ¬ A a) : ip_Ls C n d A s s.heap := by
  obtain ⟨c, k, i, f, a, cell, hc, hi, hst, ha, hcell, hs, hcls, hlt, hty⟩ := Cond.laysStatic_spec hl
  exact ⟨c, k, i, f, a, cell, hc, hi, ha, hty, hst, hcell, hs, hcls, hlt, hA a (Array.getElem?_eq_some_iff.mp hcell).1⟩
theorem arr_at {ty : FieldType} (h : (Cond.arrayClass ty).before args s = true) : ∃ cA : ClassId, ArrOfT s cA ty ∧ s.vm.findClass ("[" ++ ty.toString) = some cA := by
  obtain ⟨cA, kA, comp, h1, h2, h3⟩ := Cond.arrayClass_spec h
  exact ⟨cA, fun n z => ⟨fun k h => (by cases h), kA, h2, comp, h3⟩, h1⟩
/-- classes and arrays -/
theorem k_at (hts : ∀ w ∈ lw_tbl, w.before args s = true) : ∃ (D : va_G) (dA : Nat → ClassId), va_K D ip_cls (ip_tys dA) s := by
  have hgw : ∀ w ∈ ip_gw, w.before args s = true := fun w hw => hts w (List.mem_filter.mp hw).1
  have h0 : ∀ k : Nat, ∃ x : ClassId × (Nat → Nat), ∀ q, ip_cls[k]? = some q → u_Kn s q.1 q.2.1 q.2.2 x.1 x.2 := by
    intro k
    cases hq : ip_cls[k]? with
    | none => exact ⟨(0, fun _ => 0), fun q h => by cases h⟩
    | some q =>
      obtain ⟨o1, -, -, -, o5, -⟩ := ip_clsOK hq
      obtain ⟨cC, iS, hK⟩ := u_known hgw o1 (hgw _ o5)
      exact ⟨(cC, iS), fun q' h => by cases h; exact hK⟩
  obtain ⟨f, hf⟩ := Classical.axiomOfChoice h0
  obtain ⟨cI, i1, i2⟩ := arr_at (ty := .int) (hts _ (List.mem_append_right _ (List.mem_of_getElem? (i := 83) (by decide +kernel))))
  obtain ⟨cB, b1, b2⟩ := arr_at (ty := .byte) (hts _ (List.mem_append_right _ (List.mem_of_getElem? (i := 45) (by decide +kernel))))
  obtain ⟨cL, l1, l2⟩ := arr_at (ty := .long) (hts _ (List.mem_append_right _ (List.mem_of_getElem? (i := 65) (by decide +kernel))))
  obtain ⟨cZ, z1, z2⟩ := arr_at (ty := .boolean) (hts _ (List.mem_append_right _ (List.mem_of_getElem? (i := 1172) (by decide +kernel))))
  refine ⟨(fun k => (f k).1, fun k => (f k).2), fun t => if t = 0 then cI else if t = 1 then cB else if t = 2 then cL else cZ, fun k q hq => hf k q hq, fun k q hq => ?_⟩
  match k, hq with
  | 0, hq => cases hq; exact ⟨i1, i2⟩
  | 1, hq => cases hq; exact ⟨b1, b2⟩
  | 2, hq => cases hq; exact ⟨l1, l2⟩
  | 3, hq => cases hq; exact ⟨z1, z2⟩
  | k + 4, hq => simp [ip_tys] at hq
/-- texts and statics -/
theorem z_at {b : Nat} (hts : ∀ w ∈ lw_tbl, w.before args s = true) (hnv : narrow_1.before args s = true) (hA : ∀ a : Nat, a < s.heap.size → ¬ A a) : ∃ ρ : Nat → Nat, ρ ip_SC = b ∧ ip_Z ρ A s s.heap := by
  have hfl := flat_of_before _ hnv
  have h0 : ∀ i : Nat, ∃ a : Nat, i < 38 → (Term.string (ip_onm (sq i).1) (sq i).2.1).eval args s none [] s = some (.ref a) ∧ ∃ v : Nat, va_O "java/lang/String" a A s s.heap ∧ va_OF "java/lang/String" "coder" "B" (.int 0) a A s s.heap ∧ va_OF "java/lang/String" "value" "[B" (.ref v) a A s s.heap ∧ va_T .byte v (ip_strs.getD i []).length (fun j => .int (Int32.ofNat ((ip_strs.getD i []).getD j 0))) A s s.heap := by
    intro i
    by_cases hi : i < 38
    · obtain ⟨a, ha⟩ := str_at (args := args) (s := s) (A := A) (own := ip_onm (sq i).1) (k := (sq i).2.1) (cs := ip_strs.getD i []) (fun w hw => by
        rw [← st_ok i hi] at hw
        exact hfl w (List.mem_of_mem_drop (List.mem_of_mem_take hw))) (sc_len i hi) hA
      exact ⟨a, fun _ => ha⟩
    · exact ⟨0, fun h => absurd h hi⟩
  obtain ⟨ad, had⟩ := Classical.axiomOfChoice h0
  have hsa : ∀ i, (fun k => if k = ip_SC then b else ad (k - (ip_SC + 1))) (ip_sa i) = ad i := by
    intro i
    show (if ip_sa i = ip_SC then b else ad (ip_sa i - (ip_SC + 1))) = ad i
    unfold ip_sa
    rw [if_neg (by omega), show ip_SC + 1 + i - (ip_SC + 1) = i from by omega]
  refine ⟨fun k => if k = ip_SC then b else ad (k - (ip_SC + 1)), if_pos rfl, ?_, ?_, ?_, ?_, ?_⟩
  · intro i hi
    rw [ss_len] at hi
    rw [hsa i]
    exact (had i hi).2
  · intro q hq
    obtain ⟨i, hi, e⟩ := List.getElem_of_mem hq
    rw [sq_len] at hi
    have e2 := (sq_ok i hi).1
    rw [List.getElem?_eq_getElem (by rw [sq_len]; exact hi), e] at e2
    cases e2
    rw [(sq_ok i hi).2, hsa i]
    exact vk_R.of (hts _ (List.mem_append_right _ (List.mem_of_getElem? (sr_ok i hi)))) (had i hi).1
  · exact va_Zof (hts _ (List.mem_append_right _ (List.mem_of_getElem? (i := 221) (by decide +kernel)))) (hts _ (List.mem_append_right _ (List.mem_of_getElem? (i := 9) (by decide +kernel)))) (va_eqi (hfl _ (List.mem_of_getElem? (i := 2) (by decide +kernel)))) hA
  · exact va_Zqof (hts _ (List.mem_append_right _ (List.mem_of_getElem? (i := 238) (by decide +kernel)))) (hts _ (List.mem_append_right _ (List.mem_of_getElem? (i := 11) (by decide +kernel)))) (hfl _ (List.mem_of_getElem? (i := 3) (by decide +kernel))) hA
  · have lu := hts (.laysStatic "java/lang/Throwable" "UNASSIGNED_STACK" "[Ljava/lang/StackTraceElement;") (List.mem_append_right _ (List.mem_of_getElem? (i := 607) (by decide +kernel)))
    have lp := hts (.laysStatic "java/lang/Throwable" "SUPPRESSED_SENTINEL" "Ljava/util/List;") (List.mem_append_right _ (List.mem_of_getElem? (i := 609) (by decide +kernel)))
    have it := hts (.initialized "java/lang/Throwable") (List.mem_append_right _ (List.mem_of_getElem? (i := 17) (by decide +kernel)))
    have hn := hfl (.not (.castable "java/lang/IllegalStateException" "java/lang/IllegalArgumentException")) (List.mem_of_getElem? (i := 33) (by decide +kernel))
    refine ⟨va_Zqof lu it (hfl _ (List.mem_of_getElem? (i := 7) (by decide +kernel))) hA, va_Zqof lp it (hfl _ (List.mem_of_getElem? (i := 8) (by decide +kernel))) hA, ?_, ls_at lu hA, ls_at lp hA, ?_⟩
    · intro c t hc ht
      simp only [Cond.before, Cond.holds, Cond.value, hc, ht] at hn
      simpa using hn
    · intro w hw as
      exact va_any (ip_xf_ok w hw).1 (hts w (xf_ok w hw))
end
