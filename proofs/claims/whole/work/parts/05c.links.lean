/-! links of new, of Object(), of arraycopy, array classes -/
def ip_nps : List Nat := [32, 46, 168, 333, 346, 52, 66, 352, 180, 174, 24, 1012]
set_option maxRecDepth 100000 in
theorem ip_npsOK : ∀ i, i < ip_newcs.length → tables_1[ip_nps.getD i 0]? = some (.classLink (ip_onm (ip_newcs.getD i (0, 0, 0)).1) (ip_newcs.getD i (0, 0, 0)).2.1 ((ip_cls.getD (ip_newcs.getD i (0, 0, 0)).2.2 ("", kT_0, 0)).1)) ∧ (ip_newcs.getD i (0, 0, 0)).2.2 < ip_cls.length := by decide +kernel
theorem ip_newOK {mi ix ci : Nat} (h : ip_newc mi ix = some ci) : ∃ C U N, ip_cls[ci]? = some (C, U, N) ∧ Cond.classLink (ip_own mi) ix C ∈ ip_gw := by
  obtain ⟨i, hi⟩ := List.getElem?_of_mem (ip_lk2_mem h)
  have hl := (List.getElem?_eq_some_iff.mp hi).1
  obtain ⟨h1, h2⟩ := ip_npsOK i hl
  have e : ip_newcs.getD i (0, 0, 0) = (ip_o mi, ix, ci) := by rw [List.getD_eq_getElem?_getD, hi]; rfl
  rw [e] at h1 h2
  dsimp only at h1 h2
  obtain ⟨q, hq⟩ : ∃ q, ip_cls[ci]? = some q := ⟨_, List.getElem?_eq_getElem h2⟩
  have e9 : ip_cls.getD ci ("", kT_0, 0) = q := by rw [List.getD_eq_getElem?_getD, hq]; rfl
  rw [e9] at h1
  obtain ⟨C, U, N⟩ := q
  exact ⟨C, U, N, hq, ip_gw_t h1 rfl⟩
def ip_bps : List Nat := [29, 1017, 37, 470, 471, 559, 51, 351, 179, 57, 212, 223, 338, 173, 71, 185]
def ip_by (b : Nat) : MethodName := match b with
  | 1 => objectInit
  | 2 => arraycopyName
  | 3 => ⟨"java/lang/String", "length", "()I"⟩
  | _ => ⟨"java/lang/String", "charAt", "(I)C"⟩
set_option maxRecDepth 100000 in
theorem ip_bpsOK : ∀ i, i < ip_bis.length → tables_1[ip_bps.getD i 0]? = some (.methodLink (ip_onm (ip_bis.getD i (0, 0, 0)).1) (ip_bis.getD i (0, 0, 0)).2.1 (ip_by (ip_bis.getD i (0, 0, 0)).2.2)) := by decide +kernel
theorem ip_biOK {mi ix : Nat} {b : Nat} (h : ip_bi mi ix = b) (hb : b ≠ 0) : Cond.methodLink (ip_own mi) ix (ip_by b) ∈ ip_gw := by
  unfold ip_bi at h
  cases hl : ip_lk2 ip_bis (ip_o mi) ix with
  | none => rw [hl] at h; exact absurd h.symm hb
  | some x =>
    rw [hl] at h
    have h : x = b := h
    subst h
    obtain ⟨i, hi⟩ := List.getElem?_of_mem (ip_lk2_mem hl)
    have h1 := ip_bpsOK i (List.getElem?_eq_some_iff.mp hi).1
    have e : ip_bis.getD i (0, 0, 0) = (ip_o mi, ix, x) := by rw [List.getD_eq_getElem?_getD, hi]; rfl
    rw [e] at h1
    exact ip_gw_t h1 rfl
set_option maxRecDepth 100000 in
theorem ip_objOK : Cond.instanceMethod objectInit ∈ ip_gw ∧ Cond.code objectInit ⟨#[0xb1]⟩ 1 none ∈ ip_gw := ⟨ip_gw_t (i := 30) (by decide +kernel) (by decide +kernel), ip_gw_t (i := 31) (by decide +kernel) (by decide +kernel)⟩
set_option maxRecDepth 100000 in
theorem ip_acOK : Cond.native arraycopyName ∈ ip_gw ∧ Cond.static arraycopyName ∈ ip_gw ∧ Cond.initialized "java/lang/System" ∈ ip_gw := ⟨ip_gw_t (i := 561) (by decide +kernel) (by decide +kernel), ip_gw_t (i := 560) (by decide +kernel) (by decide +kernel), ip_gw_t (i := 23) (by decide +kernel) (by decide +kernel)⟩
set_option maxRecDepth 100000 in
theorem ip_arOK : Cond.arrayClass .int ∈ ip_gw ∧ Cond.arrayClass .byte ∈ ip_gw ∧ Cond.arrayClass .long ∈ ip_gw ∧ Cond.arrayClass .boolean ∈ ip_gw := ⟨ip_gw_t (i := 83) (by decide +kernel) (by decide +kernel), ip_gw_t (i := 45) (by decide +kernel) (by decide +kernel), ip_gw_t (i := 65) (by decide +kernel) (by decide +kernel), ip_gw_t (i := 1172) (by decide +kernel) (by decide +kernel)⟩
