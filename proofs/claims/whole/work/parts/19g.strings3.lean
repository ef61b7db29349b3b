section IPSTR3
set_option maxRecDepth 100000 in
theorem ip_strsOK : ∀ t, t < ip_strs.length → (ip_strs.getD t []).length < 2 ^ 31 ∧ ∀ j, j < (ip_strs.getD t []).length → (ip_strs.getD t []).getD j 0 < 256 := by decide +kernel
theorem ip_str_at {k : Nat} {x : List Nat} (h : ip_strs[k]? = some x) : k < ip_strs.length ∧ ip_strs.getD k [] = x := by
  refine ⟨(List.getElem?_eq_some_iff.mp h).1, ?_⟩
  rw [List.getD_eq_getElem?_getD, h]
  rfl
theorem ip_slen_spec {k n : Nat} (h : ip_slen k = some n) : ∃ i, i < ip_strs.length ∧ k = ip_sa i ∧ n = (ip_strs.getD i []).length := by
  unfold ip_slen at h
  split at h
  · rename_i hk
    cases hx : ip_strs[k - (ip_SC + 1)]? with
    | none => rw [hx] at h; cases h
    | some x =>
      rw [hx] at h
      obtain ⟨h1, h2⟩ := ip_str_at hx
      refine ⟨k - (ip_SC + 1), h1, ?_, ?_⟩
      · unfold ip_sa; omega
      · rw [h2]; exact (Option.some.inj h).symm
  · cases h
theorem ip_sch_spec {k : Nat} {i x : Int32} (h : ip_sch k i = some x) : ∃ t j, t < ip_strs.length ∧ k = ip_sa t ∧ j < (ip_strs.getD t []).length ∧ i = nI j ∧ x = Int32.ofNat ((ip_strs.getD t []).getD j 0) := by
  unfold ip_sch at h
  split at h
  · rename_i hk
    cases hx : ip_strs[k - (ip_SC + 1)]? with
    | none => rw [hx] at h; cases h
    | some s =>
      rw [hx] at h
      dsimp only at h
      obtain ⟨h1, h2⟩ := ip_str_at hx
      obtain ⟨j, hj, rfl⟩ := nI_of hk.2
      rw [nI_clamp hj] at h
      cases hs : s[j]? with
      | none => rw [hs] at h; cases h
      | some y =>
        rw [hs] at h
        refine ⟨k - (ip_SC + 1), j, h1, ?_, ?_, rfl, ?_⟩
        · unfold ip_sa; omega
        · rw [h2]; exact (List.getElem?_eq_some_iff.mp hs).1
        · rw [h2, List.getD_eq_getElem?_getD, hs]
          exact (Option.some.inj h).symm
  · cases h
theorem ip_sZ {ρ : Nat → Nat} {A : Nat → Prop} {s : State} {H : Heap} {locs : List Loc} (hZ : ip_Z ρ A s s.heap) (hS : va_S A s.heap H locs) {i : Nat} (hi : i < ip_strs.length) : ∃ v, ∀ U : State, U.heap = H → s.WarmedH U.vm → sZ (ρ (ip_sa i)) v (ip_strs.getD i []) U := by
  have h0 : ip_Z ρ (fun _ => False) s H := (hZ.kept hS.2.1).narrow (fun _ z => z.elim)
  obtain ⟨v, -⟩ := h0.1 i hi
  obtain ⟨w, h1, h2, h3, h4⟩ := h0.1 i hi
  refine ⟨w, fun U hU hW => ?_⟩
  unfold sZ
  rw [hU]
  exact ⟨va_O.moved hW.alike h1, va_OF.moved hW.alike h2, va_OF.moved hW.alike h3, va_T.moved hW.alike h4, va_Z.moved hW.alike h0.2.2.1, va_Zq.moved hW.alike h0.2.2.2.1⟩
theorem ip_recvS {ρ : Nat → Nat} {A : Nat → Prop} {s : State} {H : Heap} {locs : List Loc} (hZ : ip_Z ρ A s s.heap) (hS : va_S A s.heap H locs) {i : Nat} (hi : i < ip_strs.length) : ∃ cellB : Cell, H[ρ (ip_sa i)]? = some cellB ∧ cellB.vm.isStatics = false ∧ s.vm.findClass "java/lang/String" = some cellB.cls := by
  obtain ⟨v, h1, -⟩ := (hZ.kept hS.2.1).1 i hi
  obtain ⟨cell, a1, a2, a3, -⟩ := h1
  exact ⟨cell, a1, a2, a3⟩
set_option maxHeartbeats 4000000 in
set_option maxRecDepth 100000 in
theorem ip_DH_ok (l : Launch) (D : va_G) (dA : Nat → ClassId) : ip_DH l D dA := by
  intro mi pc ix L S h pc' L' S' h' b b' hf h3 hx p e R s m args below meth c A ρ H locs cells slots ls Q hC hR hZ hA hfr hcc hss kk
  obtain ⟨hx0, hb, hml, hown, hts, hK, hnm⟩ := id hC
  obtain ⟨hl, hP, hD, hS, hw⟩ := id hfr
  obtain ⟨hd, -⟩ := ip_dec hf
  have hck := ip_all ip_callOK hf
  rcases h3 with h3 | h3
  · have hlk := ip_biOK h3 (by decide)
    simp only [ip_cchk, h3, Bool.and_eq_true, decide_eq_true_eq] at hck
    simp only [ip_ex, h3] at hx
    split at hx
    · rename_i k S
      split at hx
      · rename_i hcat
        split at hx
        · rename_i n hn
          cases hx
          obtain ⟨i, hi, e1, e2⟩ := ip_slen_spec hn
          obtain ⟨v, hv⟩ := ip_sZ hZ hS hi
          have kk1 := kk H locs hfr
          rw [e2] at kk1
          show W p l e R s m args below meth c H locs cells slots Q (F0 m pc ls (.ref (ρ k) :: S.map (ip_v ρ)))
          rw [e1]
          refine sC_after (va_runV (As := []) (rest := S.map (ip_v ρ)) (C := "java/lang/String") ⟨hx0, hb, hml, hown, hts⟩ (sM_len l (ρ (ip_sa i)) v (ip_strs.getD i []) (ip_strsOK i hi).1) ⟨sC_B (n := 0) hts (ip_gw_t (i := 215) rfl (by decide +kernel)) (ip_gw_t (i := 9) (by decide +kernel) (by decide +kernel)) hlk (by decide +kernel) ⟨by show 1 + 1 ≤ R.frames; omega, by show 8 + (1 + 11) + 20 ≤ R.locals; omega⟩ rfl rfl, hts _ (ip_gw_t (i := 213) (by decide +kernel) (by decide +kernel)), hts _ (ip_gw_t (i := 214) (by decide +kernel) (by decide +kernel))⟩ ⟨sZ_blind, ip_recvS hZ hS hi, fun U hU hW => ⟨rfl, hv U hU hW⟩⟩ rfl rfl hl.1 rfl (lv_room (by rw [ip_v_cats]; exact hcat)) hd ⟨by omega, by omega⟩) kk1
        · cases hx
      · cases hx
    · cases hx
  · have hlk := ip_biOK h3 (by decide)
    simp only [ip_cchk, h3, Bool.and_eq_true, decide_eq_true_eq] at hck
    simp only [ip_ex, h3] at hx
    split at hx
    · rename_i i0 k S
      split at hx
      · rename_i hcat
        split at hx
        · rename_i x hn
          cases hx
          obtain ⟨i, j, hi, e1, hj, e3, e4⟩ := ip_sch_spec hn
          obtain ⟨v, hv⟩ := ip_sZ hZ hS hi
          have kk1 := kk H locs hfr
          rw [e4] at kk1
          show W p l e R s m args below meth c H locs cells slots Q (F0 m pc ls (.int i0 :: .ref (ρ k) :: S.map (ip_v ρ)))
          rw [e1, e3]
          refine sC_after (va_runV (As := [.int (nI j)]) (rest := S.map (ip_v ρ)) (C := "java/lang/String") ⟨hx0, hb, hml, hown, hts⟩ (sM_cha l (ρ (ip_sa i)) v j (ip_strs.getD i []) hj (ip_strsOK i hi).1 ((ip_strsOK i hi).2 j hj)) ⟨sC_B (n := 1) hts (ip_gw_t (i := 226) rfl (by decide +kernel)) (ip_gw_t (i := 9) (by decide +kernel) (by decide +kernel)) hlk (by decide +kernel) ⟨by show 3 + 1 ≤ R.frames; omega, by show 8 + (2 + 11) + 64 ≤ R.locals; omega⟩ rfl rfl, hts _ (ip_gw_t (i := 224) (by decide +kernel) (by decide +kernel)), hts _ (ip_gw_t (i := 225) (by decide +kernel) (by decide +kernel))⟩ ⟨sZ_blind, ip_recvS hZ hS hi, fun U hU hW => ⟨rfl, hv U hU hW⟩⟩ rfl rfl hl.1 rfl (lv_room (by rw [ip_v_cats]; exact hcat)) hd ⟨by omega, by omega⟩) kk1
        · cases hx
      · cases hx
    · cases hx
end IPSTR3
