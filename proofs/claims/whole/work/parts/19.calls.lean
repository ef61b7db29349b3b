/-! calls of methods that never throw -/
section IPCL
variable {p : Program} {l : Launch} {e : Env} {R : Room} {s : State} {m : MethodId} {args : Array Value} {below : List Frame} {meth : Method} {c : Code} {H : Heap} {locs : List Loc} {cells slots : Nat} {Q : State → Prop}
variable {D : va_G} {dA : Nat → ClassId} {A : Nat → Prop} {ρ : Nat → Nat} {mi pc n : Nat} {L : ip_Lo} {S : List Value} {h : ip_H} {ls : Array Slot}
theorem ip_sub_A (hD : va_D A (ip_w dA ρ h)) (hS : va_S A s.heap H locs) (hA : ∀ q, s.heap.size ≤ q → A q) : ∀ q, va_A (ip_w dA ρ h) H.size q → A q := by
  intro q hq
  rcases hq with ⟨k, x, hk⟩ | hq
  · exact hD.2 k _ hk
  · exact hA q (Nat.le_trans hS.1 hq)
/-- behind a call -/
theorem ip_after {ci mc ms : Nat} {post1 : Option Value → ip_H → Prop} {a : Array Value} {st0 rest : List Value} (hr : va_Run p l e R s m args below meth c H locs cells slots mc ms (F0 m pc ls st0) rest (ip_Q D dA ρ h ci post1 (va_A (ip_w dA ρ h) H.size) a) (va_A (ip_w dA ρ h) H.size))
    (hD : va_D A (ip_w dA ρ h)) (hS : va_S A s.heap H locs) (hA : ∀ q, s.heap.size ≤ q → A q)
    (kk : ∀ (r : Option Value) (ρ' : Nat → Nat) (h' : ip_H) (H' : Heap) (locs' : List Loc), post1 r h' → ip_ag h.1.length ρ ρ' → (ip_al ci = false → ρ' = ρ) → h.1.length ≤ h'.1.length → va_P D ip_cls (ip_w dA ρ' h') H' → va_D A (ip_w dA ρ' h') → va_S A s.heap H' locs' → ip_wH h' →
      W p l e R s m args below meth c H' locs' (cells + mc) (slots + ms) Q (F0 m (pc + 3) ls ((r.map (ip_v ρ')).toList ++ rest))) : W p l e R s m args below meth c H locs cells slots Q (F0 m pc ls st0) := by
  have hsub := ip_sub_A hD hS hA
  intro T hT X
  obtain ⟨v, st₀, t, T', L0, h0, X', hL, e1, e2, ⟨⟨r, ρ', h', hv, hp, h1, h2, h3, h4, h5, h6⟩, hz, hk⟩, st⟩ := hr T hT X
  injection hv with hv
  subst hv
  rw [h0] at hz hk
  obtain ⟨t2, a1, b1⟩ := kk r ρ' h' T'.heap (locs ++ L0) hp h1 h2 h3 (by rw [e1]; exact h4) (h5.weaken fun _ _ _ hq => hsub _ hq)
    ⟨Nat.le_trans hS.1 (by rw [e1]; exact hz), fun q q1 q2 => by rw [e1, hk q (Nat.lt_of_lt_of_le q1 hS.1) (fun z => q2 (hsub q z))]; exact hS.2.1 q q1 q2, fun q hq => by
      rcases List.mem_append.mp hq with h | h
      · exact hS.2.2 q h
      · exact hsub _ (hL q h)⟩ h6 T' rfl X'
  exact ⟨t2, st t2 a1, b1⟩
theorem ip_blind {vs : List Value} {sz : Nat} : FrameBlind (ip_Pc D dA ρ vs h sz) := by
  intro a U g mk q
  obtain ⟨q0, q1, qP, qK, qD, qZ⟩ := q
  exact ⟨q0, q1, qP, va_K.moved (u := U) (U := U.calling g mk a) (Vm.Alike.refl U.vm) qK, qD, ip_Z.same (u := U) rfl qZ⟩
theorem ip_pre {vs : List Value} (hK : va_K D ip_cls (ip_tys dA) s) (hP : va_P D ip_cls (ip_w dA ρ h) H) (hD : va_D A (ip_w dA ρ h)) (hS : va_S A s.heap H locs) (hA : ∀ q, s.heap.size ≤ q → A q) (hZ : ip_Z ρ A s s.heap) : ∀ U : State, U.heap = H → s.WarmedH U.vm → ip_Pc D dA ρ vs h H.size (vs.map (ip_v ρ)).toArray U := by
  intro U hU hW
  refine ⟨rfl, by rw [hU], by rw [hU]; exact hP, va_K.moved hW.alike hK, hD.weaken (fun _ _ _ _ => trivial), ?_⟩
  rw [hU]
  exact ip_Z.warm hW ((hZ.kept hS.2.1).narrow (ip_sub_A hD hS hA))
theorem ip_goodws {ci : Nat} (hm : ip_mOK ci) : GoodIn ip_gw (ip_ws ci) := by
  intro w hw
  rcases List.mem_cons.mp hw with rfl | hw
  · exact ip_gw_good _ hm.1
  · exact ip_gw_good w hw
theorem ip_callB {ci ix na : Nat} (hC : ip_Cx D dA mi p s m args meth c) (hm : ip_mOK ci) (hcall : ip_call mi ix = some (ci, na)) (hR : ip_fm mi ≤ R.frames ∧ ip_lm mi ≤ R.locals) (hroom : ip_rchk mi ix = true) :
    CallB R s args (ip_own mi) ix (ip_y ci) (ip_bytes ci) (ip_maxL ci) (ip_ret ci) (ip_ws ci) (ip_rm ci) (ip_cost ci).1 (ip_cost ci).2 na := by
  obtain ⟨hx, hb, hml, hown, hts, hK, hnm⟩ := hC
  obtain ⟨h1, h2⟩ := ip_linkOK hcall
  unfold ip_rchk at hroom
  rw [hcall] at hroom
  simp only [Bool.and_eq_true, decide_eq_true_eq] at hroom
  refine ⟨rfl, rfl, Nat.le_trans hroom.1 hR.1, Nat.le_trans hroom.2 hR.2, pay_in hts (ip_goodws hm), List.mem_cons_self, hts _ hm.1, hts _ hm.2.1, hm.2.2.1.2.1, fun sig h => ?_, hts _ h1⟩
  rw [h] at h2
  exact (Option.some.inj h2).symm
theorem ip_stk {na k : Nat} {rest : List Value} (hdrop : S.drop na = .ref k :: rest) : S.map (ip_v ρ) = (((S.take na).reverse).map (ip_v ρ)).reverse ++ (.ref (ρ k) :: rest.map (ip_v ρ)) := by
  conv => lhs; rw [← List.take_append_drop na S, hdrop]
  simp [ip_v]
theorem ip_stkS {na : Nat} : S.map (ip_v ρ) = (((S.take na).reverse).map (ip_v ρ)).reverse ++ (S.drop na).map (ip_v ρ) := by
  conv => lhs; rw [← List.take_append_drop na S]
  simp
/-- by the receiver -/
theorem ip_callV {ci ix na k : Nat} {rest : List Value} {post1 : Option Value → ip_H → Prop} (hS0 : ip_SND l D dA n) (hC : ip_Cx D dA mi p s m args meth c) (hR : ip_fm mi ≤ R.frames ∧ ip_lm mi ≤ R.locals) (hZ : ip_Z ρ A s s.heap) (hA : ∀ q, s.heap.size ≤ q → A q) (hfr : ip_fr D dA A s mi ρ ls L h H locs)
    (hd : decode (ip_bytes mi) pc = .ok (.invokevirtual ix, 3)) (hroom : ip_rchk mi ix = true) (hcall : ip_call mi ix = some (ci, na)) (hno : ip_xts ci = []) (hm : ip_mOK ci) (hkind : ip_kind ci = 2) (hdrop : S.drop na = .ref k :: rest) (hk : ip_isO h.1 k (ip_oc ci) = true) (hna : na ≤ S.length)
    (hcat : (rest.map fun v => v.category).sum ≤ 8) (hok : ip_entok ci (ip_ent (.ref k :: (S.take na).reverse) (ip_maxL ci)) = true) (hln : (ip_ent (.ref k :: (S.take na).reverse) (ip_maxL ci)).length = ip_maxL ci)
    (hcs : cells + (ip_cost ci).1 ≤ R.cells ∧ slots + (ip_cost ci).2 ≤ R.slots)
    (hw : ip_wp n ci 0 (ip_ent (.ref k :: (S.take na).reverse) (ip_maxL ci)) [] h (ip_cost ci) post1 (fun _ _ => False))
    (kk : ∀ (r : Option Value) (ρ' : Nat → Nat) (h' : ip_H) (H' : Heap) (locs' : List Loc), post1 r h' → ip_ag h.1.length ρ ρ' → (ip_al ci = false → ρ' = ρ) → h.1.length ≤ h'.1.length → va_P D ip_cls (ip_w dA ρ' h') H' → va_D A (ip_w dA ρ' h') → va_S A s.heap H' locs' → ip_wH h' →
      W p l e R s m args below meth c H' locs' (cells + (ip_cost ci).1) (slots + (ip_cost ci).2) Q (F0 m (pc + 3) ls ((r.map (ip_v ρ')).toList ++ rest.map (ip_v ρ)))) : W p l e R s m args below meth c H locs cells slots Q (F0 m pc ls (S.map (ip_v ρ))) := by
  obtain ⟨hx, hb, hml, hown, hts, hK, hnm⟩ := id hC
  obtain ⟨hl, hP, hD, hS, hw0⟩ := id hfr
  obtain ⟨nf, hkk⟩ := ip_isO_spec hk
  obtain ⟨-, -, -, -, -, hv⟩ := id hm
  obtain ⟨i1, i2, N, U, i3⟩ := hv hkind
  have hM := ip_met hS0 (sz := H.size) (ρ := ρ) (ip_callne hcall) hno hm hw hok hln hw0
  have hst := ip_stk (ρ := ρ) hdrop
  refine ip_after (va_runV (As := ((S.take na).reverse).map (ip_v ρ)) (rest := rest.map (ip_v ρ)) (b := ρ k) (C := (ip_y ci).cls) ⟨hx, hb, hml, hown, hts⟩ hM ⟨ip_callB hC hm hcall hR hroom, hts _ i1, hts _ i2⟩ ⟨ip_blind, va_recv hK hP i3 (ip_w_get hkk), ip_pre hK hP hD hS hA hZ⟩ rfl ?_ hl.1 hst (lv_room ?_) hd hcs) hD hS hA kk
  · rw [List.length_map, List.length_reverse, List.length_take]; omega
  · rw [ip_v_cats]; exact hcat
/-- a static one -/
theorem ip_callS {ci ix na : Nat} {post1 : Option Value → ip_H → Prop} (hS0 : ip_SND l D dA n) (hC : ip_Cx D dA mi p s m args meth c) (hR : ip_fm mi ≤ R.frames ∧ ip_lm mi ≤ R.locals) (hZ : ip_Z ρ A s s.heap) (hA : ∀ q, s.heap.size ≤ q → A q) (hfr : ip_fr D dA A s mi ρ ls L h H locs)
    (hd : decode (ip_bytes mi) pc = .ok (.invokestatic ix, 3)) (hroom : ip_rchk mi ix = true) (hcall : ip_call mi ix = some (ci, na)) (hno : ip_xts ci = []) (hm : ip_mOK ci) (hkind : ip_kind ci = 0) (hna : na ≤ S.length)
    (hcat : ((S.drop na).map fun v => v.category).sum ≤ 8) (hok : ip_entok ci (ip_ent (S.take na).reverse (ip_maxL ci)) = true) (hln : (ip_ent (S.take na).reverse (ip_maxL ci)).length = ip_maxL ci)
    (hcs : cells + (ip_cost ci).1 ≤ R.cells ∧ slots + (ip_cost ci).2 ≤ R.slots)
    (hw : ip_wp n ci 0 (ip_ent (S.take na).reverse (ip_maxL ci)) [] h (ip_cost ci) post1 (fun _ _ => False))
    (kk : ∀ (r : Option Value) (ρ' : Nat → Nat) (h' : ip_H) (H' : Heap) (locs' : List Loc), post1 r h' → ip_ag h.1.length ρ ρ' → (ip_al ci = false → ρ' = ρ) → h.1.length ≤ h'.1.length → va_P D ip_cls (ip_w dA ρ' h') H' → va_D A (ip_w dA ρ' h') → va_S A s.heap H' locs' → ip_wH h' →
      W p l e R s m args below meth c H' locs' (cells + (ip_cost ci).1) (slots + (ip_cost ci).2) Q (F0 m (pc + 3) ls ((r.map (ip_v ρ')).toList ++ (S.drop na).map (ip_v ρ)))) : W p l e R s m args below meth c H locs cells slots Q (F0 m pc ls (S.map (ip_v ρ))) := by
  obtain ⟨hx, hb, hml, hown, hts, hK, hnm⟩ := id hC
  obtain ⟨hl, hP, hD, hS, hw0⟩ := id hfr
  have hM := ip_met hS0 (sz := H.size) (ρ := ρ) (ip_callne hcall) hno hm hw hok hln hw0
  refine ip_after (va_runS (As := ((S.take na).reverse).map (ip_v ρ)) (rest := (S.drop na).map (ip_v ρ)) ⟨hx, hb, hml, hown, hts⟩ hM ⟨ip_callB hC hm hcall hR hroom, hts _ (hm.2.2.2.1 hkind)⟩ ⟨ip_blind, ip_pre hK hP hD hS hA hZ⟩ rfl ?_ hl.1 ip_stkS (lv_room ?_) hd hcs) hD hS hA kk
  · rw [List.length_map, List.length_reverse, List.length_take]; omega
  · rw [ip_v_cats]; exact hcat
/-- a constructor -/
theorem ip_callI {ci ix na k : Nat} {rest : List Value} {post1 : Option Value → ip_H → Prop} (hS0 : ip_SND l D dA n) (hC : ip_Cx D dA mi p s m args meth c) (hR : ip_fm mi ≤ R.frames ∧ ip_lm mi ≤ R.locals) (hZ : ip_Z ρ A s s.heap) (hA : ∀ q, s.heap.size ≤ q → A q) (hfr : ip_fr D dA A s mi ρ ls L h H locs)
    (hd : decode (ip_bytes mi) pc = .ok (.invokespecial ix, 3)) (hroom : ip_rchk mi ix = true) (hcall : ip_call mi ix = some (ci, na)) (hno : ip_xts ci = []) (hm : ip_mOK ci) (hkind : ip_kind ci = 1) (hdrop : S.drop na = .ref k :: rest) (hna : na ≤ S.length)
    (hcat : (rest.map fun v => v.category).sum ≤ 8) (hok : ip_entok ci (ip_ent (.ref k :: (S.take na).reverse) (ip_maxL ci)) = true) (hln : (ip_ent (.ref k :: (S.take na).reverse) (ip_maxL ci)).length = ip_maxL ci)
    (hcs : cells + (ip_cost ci).1 ≤ R.cells ∧ slots + (ip_cost ci).2 ≤ R.slots)
    (hw : ip_wp n ci 0 (ip_ent (.ref k :: (S.take na).reverse) (ip_maxL ci)) [] h (ip_cost ci) post1 (fun _ _ => False))
    (kk : ∀ (r : Option Value) (ρ' : Nat → Nat) (h' : ip_H) (H' : Heap) (locs' : List Loc), post1 r h' → ip_ag h.1.length ρ ρ' → (ip_al ci = false → ρ' = ρ) → h.1.length ≤ h'.1.length → va_P D ip_cls (ip_w dA ρ' h') H' → va_D A (ip_w dA ρ' h') → va_S A s.heap H' locs' → ip_wH h' →
      W p l e R s m args below meth c H' locs' (cells + (ip_cost ci).1) (slots + (ip_cost ci).2) Q (F0 m (pc + 3) ls ((r.map (ip_v ρ')).toList ++ rest.map (ip_v ρ)))) : W p l e R s m args below meth c H locs cells slots Q (F0 m pc ls (S.map (ip_v ρ))) := by
  obtain ⟨hx, hb, hml, hown, hts, hK, hnm⟩ := id hC
  obtain ⟨hl, hP, hD, hS, hw0⟩ := id hfr
  obtain ⟨-, -, -, -, hv, -⟩ := id hm
  obtain ⟨⟨i0, i1⟩, i2⟩ := hv hkind
  have hM := ip_met hS0 (sz := H.size) (ρ := ρ) (ip_callne hcall) hno hm hw hok hln hw0
  have hcb := ip_callB hC hm hcall hR hroom
  rw [i1] at hcb
  refine ip_after (va_runI (As := ((S.take na).reverse).map (ip_v ρ)) (rest := rest.map (ip_v ρ)) (b := ρ k) ⟨hx, hb, hml, hown, hts⟩ hM ⟨hcb, i0, hts _ i2⟩ ⟨ip_blind, ip_pre hK hP hD hS hA hZ⟩ rfl ?_ hl.1 (ip_stk hdrop) (lv_room ?_) hd hcs) hD hS hA kk
  · rw [List.length_map, List.length_reverse, List.length_take]; omega
  · rw [ip_v_cats]; exact hcat
end IPCL
