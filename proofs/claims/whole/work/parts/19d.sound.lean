/-! THE RUNS ARE SOUND -/
section IPTOP
theorem ip_inv_spec {mi ci na : Nat} {L0 L : ip_Lo} {S rest : List Value} {h : ip_H} {b : ip_B} {q : Nat × ip_Lo × List Value × ip_B × ip_B} (hx : ip_inv mi ci na L0 L S rest h b = some (.inr (.inl q))) : q = (ci, L0, rest, ip_cost ci, ip_rst ci b) ∧ ip_ckc mi h.1.length ci na L L0 S rest = true ∧ ip_bud ci b = true := by
  unfold ip_inv at hx
  split at hx
  · rename_i h1
    split at hx
    · rename_i h2
      cases hx
      exact ⟨rfl, h1, h2⟩
    · cases hx
  · cases hx
theorem ip_ckc_spec {mi n ci na : Nat} {L L0 : ip_Lo} {S rest : List Value} (h : ip_ckc mi n ci na L L0 S rest = true) : na ≤ S.length ∧ (rest.map fun v => v.category).sum ≤ 8 ∧ ip_entok ci L0 = true ∧ L0.length = ip_maxL ci ∧ (ip_al ci = false ∨ (ip_al mi = true ∧ ip_wfc n L rest = true)) := by
  unfold ip_ckc at h
  simp only [Bool.and_eq_true, decide_eq_true_eq, Bool.or_eq_true, Bool.not_eq_true'] at h
  exact ⟨h.1, h.2.1, h.2.2.1, h.2.2.2.1, h.2.2.2.2⟩
theorem ip_bud_spec {ci c1 c2 k n : Nat} {b : ip_B} (h : ip_bud ci b = true) (h1 : k + b.1 ≤ c1) (h2 : n + b.2 ≤ c2) : (k + (ip_cost ci).1 ≤ c1 ∧ n + (ip_cost ci).2 ≤ c2) ∧ k + (ip_cost ci).1 + (ip_rst ci b).1 ≤ c1 ∧ n + (ip_cost ci).2 + (ip_rst ci b).2 ≤ c2 := by
  unfold ip_bud at h
  unfold ip_rst
  by_cases hz : ip_z ci = true
  · rw [if_pos hz]
    have hc : ip_cost ci = (0, 0) := of_decide_eq_true hz
    rw [hc]
    exact ⟨⟨by omega, by omega⟩, by omega, by omega⟩
  · rw [if_neg hz]
    simp only [hz, Bool.false_or, Bool.and_eq_true, decide_eq_true_eq] at h
    exact ⟨⟨by omega, by omega⟩, by show _ + (b.1 - _) ≤ _; omega, by show _ + (b.2 - _) ≤ _; omega⟩
variable {l : Launch} {D : va_G} {dA : Nat → ClassId} {p : Program} {e : Env} {R : Room} {s : State} {m : MethodId} {args : Array Value} {below : List Frame} {meth : Method} {c : Code} {A : Nat → Prop} {ρ ρ0 : Nat → Nat} {n0 : Nat} {H : Heap} {locs : List Loc} {cells slots : Nat} {ls : Array Slot} {Q : State → Prop} {mi pc len n : Nat} {L : ip_Lo} {S : List Value} {h : ip_H} {b : ip_B} {post : Option Value → ip_H → Prop} {px : String → ip_H → Prop}
set_option maxRecDepth 100000 in
theorem ip_ntxt : ∀ mi, mi < 210 → ip_nt mi = true → ip_xts mi = [] := by decide +kernel
theorem ip_noxt {mi : Nat} (h : ip_nt mi = true) : ip_xts mi = [] := by
  by_cases hm : mi < 210
  · exact ip_ntxt mi hm h
  · unfold ip_xts
    cases hl : ip_lkN ip_xtl mi with
    | none => rfl
    | some x =>
      exfalso
      have := List.all_eq_true.mp (show ip_xtl.all (fun q => decide (q.1 < 210)) = true by decide +kernel) (mi, x) (ip_lkN_mem hl)
      exact hm (of_decide_eq_true this)
/-- behind a call that returned: the frame goes on -/
theorem ip_on_ret (ih : ip_SND l D dA n) (hX : ip_CTX l D dA p e R s m args below meth c A ρ ρ0 n0 H locs cells slots ls Q mi L h b post px) {ci na : Nat} {L0 : ip_Lo} {rest : List Value} (hck : ip_ckc mi h.1.length ci na L L0 S rest = true) (hbud : ip_bud ci b = true)
    {r : Option Value} {ρ' : Nat → Nat} {h' : ip_H} {H' : Heap} {locs' : List Loc} (hw : ip_wp n mi (pc + 3) L (r.toList ++ rest) h' (ip_rst ci b) post px) (h1 : ip_ag h.1.length ρ ρ') (h2 : ip_al ci = false → ρ' = ρ) (h3 : h.1.length ≤ h'.1.length) (h4 : va_P D ip_cls (ip_w dA ρ' h') H') (h5 : va_D A (ip_w dA ρ' h')) (h6 : va_S A s.heap H' locs') (h7 : ip_wH h') (hsc : ip_sc h h') :
    W p l e R s m args below meth c H' locs' (cells + (ip_cost ci).1) (slots + (ip_cost ci).2) Q (F0 m (pc + 3) ls ((r.map (ip_v ρ')).toList ++ rest.map (ip_v ρ))) := by
  obtain ⟨hC, hR, hZ, hA, hfr, hag, hal, hn0, hc1, hc2, hXS, hHR, hHX⟩ := hX
  obtain ⟨-, -, -, -, hwf⟩ := ip_ckc_spec hck
  obtain ⟨-, hb1, hb2⟩ := ip_bud_spec hbud hc1 hc2
  have hrest : rest.map (ip_v ρ') = rest.map (ip_v ρ) := by
    rcases hwf with hw1 | ⟨-, hw1⟩
    · rw [h2 hw1]
    · exact ip_S_ext (ip_wfc_w hw1).2 h1
  have hlo : ip_lo mi ρ' ls (ip_maxL mi) L := by
    rcases hwf with hw1 | ⟨-, hw1⟩
    · rw [h2 hw1]; exact hfr.1
    · exact ip_lo_ext hfr.1 (ip_wfc_w hw1).1 h1
  have hst : (r.map (ip_v ρ')).toList ++ rest.map (ip_v ρ) = (r.toList ++ rest).map (ip_v ρ') := by
    rw [List.map_append, hrest]
    cases r <;> rfl
  rw [hst]
  refine ih mi (pc + 3) L (r.toList ++ rest) h' (ip_rst ci b) post px hw p e R s m args below meth c A ρ' ρ0 n0 H' locs' _ _ ls Q hC hR (hZ.ext h1) hA ⟨hlo, h4, h5, h6, h7⟩ ?_ ?_ (Nat.le_trans hn0 h3) hb1 hb2 (fun z => (hXS z).to (h1 _ (Or.inr (Nat.le_refl _))) hsc) hHR hHX
  · intro k hk
    rw [h1 k (hk.imp (fun z => Nat.lt_of_lt_of_le z hn0) id)]
    exact hag k hk
  · intro hz
    rcases hwf with hw1 | ⟨hw0, -⟩
    · rw [h2 hw1]; exact hal hz
    · rw [hw0] at hz; cases hz
set_option maxHeartbeats 4000000 in
theorem ip_callNT (ih : ip_SND l D dA n) (hX : ip_CTX l D dA p e R s m args below meth c A ρ ρ0 n0 H locs cells slots ls Q mi L h b post px) {ins : Instr} (hf : ip_fetch mi pc = some (ins, len)) {q : Nat × ip_Lo × List Value × ip_B × ip_B} (hx : ip_ex mi pc ins L S h b = some (.inr (.inl q))) (hnt : ip_nt q.1 = true)
    (hw : ip_wp n q.1 0 q.2.1 [] h q.2.2.2.1 (fun r h' => ip_wp n mi (pc + 3) L (r.toList ++ q.2.2.1) h' q.2.2.2.2 post px) (fun _ _ => False)) : W p l e R s m args below meth c H locs cells slots Q (F0 m pc ls (S.map (ip_v ρ))) := by
  obtain ⟨hd, hln⟩ := ip_dec hf
  have hck := ip_all ip_callOK hf
  have hkd := ip_all ip_kindOK hf
  obtain ⟨hC, hR, hZ, hA, hfr, hag, hal, hn0, hc1, hc2, hXS, hHR, hHX⟩ := id hX
  replace hw := ip_mono n _ _ _ _ _ _ _ _ _ _ (fun _ _ z => z) (fun _ _ z => z.1) (ip_wp_sc n _ _ _ _ _ _ _ _ hfr.2.2.2.2.1 hw) n (Nat.le_refl n)
  have def1 : ip_ex0 mi pc ins L S h b = some (.inr (.inl q)) → False := fun hs => by
    obtain ⟨_, _, _, _, h9, -⟩ := ip_ex0_nx hs
    cases h9
  cases ins
  case invokevirtual ix =>
    have hl3 : len = 3 := by simpa [ip_okl] using hln
    subst hl3
    simp only [ip_ex] at hx
    split at hx
    · (repeat' split at hx) <;> cases hx
    · (repeat' split at hx) <;> cases hx
    · split at hx
      · rename_i ci na hcall
        split at hx
        · rename_i k rest hdrop
          split at hx
          · rename_i hk
            obtain ⟨rfl, g1, g2⟩ := ip_inv_spec hx
            obtain ⟨f1, f2, f3, f4, f5⟩ := ip_ckc_spec g1
            obtain ⟨hcs, -, -⟩ := ip_bud_spec g2 hc1 hc2
            simp only [ip_kchk, hcall, beq_iff_eq] at hkd
            simp only [ip_cchk, Bool.and_eq_true] at hck
            exact ip_callV ih hC hR hZ hA hfr hd hck.1 hcall (ip_noxt hnt) (ip_mOKn hcall hnt) hkd hdrop hk f1 f2 f3 f4 hcs hw (fun r ρ' h' H' locs' hp h1 h2 h3 h4 h5 h6 h7 => ip_on_ret ih hX g1 g2 hp.1 h1 h2 h3 h4 h5 h6 h7 hp.2)
          · cases hx
        · cases hx
      · cases hx
  case invokespecial ix =>
    have hl3 : len = 3 := by simpa [ip_okl] using hln
    subst hl3
    simp only [ip_ex] at hx
    split at hx
    · (repeat' split at hx) <;> cases hx
    · split at hx
      · rename_i ci na hcall
        split at hx
        · rename_i k rest hdrop
          obtain ⟨rfl, g1, g2⟩ := ip_inv_spec hx
          obtain ⟨f1, f2, f3, f4, f5⟩ := ip_ckc_spec g1
          obtain ⟨hcs, -, -⟩ := ip_bud_spec g2 hc1 hc2
          simp only [ip_kchk, hcall, beq_iff_eq] at hkd
          simp only [ip_cchk, Bool.and_eq_true] at hck
          exact ip_callI ih hC hR hZ hA hfr hd hck.1 hcall (ip_noxt hnt) (ip_mOKn hcall hnt) hkd hdrop f1 f2 f3 f4 hcs hw (fun r ρ' h' H' locs' hp h1 h2 h3 h4 h5 h6 h7 => ip_on_ret ih hX g1 g2 hp.1 h1 h2 h3 h4 h5 h6 h7 hp.2)
        · cases hx
      · cases hx
  case invokestatic ix =>
    have hl3 : len = 3 := by simpa [ip_okl] using hln
    subst hl3
    simp only [ip_ex] at hx
    split at hx
    · split at hx
      · unfold ip_copy at hx
        split at hx <;> cases hx
      · cases hx
    · split at hx
      · rename_i ci na hcall
        obtain ⟨rfl, g1, g2⟩ := ip_inv_spec hx
        obtain ⟨f1, f2, f3, f4, f5⟩ := ip_ckc_spec g1
        obtain ⟨hcs, -, -⟩ := ip_bud_spec g2 hc1 hc2
        simp only [ip_kchk, hcall, beq_iff_eq] at hkd
        simp only [ip_cchk, Bool.and_eq_true] at hck
        exact ip_callS ih hC hR hZ hA hfr hd hck.1 hcall (ip_noxt hnt) (ip_mOKn hcall hnt) hkd f1 f2 f3 f4 hcs hw (fun r ρ' h' H' locs' hp h1 h2 h3 h4 h5 h6 h7 => ip_on_ret ih hX g1 g2 hp.1 h1 h2 h3 h4 h5 h6 h7 hp.2)
      · cases hx
  case new ix =>
    simp only [ip_ex] at hx
    (repeat' split at hx) <;> cases hx
  case newarray t =>
    simp only [ip_ex] at hx
    (repeat' split at hx) <;> cases hx
  case ireturn =>
    simp only [ip_ex] at hx
    (repeat' split at hx) <;> cases hx
  case lreturn =>
    simp only [ip_ex] at hx
    (repeat' split at hx) <;> cases hx
  case areturn =>
    simp only [ip_ex] at hx
    (repeat' split at hx) <;> cases hx
  case return_ =>
    simp only [ip_ex] at hx
    (repeat' split at hx) <;> cases hx
  case iaload =>
    simp only [ip_ex] at hx
    split at hx
    · (repeat' split at hx) <;> cases hx
    · exact (def1 hx).elim
  case arraylength =>
    simp only [ip_ex] at hx
    split at hx
    · (repeat' split at hx) <;> cases hx
    · exact (def1 hx).elim
  all_goals exact (def1 hx).elim
/-- an answer -/
theorem ip_ret_ex {ins : Instr} {r : Option Value} (hf : ip_fetch mi pc = some (ins, len)) (hx : ip_ex mi pc ins L S h b = some (.inr (.inr (.inl r)))) : decode (ip_bytes mi) pc = .ok (ins, 1) ∧ ip_isr ins r = true ∧ ip_isv mi r ∧ S = r.toList := by
  obtain ⟨hd, hln⟩ := ip_dec hf
  have def1 : ip_ex0 mi pc ins L S h b = some (.inr (.inr (.inl r))) → False := fun hs => by
    obtain ⟨_, _, _, _, h9, -⟩ := ip_ex0_nx hs
    cases h9
  cases ins
  case ireturn =>
    have hl3 : len = 1 := by simpa [ip_okl] using hln
    subst hl3
    simp only [ip_ex] at hx
    split at hx
    · split at hx
      · rename_i h1
        cases hx
        exact ⟨hd, rfl, Or.inl h1, rfl⟩
      · split at hx
        · rename_i h1
          split at hx
          · rename_i h2
            cases hx
            exact ⟨hd, rfl, Or.inr ⟨h1, h2⟩, rfl⟩
          · cases hx
        · cases hx
    · cases hx
  case lreturn =>
    have hl3 : len = 1 := by simpa [ip_okl] using hln
    subst hl3
    simp only [ip_ex] at hx
    split at hx
    · split at hx
      · rename_i h1
        cases hx
        exact ⟨hd, rfl, h1, rfl⟩
      · cases hx
    · cases hx
  case areturn =>
    have hl3 : len = 1 := by simpa [ip_okl] using hln
    subst hl3
    simp only [ip_ex] at hx
    split at hx
    · split at hx
      · rename_i h1
        cases hx
        exact ⟨hd, rfl, h1, rfl⟩
      · cases hx
    · cases hx
  case return_ =>
    have hl3 : len = 1 := by simpa [ip_okl] using hln
    subst hl3
    simp only [ip_ex] at hx
    split at hx
    · split at hx
      · rename_i h1
        cases hx
        exact ⟨hd, rfl, h1, rfl⟩
      · cases hx
    · cases hx
  case invokevirtual ix =>
    simp only [ip_ex, ip_inv] at hx
    (repeat' split at hx) <;> cases hx
  case invokespecial ix =>
    simp only [ip_ex, ip_inv] at hx
    (repeat' split at hx) <;> cases hx
  case invokestatic ix =>
    simp only [ip_ex, ip_inv, ip_copy] at hx
    (repeat' split at hx) <;> cases hx
  case new ix =>
    simp only [ip_ex] at hx
    (repeat' split at hx) <;> cases hx
  case newarray t =>
    simp only [ip_ex] at hx
    (repeat' split at hx) <;> cases hx
  case iaload =>
    simp only [ip_ex] at hx
    split at hx
    · (repeat' split at hx) <;> cases hx
    · exact (def1 hx).elim
  case arraylength =>
    simp only [ip_ex] at hx
    split at hx
    · (repeat' split at hx) <;> cases hx
    · exact (def1 hx).elim
  all_goals exact (def1 hx).elim
/-- what is thrown here -/
theorem ip_thr_ex {ins : Instr} {E : String} (hf : ip_fetch mi pc = some (ins, len)) (hx : ip_ex mi pc ins L S h b = some (.inr (.inr (.inr E)))) : ∃ ix, ins = .new ix ∧ ip_exc mi pc = some E ∧ (S.map fun v => v.category).sum ≤ 8 ∧ 1 ≤ b.1 ∧ 6 ≤ b.2 := by
  have def1 : ip_ex0 mi pc ins L S h b = some (.inr (.inr (.inr E))) → False := fun hs => by
    obtain ⟨_, _, _, _, h9, -⟩ := ip_ex0_nx hs
    cases h9
  cases ins
  case new ix =>
    simp only [ip_ex] at hx
    split at hx
    · rename_i E' hE
      split at hx
      · rename_i hc
        cases hx
        exact ⟨ix, rfl, hE, hc.1, hc.2.1, hc.2.2⟩
      · cases hx
    · (repeat' split at hx) <;> cases hx
  case invokevirtual ix =>
    simp only [ip_ex, ip_inv] at hx
    (repeat' split at hx) <;> cases hx
  case invokespecial ix =>
    simp only [ip_ex, ip_inv] at hx
    (repeat' split at hx) <;> cases hx
  case invokestatic ix =>
    simp only [ip_ex, ip_inv, ip_copy] at hx
    (repeat' split at hx) <;> cases hx
  case newarray t =>
    simp only [ip_ex] at hx
    (repeat' split at hx) <;> cases hx
  case ireturn =>
    simp only [ip_ex] at hx
    (repeat' split at hx) <;> cases hx
  case lreturn =>
    simp only [ip_ex] at hx
    (repeat' split at hx) <;> cases hx
  case areturn =>
    simp only [ip_ex] at hx
    (repeat' split at hx) <;> cases hx
  case return_ =>
    simp only [ip_ex] at hx
    (repeat' split at hx) <;> cases hx
  case iaload =>
    simp only [ip_ex] at hx
    split at hx
    · (repeat' split at hx) <;> cases hx
    · exact (def1 hx).elim
  case arraylength =>
    simp only [ip_ex] at hx
    split at hx
    · (repeat' split at hx) <;> cases hx
    · exact (def1 hx).elim
  all_goals exact (def1 hx).elim
/-- every run is sound (open: hE, hDH) -/
theorem ip_sound_open (hE : ip_EH l D dA) (hDH : ip_DH l D dA) : ∀ n, ip_SND l D dA n
  | 0 => fun _ _ _ _ _ _ _ _ hw => absurd hw id
  | n + 1 => by
    have ih := ip_sound_open hE hDH n
    intro mi pc L S h b post px hw p e R s m args below meth c A ρ ρ0 n0 H locs cells slots ls Q hC hR hZ hA hfr hag hal hn0 hc1 hc2 hXS hHR hHX
    have hX : ip_CTX l D dA p e R s m args below meth c A ρ ρ0 n0 H locs cells slots ls Q mi L h b post px := ⟨hC, hR, hZ, hA, hfr, hag, hal, hn0, hc1, hc2, hXS, hHR, hHX⟩
    unfold ip_wp at hw
    cases hf : ip_fetch mi pc with
    | none =>
      exfalso
      have : ip_st mi pc L S h b = none := by unfold ip_st; rw [hf]
      rw [this] at hw
      exact hw
    | some x =>
      obtain ⟨ins, len⟩ := x
      rw [ip_st_of hf] at hw
      cases hx : ip_ex mi pc ins L S h b with
      | none => rw [hx] at hw; exact hw.elim
      | some q =>
        rw [hx] at hw
        rcases q with q | q | r | E
        · obtain ⟨pc', L', S', h', b'⟩ := q
          exact ip_next hDH hC hR hZ hA hfr hag hal hn0 hc1 hc2 hXS hf hx (fun ρ' H' locs' ls' cells' slots' g1 g2 g3 g4 g5 g6 g7 => ih mi pc' L' S' h' b' post px hw p e R s m args below meth c A ρ' ρ0 n0 H' locs' cells' slots' ls' Q hC hR g1 hA g2 g3 g4 g5 g6 g7 (fun z => (hXS z).to ((g3 _ (Or.inr (Nat.le_refl _))).trans (hag _ (Or.inr (Nat.le_refl _))).symm) (ip_ex_sc hfr.2.2.2.2.1 hx)) hHR hHX)
        · by_cases hnt : ip_nt q.1 = true
          · refine ip_callNT ih hX hf hx hnt (ip_mono n _ _ _ _ _ _ _ _ _ _ (fun _ _ z => z) (fun E h' z => ?_) hw n (Nat.le_refl n))
            have e1 : ip_hd q.1 mi pc E = some none := by unfold ip_hd; rw [if_pos hnt]
            rw [e1] at z
            exact z
          · exact hE n ih mi pc len ins L S h b post px q hf hx (by simpa using hnt) hw p e R s m args below meth c A ρ ρ0 n0 H locs cells slots ls Q hX
        · obtain ⟨g1, g2, g3, g4⟩ := ip_ret_ex hf hx
          rw [g4]
          exact hHR ρ h H locs cells slots ls L pc r ins g1 g2 g3 hw hfr hag hal hn0 (by omega) (by omega)
        · obtain ⟨ix, rfl, g1, g2, g3, g4⟩ := ip_thr_ex hf hx
          exact (hHX ρ h H locs cells slots ls L S pc E hw hfr hZ hag hal hn0).1 ix len hf g1 (by omega) (by omega) g2
end IPTOP
