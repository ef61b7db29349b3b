/-! SOUND, one instruction of the simple kind: what the pure machine does, the real one does -/
section IPS0
variable {p : Program} {l : Launch} {e : Env} {R : Room} {s : State} {m : MethodId} {args : Array Value} {below : List Frame} {meth : Method} {c : Code} {H : Heap} {locs : List Loc} {cells slots : Nat} {Q : State → Prop}
variable {D : va_G} {dA : Nat → ClassId} {A : Nat → Prop} {ρ : Nat → Nat} {mi pc len : Nat} {L L' : ip_Lo} {S S' : List Value} {h h' : ip_H} {b b' : ip_B} {pc' : Nat} {ls : Array Slot}
set_option maxHeartbeats 8000000 in
set_option maxRecDepth 100000 in
theorem ip_step0 (hC : ip_Cx D dA mi p s m args meth c) (hZ : ip_Z ρ A s s.heap) {ins : Instr} (hft : ip_fetch mi pc = some (ins, len)) (hd : decode (ip_bytes mi) pc = .ok (ins, len)) (hlen : ip_okl ins len = true)
    (hs : ip_ex0 mi pc ins L S h b = some (.inl (pc', L', S', h', b'))) (hfr : ip_fr D dA A s mi ρ ls L h H locs)
    (kk : ∀ (H' : Heap) (locs' : List Loc) (ls' : Array Slot), b' = b → h'.1 = h.1 → ip_fr D dA A s mi ρ ls' L' h' H' locs' → W p l e R s m args below meth c H' locs' cells slots Q (F0 m pc' ls' (S'.map (ip_v ρ)))) :
    W p l e R s m args below meth c H locs cells slots Q (F0 m pc ls (S.map (ip_v ρ))) := by
  obtain ⟨hx, hb, hml, hown, hts, hK, hnm⟩ := id hC
  obtain ⟨hl, hP, hD, hS, hw⟩ := id hfr
  have hhas := ip_lo_has hl
  cases ins
  case aload i =>
    have hlen : len = 2 := by simpa [ip_okl] using hlen
    subst hlen
    simp only [ip_ex0] at hs
    split at hs
    · rename_i x hx2
      cases hs
      exact lv_aload hx hb hd (hl.2.2.2.1 _ _ hx2) (kk H locs ls rfl rfl hfr)
    · cases hs
  case aload_n i =>
    have hlen : len = 1 := by simpa [ip_okl] using hlen
    subst hlen
    simp only [ip_ex0] at hs
    split at hs
    · rename_i x hx2
      cases hs
      exact lv_aload_n hx hb hd rfl (hl.2.2.2.1 _ _ hx2) (kk H locs ls rfl rfl hfr)
    · cases hs
  case arraylength =>
    have hlen : len = 1 := by simpa [ip_okl] using hlen
    subst hlen
    simp only [ip_ex0] at hs
    split at hs
    · rename_i k S
      split at hs
      · rename_i n hn
        cases hs
        exact ip_alen hC hd hfr hn (kk H locs ls rfl rfl hfr)
      · cases hs
    · cases hs
  case astore i =>
    have hlen : len = 2 := by simpa [ip_okl] using hlen
    subst hlen
    simp only [ip_ex0] at hs
    split at hs
    · rename_i x S
      split at hs
      · rename_i hi
        cases hs
        refine lv_astore (lv := ip_as ρ L) hx hb hd hhas (by rw [← hl.2.2.1]; exact hi) rfl (fun ls' h' => ?_)
        exact kk H locs ls' rfl rfl ⟨ip_lo_st (v := .ref x) hl rfl h', hP, hD, hS, hw⟩
      · cases hs
    · cases hs
  case astore_n i =>
    have hlen : len = 1 := by simpa [ip_okl] using hlen
    subst hlen
    simp only [ip_ex0] at hs
    split at hs
    · rename_i x S
      split at hs
      · rename_i hi
        cases hs
        refine lv_astore_n (lv := ip_as ρ L) hx hb hd rfl hhas (by rw [← hl.2.2.1]; exact hi) rfl (fun ls' h' => ?_)
        exact kk H locs ls' rfl rfl ⟨ip_lo_st (v := .ref x) hl rfl h', hP, hD, hS, hw⟩
      · cases hs
    · cases hs
  case baload =>
    have hlen : len = 1 := by simpa [ip_okl] using hlen
    subst hlen
    simp only [ip_ex0] at hs
    split at hs
    · rename_i i k S
      split at hs
      · rename_i hi
        cases hs
        exact ip_bald hC hd hfr hi (kk H locs ls rfl rfl hfr)
      · cases hs
    · cases hs
  case bastore =>
    have hlen : len = 1 := by simpa [ip_okl] using hlen
    subst hlen
    simp only [ip_ex0] at hs
    split at hs
    · rename_i x i k S
      split at hs
      · rename_i hi
        cases hs
        exact ip_bast hC hd hfr hi (fun H' locs' hf => kk H' locs' ls rfl rfl hf)
      · split at hs
        · rename_i hi
          cases hs
          exact ip_zast hC hd hfr hi (fun H' locs' hf => kk H' locs' ls rfl rfl hf)
        · cases hs
    · cases hs
  case bipush n =>
    have hlen : len = 2 := by simpa [ip_okl] using hlen
    subst hlen
    simp only [ip_ex0] at hs
    cases hs
    exact lv_bipush hx hb hd rfl (kk H locs ls rfl rfl hfr)
  case dup =>
    have hlen : len = 1 := by simpa [ip_okl] using hlen
    subst hlen
    simp only [ip_ex0] at hs
    split at hs
    · cases hs
      exact lv_dup hx hb hd rfl (kk H locs ls rfl rfl hfr)
    · cases hs
      exact lv_dup hx hb hd rfl (kk H locs ls rfl rfl hfr)
    · cases hs
  case dup_x1 =>
    have hlen : len = 1 := by simpa [ip_okl] using hlen
    subst hlen
    simp only [ip_ex0] at hs
    split at hs
    · cases hs
      exact lv_dup_x1 hx hb hd rfl rfl (kk H locs ls rfl rfl hfr)
    · cases hs
  case dup2 =>
    have hlen : len = 1 := by simpa [ip_okl] using hlen
    subst hlen
    simp only [ip_ex0] at hs
    split at hs
    · cases hs
      exact lv_dup2_11 hx hb hd rfl rfl (kk H locs ls rfl rfl hfr)
    · cases hs
  case getfield ix =>
    have hlen : len = 3 := by simpa [ip_okl] using hlen
    subst hlen
    simp only [ip_ex0] at hs
    split at hs
    · rename_i k S
      split at hs
      · rename_i ci j hf
        split at hs
        · rename_i hi
          cases hs
          exact ip_getf hC hd hfr hf hi (kk H locs ls rfl rfl hfr)
        · cases hs
      · cases hs
    · cases hs
  case goto off =>
    have hlen : len = 3 := by simpa [ip_okl] using hlen
    subst hlen
    simp only [ip_ex0] at hs
    split at hs
    · rename_i t ht
      cases hs
      exact lv_goto hx hb hd (ip_to_eq ht) (kk H locs ls rfl rfl hfr)
    · cases hs
  case i2b =>
    have hlen : len = 1 := by simpa [ip_okl] using hlen
    subst hlen
    simp only [ip_ex0] at hs
    split at hs
    · cases hs
      exact lv_i2b hx hb hd rfl (kk H locs ls rfl rfl hfr)
    · cases hs
  case i2c =>
    have hlen : len = 1 := by simpa [ip_okl] using hlen
    subst hlen
    simp only [ip_ex0] at hs
    split at hs
    · cases hs
      exact lv_i2c hx hb hd rfl (kk H locs ls rfl rfl hfr)
    · cases hs
  case i2l =>
    have hlen : len = 1 := by simpa [ip_okl] using hlen
    subst hlen
    simp only [ip_ex0] at hs
    split at hs
    · cases hs
      exact lv_i2l hx hb hd rfl (kk H locs ls rfl rfl hfr)
    · cases hs
  case iadd =>
    have hlen : len = 1 := by simpa [ip_okl] using hlen
    subst hlen
    simp only [ip_ex0] at hs
    split at hs
    · cases hs
      exact lv_iadd hx hb hd (kk H locs ls rfl rfl hfr)
    · cases hs
  case iaload =>
    have hlen : len = 1 := by simpa [ip_okl] using hlen
    subst hlen
    simp only [ip_ex0] at hs
    split at hs
    · rename_i i k S
      split at hs
      · rename_i hi
        cases hs
        exact ip_iald hC hd hfr hi (kk H locs ls rfl rfl hfr)
      · cases hs
    · cases hs
  case iand =>
    have hlen : len = 1 := by simpa [ip_okl] using hlen
    subst hlen
    simp only [ip_ex0] at hs
    split at hs
    · cases hs
      exact lv_iand hx hb hd (kk H locs ls rfl rfl hfr)
    · cases hs
  case iastore =>
    have hlen : len = 1 := by simpa [ip_okl] using hlen
    subst hlen
    simp only [ip_ex0] at hs
    split at hs
    · rename_i x i k S
      split at hs
      · rename_i hi
        cases hs
        exact ip_iast hC hd hfr hi (fun H' locs' hf => kk H' locs' ls rfl rfl hf)
      · cases hs
    · cases hs
  case iconst n =>
    have hlen : len = 1 := by simpa [ip_okl] using hlen
    subst hlen
    simp only [ip_ex0] at hs
    cases hs
    exact lv_iconst hx hb hd rfl (kk H locs ls rfl rfl hfr)
  case idiv =>
    have hlen : len = 1 := by simpa [ip_okl] using hlen
    subst hlen
    simp only [ip_ex0] at hs
    split at hs
    · split at hs
      · cases hs
      · rename_i hne
        cases hs
        exact lv_idiv hx hb hd hne (kk H locs ls rfl rfl hfr)
    · cases hs
  case if_icmp cn off =>
    have hlen : len = 3 := by simpa [ip_okl] using hlen
    subst hlen
    simp only [ip_ex0] at hs
    split at hs
    · rename_i y x S
      split at hs
      · rename_i t ht
        cases hs
        have ht := ip_to_eq ht
        cases cn
        all_goals simp only [ip_cnd, decide_eq_true_eq, Bool.not_eq_true', decide_eq_false_iff_not] at kk
        · refine lv_icmp_eq hx hb hd ht (fun q => ?_) (fun q => ?_)
          · rw [if_pos q] at kk; exact kk H locs ls trivial trivial hfr
          · rw [if_neg q] at kk; exact kk H locs ls trivial trivial hfr
        · refine lv_icmp_ne hx hb hd ht (fun q => ?_) (fun q => ?_)
          · rw [if_pos q] at kk; exact kk H locs ls trivial trivial hfr
          · rw [if_neg (fun z => z q)] at kk; exact kk H locs ls trivial trivial hfr
        · refine lv_icmp_lt hx hb hd ht (fun q => ?_) (fun q => ?_)
          · rw [if_pos q] at kk; exact kk H locs ls trivial trivial hfr
          · rw [if_neg q] at kk; exact kk H locs ls trivial trivial hfr
        · refine lv_icmp_ge hx hb hd ht (fun q => ?_) (fun q => ?_)
          · rw [if_pos q] at kk; exact kk H locs ls trivial trivial hfr
          · rw [if_neg q] at kk; exact kk H locs ls trivial trivial hfr
        · refine lv_icmp_gt hx hb hd ht (fun q => ?_) (fun q => ?_)
          · rw [if_pos q] at kk; exact kk H locs ls trivial trivial hfr
          · rw [if_neg q] at kk; exact kk H locs ls trivial trivial hfr
        · refine lv_icmp_le hx hb hd ht (fun q => ?_) (fun q => ?_)
          · rw [if_pos q] at kk; exact kk H locs ls trivial trivial hfr
          · rw [if_neg q] at kk; exact kk H locs ls trivial trivial hfr
      · cases hs
    · cases hs
  case ifCond cn off =>
    have hlen : len = 3 := by simpa [ip_okl] using hlen
    subst hlen
    simp only [ip_ex0] at hs
    split at hs
    · rename_i x S
      split at hs
      · rename_i t ht
        cases hs
        have ht := ip_to_eq ht
        cases cn
        all_goals simp only [ip_cnd, decide_eq_true_eq, Bool.not_eq_true', decide_eq_false_iff_not] at kk
        · refine lv_if_eq hx hb hd ht (fun q => ?_) (fun q => ?_)
          · rw [if_pos q] at kk; exact kk H locs ls trivial trivial hfr
          · rw [if_neg q] at kk; exact kk H locs ls trivial trivial hfr
        · refine lv_if_ne hx hb hd ht (fun q => ?_) (fun q => ?_)
          · rw [if_pos q] at kk; exact kk H locs ls trivial trivial hfr
          · rw [if_neg (fun z => z q)] at kk; exact kk H locs ls trivial trivial hfr
        · refine lv_if_lt hx hb hd ht (fun q => ?_) (fun q => ?_)
          · rw [if_pos q] at kk; exact kk H locs ls trivial trivial hfr
          · rw [if_neg q] at kk; exact kk H locs ls trivial trivial hfr
        · refine lv_if_ge hx hb hd ht (fun q => ?_) (fun q => ?_)
          · rw [if_pos q] at kk; exact kk H locs ls trivial trivial hfr
          · rw [if_neg q] at kk; exact kk H locs ls trivial trivial hfr
        · refine lv_if_gt hx hb hd ht (fun q => ?_) (fun q => ?_)
          · rw [if_pos q] at kk; exact kk H locs ls trivial trivial hfr
          · rw [if_neg q] at kk; exact kk H locs ls trivial trivial hfr
        · refine lv_if_le hx hb hd ht (fun q => ?_) (fun q => ?_)
          · rw [if_pos q] at kk; exact kk H locs ls trivial trivial hfr
          · rw [if_neg q] at kk; exact kk H locs ls trivial trivial hfr
      · cases hs
    · cases hs
  case iinc i n =>
    have hlen : len = 3 := by simpa [ip_okl] using hlen
    subst hlen
    simp only [ip_ex0] at hs
    split at hs
    · rename_i x hx2
      cases hs
      obtain ⟨k, hk⟩ := List.getElem?_of_mem (ip_as_mem (ρ := ρ) hx2)
      refine lv_iinc (lv := ip_as ρ L) (k := k) hx hb hd hhas hk rfl (by rw [← hl.2.2.1]; exact (List.getElem?_eq_some_iff.mp hx2).1) rfl (fun ls' h' => ?_)
      exact kk H locs ls' rfl rfl ⟨ip_lo_st (v := .int (x + Int32.ofInt n)) hl rfl h', hP, hD, hS, hw⟩
    · cases hs
  case iload i =>
    have hlen : len = 2 := by simpa [ip_okl] using hlen
    subst hlen
    simp only [ip_ex0] at hs
    split at hs
    · rename_i x hx2
      cases hs
      exact lv_iload hx hb hd (hl.2.2.2.1 _ _ hx2) (kk H locs ls rfl rfl hfr)
    · cases hs
  case iload_n i =>
    have hlen : len = 1 := by simpa [ip_okl] using hlen
    subst hlen
    simp only [ip_ex0] at hs
    split at hs
    · rename_i x hx2
      cases hs
      exact lv_iload_n hx hb hd rfl (hl.2.2.2.1 _ _ hx2) (kk H locs ls rfl rfl hfr)
    · cases hs
  case imul =>
    have hlen : len = 1 := by simpa [ip_okl] using hlen
    subst hlen
    simp only [ip_ex0] at hs
    split at hs
    · cases hs
      exact lv_imul hx hb hd (kk H locs ls rfl rfl hfr)
    · cases hs
  case ineg =>
    have hlen : len = 1 := by simpa [ip_okl] using hlen
    subst hlen
    simp only [ip_ex0] at hs
    split at hs
    · cases hs
      exact lv_ineg hx hb hd (kk H locs ls rfl rfl hfr)
    · cases hs
  case ior =>
    have hlen : len = 1 := by simpa [ip_okl] using hlen
    subst hlen
    simp only [ip_ex0] at hs
    split at hs
    · cases hs
      exact lv_ior hx hb hd (kk H locs ls rfl rfl hfr)
    · cases hs
  case irem =>
    have hlen : len = 1 := by simpa [ip_okl] using hlen
    subst hlen
    simp only [ip_ex0] at hs
    split at hs
    · split at hs
      · cases hs
      · rename_i hne
        cases hs
        exact lv_irem hx hb hd hne (kk H locs ls rfl rfl hfr)
    · cases hs
  case ishl =>
    have hlen : len = 1 := by simpa [ip_okl] using hlen
    subst hlen
    simp only [ip_ex0] at hs
    split at hs
    · cases hs
      exact lv_ishl hx hb hd (kk H locs ls rfl rfl hfr)
    · cases hs
  case ishr =>
    have hlen : len = 1 := by simpa [ip_okl] using hlen
    subst hlen
    simp only [ip_ex0] at hs
    split at hs
    · cases hs
      exact lv_ishr hx hb hd (kk H locs ls rfl rfl hfr)
    · cases hs
  case istore i =>
    have hlen : len = 2 := by simpa [ip_okl] using hlen
    subst hlen
    simp only [ip_ex0] at hs
    split at hs
    · rename_i x S
      split at hs
      · rename_i hi
        cases hs
        refine lv_istore (lv := ip_as ρ L) hx hb hd hhas (by rw [← hl.2.2.1]; exact hi) rfl (fun ls' h' => ?_)
        exact kk H locs ls' rfl rfl ⟨ip_lo_st (v := .int x) hl rfl h', hP, hD, hS, hw⟩
      · cases hs
    · cases hs
  case istore_n i =>
    have hlen : len = 1 := by simpa [ip_okl] using hlen
    subst hlen
    simp only [ip_ex0] at hs
    split at hs
    · rename_i x S
      split at hs
      · rename_i hi
        cases hs
        refine lv_istore_n (lv := ip_as ρ L) hx hb hd rfl hhas (by rw [← hl.2.2.1]; exact hi) rfl (fun ls' h' => ?_)
        exact kk H locs ls' rfl rfl ⟨ip_lo_st (v := .int x) hl rfl h', hP, hD, hS, hw⟩
      · cases hs
    · cases hs
  case isub =>
    have hlen : len = 1 := by simpa [ip_okl] using hlen
    subst hlen
    simp only [ip_ex0] at hs
    split at hs
    · cases hs
      exact lv_isub hx hb hd (kk H locs ls rfl rfl hfr)
    · cases hs
  case iushr =>
    have hlen : len = 1 := by simpa [ip_okl] using hlen
    subst hlen
    simp only [ip_ex0] at hs
    split at hs
    · cases hs
      exact lv_iushr hx hb hd rfl (kk H locs ls rfl rfl hfr)
    · cases hs
  case ixor =>
    have hlen : len = 1 := by simpa [ip_okl] using hlen
    subst hlen
    simp only [ip_ex0] at hs
    split at hs
    · cases hs
      exact lv_ixor hx hb hd (kk H locs ls rfl rfl hfr)
    · cases hs
  case l2i =>
    have hlen : len = 1 := by simpa [ip_okl] using hlen
    subst hlen
    simp only [ip_ex0] at hs
    split at hs
    · cases hs
      exact lv_l2i hx hb hd rfl (kk H locs ls rfl rfl hfr)
    · cases hs
  case ladd =>
    have hlen : len = 1 := by simpa [ip_okl] using hlen
    subst hlen
    simp only [ip_ex0] at hs
    split at hs
    · cases hs
      exact lv_ladd hx hb hd (kk H locs ls rfl rfl hfr)
    · cases hs
  case laload =>
    have hlen : len = 1 := by simpa [ip_okl] using hlen
    subst hlen
    simp only [ip_ex0] at hs
    split at hs
    · rename_i i k S
      split at hs
      · rename_i hi
        cases hs
        exact ip_lald hC hd hfr hi (kk H locs ls rfl rfl hfr)
      · cases hs
    · cases hs
  case lastore =>
    have hlen : len = 1 := by simpa [ip_okl] using hlen
    subst hlen
    simp only [ip_ex0] at hs
    split at hs
    · rename_i x i k S
      split at hs
      · rename_i hi
        cases hs
        exact ip_last hC hd hfr hi (fun H' locs' hf => kk H' locs' ls rfl rfl hf)
      · cases hs
    · cases hs
  case lcmp =>
    have hlen : len = 1 := by simpa [ip_okl] using hlen
    subst hlen
    simp only [ip_ex0] at hs
    split at hs
    · cases hs
      exact W.lcmp hx hb hd (kk H locs ls rfl rfl hfr)
    · cases hs
  case lconst n =>
    have hlen : len = 1 := by simpa [ip_okl] using hlen
    subst hlen
    simp only [ip_ex0] at hs
    cases hs
    exact lv_lconst hx hb hd rfl (kk H locs ls rfl rfl hfr)
  case ldc ix =>
    have hlen : len = 2 := by simpa [ip_okl] using hlen
    subst hlen
    simp only [ip_ex0] at hs
    split at hs
    · rename_i x hv
      cases hs
      exact ip_ldc hC hZ hd hv (kk H locs ls rfl rfl hfr)
    · cases hs
  case ldc2_w ix =>
    have hlen : len = 3 := by simpa [ip_okl] using hlen
    subst hlen
    simp only [ip_ex0] at hs
    split at hs
    · rename_i x hv
      cases hs
      exact ip_ldc2_w hC hd hv (kk H locs ls rfl rfl hfr)
    · cases hs
  case ldiv =>
    have hlen : len = 1 := by simpa [ip_okl] using hlen
    subst hlen
    simp only [ip_ex0] at hs
    split at hs
    · split at hs
      · cases hs
      · rename_i hne
        cases hs
        exact lv_ldiv hx hb hd hne (kk H locs ls rfl rfl hfr)
    · cases hs
  case lload i =>
    have hlen : len = 2 := by simpa [ip_okl] using hlen
    subst hlen
    simp only [ip_ex0] at hs
    split at hs
    · rename_i x hx2
      cases hs
      exact lv_lload hx hb hd (hl.2.2.2.1 _ _ hx2) (kk H locs ls rfl rfl hfr)
    · cases hs
  case lload_n i =>
    have hlen : len = 1 := by simpa [ip_okl] using hlen
    subst hlen
    simp only [ip_ex0] at hs
    split at hs
    · rename_i x hx2
      cases hs
      exact lv_lload_n hx hb hd rfl (hl.2.2.2.1 _ _ hx2) (kk H locs ls rfl rfl hfr)
    · cases hs
  case lmul =>
    have hlen : len = 1 := by simpa [ip_okl] using hlen
    subst hlen
    simp only [ip_ex0] at hs
    split at hs
    · cases hs
      exact lv_lmul hx hb hd (kk H locs ls rfl rfl hfr)
    · cases hs
  case lookupswitch d ps =>
    simp only [ip_ex0] at hs
    split at hs
    · rename_i x S
      split at hs
      · rename_i t ht
        split at hs
        · rename_i hp
          cases hs
          exact lv_lookup hx hb hd hp rfl (ip_to_eq ht) (kk H locs ls rfl rfl hfr)
        · cases hs
      · cases hs
    · cases hs
  case lrem =>
    have hlen : len = 1 := by simpa [ip_okl] using hlen
    subst hlen
    simp only [ip_ex0] at hs
    split at hs
    · split at hs
      · cases hs
      · rename_i hne
        cases hs
        exact lv_lrem hx hb hd hne (kk H locs ls rfl rfl hfr)
    · cases hs
  case lstore i =>
    have hlen : len = 2 := by simpa [ip_okl] using hlen
    subst hlen
    simp only [ip_ex0] at hs
    split at hs
    · rename_i x S
      split at hs
      · rename_i hi
        cases hs
        refine lv_lstore (lv := ip_as ρ L) hx hb hd hhas (by rw [← hl.2.2.1]; exact hi.1) rfl (fun ls' h' => ?_)
        exact kk H locs ls' rfl rfl ⟨ip_lo_stL hl hi.2 h', hP, hD, hS, hw⟩
      · cases hs
    · cases hs
  case lstore_n i =>
    have hlen : len = 1 := by simpa [ip_okl] using hlen
    subst hlen
    simp only [ip_ex0] at hs
    split at hs
    · rename_i x S
      split at hs
      · rename_i hi
        cases hs
        refine lv_lstore_n (lv := ip_as ρ L) hx hb hd rfl hhas (by rw [← hl.2.2.1]; exact hi.1) rfl (fun ls' h' => ?_)
        exact kk H locs ls' rfl rfl ⟨ip_lo_stL hl hi.2 h', hP, hD, hS, hw⟩
      · cases hs
    · cases hs
  case lsub =>
    have hlen : len = 1 := by simpa [ip_okl] using hlen
    subst hlen
    simp only [ip_ex0] at hs
    split at hs
    · cases hs
      exact lv_lsub hx hb hd (kk H locs ls rfl rfl hfr)
    · cases hs
  case pop =>
    have hlen : len = 1 := by simpa [ip_okl] using hlen
    subst hlen
    simp only [ip_ex0] at hs
    split at hs
    · cases hs
      exact lv_pop hx hb hd rfl (kk H locs ls rfl rfl hfr)
    · cases hs
      exact lv_pop hx hb hd rfl (kk H locs ls rfl rfl hfr)
    · cases hs
  case putfield ix =>
    have hlen : len = 3 := by simpa [ip_okl] using hlen
    subst hlen
    simp only [ip_ex0] at hs
    split at hs
    · rename_i v k S
      split at hs
      · rename_i ci j hf
        split at hs
        · rename_i hi
          cases hs
          exact ip_putf hC hft hd hfr hf hi (fun H' locs' hf => kk H' locs' ls rfl rfl hf)
        · cases hs
      · cases hs
    · cases hs
  case sipush n =>
    have hlen : len = 3 := by simpa [ip_okl] using hlen
    subst hlen
    simp only [ip_ex0] at hs
    cases hs
    exact lv_sipush hx hb hd rfl (kk H locs ls rfl rfl hfr)
  case tableswitch d lo hi offs =>
    simp only [ip_ex0] at hs
    split at hs
    · rename_i x S
      split at hs
      · rename_i t ht
        split at hs
        · rename_i hz
          cases hs
          have ht := ip_to_eq ht
          by_cases hq : x.toInt < lo ∨ hi < x.toInt
          · rw [if_pos hq] at ht
            exact lv_tableOut hx hb hd hq ht (kk H locs ls rfl rfl hfr)
          · rw [if_neg hq] at ht
            have h1 : ¬ x.toInt < lo := fun z => hq (Or.inl z)
            have h2 : ¬ hi < x.toInt := fun z => hq (Or.inr z)
            have h3 : (x.toInt - lo).toNat < offs.size := by omega
            refine lv_tableIn (off := offs.getD (x.toInt - lo).toNat d) hx hb hd h1 h2 ?_ ht (kk H locs ls rfl rfl hfr)
            rw [Array.getElem?_eq_getElem h3]
            simp [Array.getD, h3]
        · cases hs
      · cases hs
    · cases hs
  all_goals exact absurd hs (by simp [ip_ex0])
set_option maxHeartbeats 8000000 in
set_option maxRecDepth 100000 in
theorem ip_ex0_nx {ins : Instr} {q} (hq : ip_ex0 mi pc ins L S h b = some q) : ∃ (pc' : Nat) (L' : ip_Lo) (S' : List Value) (h' : ip_H), q = .inl (pc', L', S', h', b) ∧ h'.1 = h.1 := by
  cases ins <;> simp only [ip_ex0] at hq <;> (repeat' split at hq) <;> first | (cases hq; done) | (cases hq; exact ⟨_, _, _, _, rfl, rfl⟩)
end IPS0
