section IPSTR2
theorem s_ch : ∀ k, k < 256 → (((Int32.ofNat k) &&& 255).toUInt32 % 65536).toInt32 = Int32.ofNat k ∧ narrow .char (.int (Int32.ofNat k)) = .int (Int32.ofNat k) := by decide +kernel
theorem s_len {p : Program} {l : Launch} {e : Env} {R : Room} {s : State} {m : MethodId} {args : Array Value} {below : List Frame} {meth : Method} {c : Code} {H : Heap} {locs : List Loc} {cells slots : Nat} {Q : State → Prop} {cc : ByteArray} {pc : Nat} {ls : Array Slot} {rest : List Value} {A : Nat → Prop} {t N : Nat} {f : Nat → Value}
    (hexec : p.tables.exec = Jvm.exec) (hb : c.code = cc) (hT : va_T .byte t N f A s s.heap) (hS : va_S A s.heap H locs) (hdg : decode cc pc = .ok (.arraylength, 1))
    (kk : W p l e R s m args below meth c H locs cells slots Q (F0 m (pc + 1) ls (.int (Int32.ofNat N) :: rest))) : W p l e R s m args below meth c H locs cells slots Q (F0 m pc ls (.ref t :: rest)) := by
  obtain ⟨cell, h1, h2, h3, h4, h5, h6, h7⟩ := hT
  exact W.alen hexec hb (by rw [hS.2.1 t (Array.getElem?_eq_some_iff.mp h1).1 h7]; exact h1) h2 h5 rfl rfl hdg kk
set_option maxHeartbeats 4000000 in
set_option maxRecDepth 100000 in
theorem sM_lat (l : Launch) (a v j : Nat) (bs : List Nat) (hj : j < bs.length) (hn : bs.length < 2 ^ 31) (hk : bs.getD j 0 < 256) : Met l sy_lat (sw sy_lat prog_20_method_2_code 2 (some .char)) { frames := 2, cells := 0, slots := 0, locals := 43 } (va_Pc [.ref v, .int (nI j)] (sZ a v bs)) (ip_QH (some (.int (Int32.ofNat (bs.getD j 0))))) 0 0 (fun _ => False) := by
  refine Met.ofW (cc := prog_20_method_2_code) (maxL := 2) (ret := some .char) (by decide) rfl ?_
  intro p e s m args below meth c s₁ B hml hv
  obtain ⟨rfl, hZ⟩ := hv
  have hx := B.exec
  have hb := B.bytes
  have hr := B.returns
  have hlocks := B.notSynchronized
  have hts0 := atoms_spec (ws := sw sy_lat prog_20_method_2_code 2 (some .char)) B.pre
  have hts : ∀ w ∈ ip_gw, w.before _ s = true := fun w hw => hts0 w (List.mem_cons_of_mem _ hw)
  have hown : s.vm.findClass "java/lang/StringLatin1" = some m.cls := findClass_of_methodNamed B.named
  have hl := lv_entry ([.ref v, .int (nI j)]) (n := 2) (Nat.le_of_ble_eq_true rfl)
  rw [lg_entry_eq]
  generalize (lg_sl ([.ref v, .int (nI j)]) ++ List.replicate (2 - (lg_sl ([.ref v, .int (nI j)])).length) Slot.unset).toArray = ls at hl ⊢
  have hl : lv_has ls 2 [(0, .ref v), (1, .int (nI j))] := hl
  have hjn : j < 2 ^ 31 := by omega
  refine lv_iload_n hx hb sd_lat_0 rfl (lv_at hl 1 rfl) ?_
  refine lv_aload_n hx hb sd_lat_1 rfl (lv_at hl 0 rfl) ?_
  refine s_len hx hb hZ.2.2.2.1 va_S.rf sd_lat_2 ?_
  refine sC_after (va_runS (As := [.int (nI j), .int (Int32.ofNat bs.length)]) (rest := []) ⟨hx, hb, hml, hown, hts⟩ (sM_chk l (nI j) (Int32.ofNat bs.length) a v bs (nI_pos hjn) (nI_lt hj hn)) ⟨sC_B (n := 2) hts (ip_gw_t (i := 236) rfl (by decide +kernel)) (ip_gw_t (i := 9) (by decide +kernel) (by decide +kernel)) (ip_gw_t (i := 234) (by decide +kernel) (by decide +kernel)) (by decide +kernel) ⟨Nat.le_of_ble_eq_true rfl, Nat.le_of_ble_eq_true rfl⟩ rfl rfl, hts _ (ip_gw_t (i := 235) (by decide +kernel) (by decide +kernel))⟩ ⟨sZ_blind, sZ_pre hZ⟩ rfl rfl hl.1 rfl (lv_room (Nat.le_of_ble_eq_true rfl)) sd_lat_3 ⟨Nat.le_refl _, Nat.le_refl _⟩) ?_
  refine lv_aload_n hx hb sd_lat_6 rfl (lv_at hl 0 rfl) ?_
  refine lv_iload_n hx hb sd_lat_7 rfl (lv_at hl 1 rfl) ?_
  refine va_tb hx hb hZ.2.2.2.1 va_S.rf (vp_in_nI hj hn) (v := .int (Int32.ofNat (bs.getD j 0))) (by rw [nI_clamp hjn]) sd_lat_8 ?_
  refine lv_sipush (v := 255) hx hb sd_lat_9 (by decide) ?_
  refine lv_iand hx hb sd_lat_12 ?_
  refine lv_i2c (v := Int32.ofNat (bs.getD j 0)) hx hb sd_lat_13 (s_ch _ hk).1 ?_
  exact W.zret hx hb hr (s_ch _ hk).2 (fun t ht hW => ⟨rfl, ht⟩) (fun q hq => by cases hq) sd_lat_14 hlocks
set_option maxHeartbeats 4000000 in
set_option maxRecDepth 100000 in
theorem sM_isl (l : Launch) (a v : Nat) (bs : List Nat) : Met l sy_isl (sw sy_isl prog_19_method_154_code 1 (some .boolean)) { frames := 0, cells := 0, slots := 0, locals := 0 } (va_Pc [.ref a] (sZ a v bs)) (ip_QH (some (.int 1))) 0 0 (fun _ => False) := by
  refine Met.ofW (cc := prog_19_method_154_code) (maxL := 1) (ret := some .boolean) (by decide) rfl ?_
  intro p e s m args below meth c s₁ B hml hv
  obtain ⟨rfl, hZ⟩ := hv
  have hx := B.exec
  have hb := B.bytes
  have hr := B.returns
  have hlocks := B.notSynchronized
  have hts0 := atoms_spec (ws := sw sy_isl prog_19_method_154_code 1 (some .boolean)) B.pre
  have hts : ∀ w ∈ ip_gw, w.before _ s = true := fun w hw => hts0 w (List.mem_cons_of_mem _ hw)
  have hown : s.vm.findClass "java/lang/String" = some m.cls := findClass_of_methodNamed B.named
  have hl := lv_entry ([.ref a]) (n := 1) (Nat.le_of_ble_eq_true rfl)
  rw [lg_entry_eq]
  generalize (lg_sl ([.ref a]) ++ List.replicate (1 - (lg_sl ([.ref a])).length) Slot.unset).toArray = ls at hl ⊢
  have hl : lv_has ls 1 [(0, .ref a)] := hl
  refine va_gets (ref := "java/lang/String") hx hb hZ.2.2.2.2.1 va_S.rf hown (hts _ (ip_gw_t (i := 220) (by decide +kernel) (by decide +kernel))) (fun _ h9 => h9) sd_isl_0 ?_
  refine lv_if_eq (tgt := 17) hx hb sd_isl_3 (by decide) (fun q => absurd q (by decide)) (fun _ => ?_)
  refine lv_aload_n hx hb sd_isl_6 rfl (lv_at hl 0 rfl) ?_
  refine vk_getf (ref := "java/lang/String") hx hb hZ.2.1 va_S.rf hown (hts _ (ip_gw_t (i := 1402) (by decide +kernel) (by decide +kernel))) (fun _ h9 => h9) sd_isl_7 ?_
  refine lv_if_ne (tgt := 17) hx hb sd_isl_10 (by decide) (fun q => absurd rfl q) (fun _ => ?_)
  refine lv_iconst (v := 1) hx hb sd_isl_13 (by decide) ?_
  refine lv_goto (tgt := 18) hx hb sd_isl_14 (by decide) ?_
  exact W.zret hx hb hr (by decide) (fun t ht hW => ⟨rfl, ht⟩) (fun q hq => by cases hq) sd_isl_18 hlocks
set_option maxHeartbeats 4000000 in
set_option maxRecDepth 100000 in
theorem sM_cod (l : Launch) (a v : Nat) (bs : List Nat) : Met l sy_cod (sw sy_cod prog_19_method_152_code 1 (some .byte)) { frames := 0, cells := 0, slots := 0, locals := 0 } (va_Pc [.ref a] (sZ a v bs)) (ip_QH (some (.int 0))) 0 0 (fun _ => False) := by
  refine Met.ofW (cc := prog_19_method_152_code) (maxL := 1) (ret := some .byte) (by decide) rfl ?_
  intro p e s m args below meth c s₁ B hml hv
  obtain ⟨rfl, hZ⟩ := hv
  have hx := B.exec
  have hb := B.bytes
  have hr := B.returns
  have hlocks := B.notSynchronized
  have hts0 := atoms_spec (ws := sw sy_cod prog_19_method_152_code 1 (some .byte)) B.pre
  have hts : ∀ w ∈ ip_gw, w.before _ s = true := fun w hw => hts0 w (List.mem_cons_of_mem _ hw)
  have hown : s.vm.findClass "java/lang/String" = some m.cls := findClass_of_methodNamed B.named
  have hl := lv_entry ([.ref a]) (n := 1) (Nat.le_of_ble_eq_true rfl)
  rw [lg_entry_eq]
  generalize (lg_sl ([.ref a]) ++ List.replicate (1 - (lg_sl ([.ref a])).length) Slot.unset).toArray = ls at hl ⊢
  have hl : lv_has ls 1 [(0, .ref a)] := hl
  refine va_gets (ref := "java/lang/String") hx hb hZ.2.2.2.2.1 va_S.rf hown (hts _ (ip_gw_t (i := 220) (by decide +kernel) (by decide +kernel))) (fun _ h9 => h9) sd_cod_0 ?_
  refine lv_if_eq (tgt := 13) hx hb sd_cod_3 (by decide) (fun q => absurd q (by decide)) (fun _ => ?_)
  refine lv_aload_n hx hb sd_cod_6 rfl (lv_at hl 0 rfl) ?_
  refine vk_getf (ref := "java/lang/String") hx hb hZ.2.1 va_S.rf hown (hts _ (ip_gw_t (i := 1402) (by decide +kernel) (by decide +kernel))) (fun _ h9 => h9) sd_cod_7 ?_
  refine lv_goto (tgt := 14) hx hb sd_cod_10 (by decide) ?_
  exact W.zret hx hb hr (by decide) (fun t ht hW => ⟨rfl, ht⟩) (fun q hq => by cases hq) sd_cod_14 hlocks
theorem sZ_recv {a v : Nat} {bs : List Nat} {s : State} (h : sZ a v bs s) : ∃ cellB : Cell, s.heap[a]? = some cellB ∧ cellB.vm.isStatics = false ∧ s.vm.findClass "java/lang/String" = some cellB.cls := by
  obtain ⟨cell, h1, h2, h3, -⟩ := h.1
  exact ⟨cell, h1, h2, h3⟩
set_option maxHeartbeats 4000000 in
set_option maxRecDepth 100000 in
theorem sM_len (l : Launch) (a v : Nat) (bs : List Nat) (hn : bs.length < 2 ^ 31) : Met l sy_len (sw sy_len prog_19_method_54_code 1 (some .int)) { frames := 1, cells := 0, slots := 0, locals := 20 } (va_Pc [.ref a] (sZ a v bs)) (ip_QH (some (.int (Int32.ofNat bs.length)))) 0 0 (fun _ => False) := by
  refine Met.ofW (cc := prog_19_method_54_code) (maxL := 1) (ret := some .int) (by decide) rfl ?_
  intro p e s m args below meth c s₁ B hml hv
  obtain ⟨rfl, hZ⟩ := hv
  have hx := B.exec
  have hb := B.bytes
  have hr := B.returns
  have hlocks := B.notSynchronized
  have hts0 := atoms_spec (ws := sw sy_len prog_19_method_54_code 1 (some .int)) B.pre
  have hts : ∀ w ∈ ip_gw, w.before _ s = true := fun w hw => hts0 w (List.mem_cons_of_mem _ hw)
  have hown : s.vm.findClass "java/lang/String" = some m.cls := findClass_of_methodNamed B.named
  have hl := lv_entry ([.ref a]) (n := 1) (Nat.le_of_ble_eq_true rfl)
  rw [lg_entry_eq]
  generalize (lg_sl ([.ref a]) ++ List.replicate (1 - (lg_sl ([.ref a])).length) Slot.unset).toArray = ls at hl ⊢
  have hl : lv_has ls 1 [(0, .ref a)] := hl
  refine lv_aload_n hx hb sd_len_0 rfl (lv_at hl 0 rfl) ?_
  refine vk_getf (ref := "java/lang/String") hx hb hZ.2.2.1 va_S.rf hown (hts _ (ip_gw_t (i := 1401) (by decide +kernel) (by decide +kernel))) (fun _ h9 => h9) sd_len_1 ?_
  refine s_len hx hb hZ.2.2.2.1 va_S.rf sd_len_4 ?_
  refine lv_aload_n hx hb sd_len_5 rfl (lv_at hl 0 rfl) ?_
  refine sC_after (va_runV (As := []) (rest := [.int (Int32.ofNat bs.length)]) (C := "java/lang/String") ⟨hx, hb, hml, hown, hts⟩ (sM_cod l a v bs) ⟨sC_B (n := 0) hts (ip_gw_t (i := 219) rfl (by decide +kernel)) (ip_gw_t (i := 9) (by decide +kernel) (by decide +kernel)) (ip_gw_t (i := 216) (by decide +kernel) (by decide +kernel)) (by decide +kernel) ⟨Nat.le_of_ble_eq_true rfl, Nat.le_of_ble_eq_true rfl⟩ rfl rfl, hts _ (ip_gw_t (i := 217) (by decide +kernel) (by decide +kernel)), hts _ (ip_gw_t (i := 218) (by decide +kernel) (by decide +kernel))⟩ ⟨sZ_blind, sZ_recv hZ, sZ_pre hZ⟩ rfl rfl hl.1 rfl (lv_room (Nat.le_of_ble_eq_true rfl)) sd_len_6 ⟨Nat.le_refl _, Nat.le_refl _⟩) ?_
  refine lv_ishr hx hb sd_len_9 ?_
  rw [show Int32.ofNat bs.length >>> ((0 : Int32) &&& 31) = Int32.ofNat bs.length from sc_shr0 hn]
  exact W.iret hx hb hr (fun t ht hW => ⟨rfl, ht⟩) (fun q hq => by cases hq) sd_len_10 hlocks
set_option maxHeartbeats 4000000 in
set_option maxRecDepth 100000 in
theorem sM_cha (l : Launch) (a v j : Nat) (bs : List Nat) (hj : j < bs.length) (hn : bs.length < 2 ^ 31) (hk : bs.getD j 0 < 256) : Met l sy_cha (sw sy_cha prog_19_method_56_code 2 (some .char)) { frames := 3, cells := 0, slots := 0, locals := 64 } (va_Pc [.ref a, .int (nI j)] (sZ a v bs)) (ip_QH (some (.int (Int32.ofNat (bs.getD j 0))))) 0 0 (fun _ => False) := by
  refine Met.ofW (cc := prog_19_method_56_code) (maxL := 2) (ret := some .char) (by decide) rfl ?_
  intro p e s m args below meth c s₁ B hml hv
  obtain ⟨rfl, hZ⟩ := hv
  have hx := B.exec
  have hb := B.bytes
  have hr := B.returns
  have hlocks := B.notSynchronized
  have hts0 := atoms_spec (ws := sw sy_cha prog_19_method_56_code 2 (some .char)) B.pre
  have hts : ∀ w ∈ ip_gw, w.before _ s = true := fun w hw => hts0 w (List.mem_cons_of_mem _ hw)
  have hown : s.vm.findClass "java/lang/String" = some m.cls := findClass_of_methodNamed B.named
  have hl := lv_entry ([.ref a, .int (nI j)]) (n := 2) (Nat.le_of_ble_eq_true rfl)
  rw [lg_entry_eq]
  generalize (lg_sl ([.ref a, .int (nI j)]) ++ List.replicate (2 - (lg_sl ([.ref a, .int (nI j)])).length) Slot.unset).toArray = ls at hl ⊢
  have hl : lv_has ls 2 [(0, .ref a), (1, .int (nI j))] := hl
  refine lv_aload_n hx hb sd_cha_0 rfl (lv_at hl 0 rfl) ?_
  refine sC_after (va_runV (As := []) (rest := []) (C := "java/lang/String") ⟨hx, hb, hml, hown, hts⟩ (sM_isl l a v bs) ⟨sC_B (n := 0) hts (ip_gw_t (i := 230) rfl (by decide +kernel)) (ip_gw_t (i := 9) (by decide +kernel) (by decide +kernel)) (ip_gw_t (i := 227) (by decide +kernel) (by decide +kernel)) (by decide +kernel) ⟨Nat.le_of_ble_eq_true rfl, Nat.le_of_ble_eq_true rfl⟩ rfl rfl, hts _ (ip_gw_t (i := 228) (by decide +kernel) (by decide +kernel)), hts _ (ip_gw_t (i := 229) (by decide +kernel) (by decide +kernel))⟩ ⟨sZ_blind, sZ_recv hZ, sZ_pre hZ⟩ rfl rfl hl.1 rfl (lv_room (Nat.le_of_ble_eq_true rfl)) sd_cha_1 ⟨Nat.le_refl _, Nat.le_refl _⟩) ?_
  refine lv_if_eq (tgt := 16) hx hb sd_cha_4 (by decide) (fun q => absurd q (by decide)) (fun _ => ?_)
  refine lv_aload_n hx hb sd_cha_7 rfl (lv_at hl 0 rfl) ?_
  refine vk_getf (ref := "java/lang/String") hx hb hZ.2.2.1 va_S.rf hown (hts _ (ip_gw_t (i := 1401) (by decide +kernel) (by decide +kernel))) (fun _ h9 => h9) sd_cha_8 ?_
  refine lv_iload_n hx hb sd_cha_11 rfl (lv_at hl 1 rfl) ?_
  refine sC_after (va_runS (As := [.ref v, .int (nI j)]) (rest := []) ⟨hx, hb, hml, hown, hts⟩ (sM_lat l a v j bs hj hn hk) ⟨sC_B (n := 2) hts (ip_gw_t (i := 233) rfl (by decide +kernel)) (ip_gw_t (i := 10) (by decide +kernel) (by decide +kernel)) (ip_gw_t (i := 231) (by decide +kernel) (by decide +kernel)) (by decide +kernel) ⟨Nat.le_of_ble_eq_true rfl, Nat.le_of_ble_eq_true rfl⟩ rfl rfl, hts _ (ip_gw_t (i := 232) (by decide +kernel) (by decide +kernel))⟩ ⟨sZ_blind, sZ_pre hZ⟩ rfl rfl hl.1 rfl (lv_room (Nat.le_of_ble_eq_true rfl)) sd_cha_12 ⟨Nat.le_refl _, Nat.le_refl _⟩) ?_
  exact W.zret hx hb hr (s_ch _ hk).2 (fun t ht hW => ⟨rfl, ht⟩) (fun q hq => by cases hq) sd_cha_15 hlocks
end IPSTR2
