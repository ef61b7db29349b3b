/-! the script never changes -/
def ip_XS (ρ : Nat → Nat) (A : Nat → Prop) (s : State) (h : ip_H) : Prop := va_X (ρ ip_SC) (ip_scL h) (ip_scV h) s s.heap ∧ ρ ip_SC < s.heap.size ∧ ¬ A (ρ ip_SC)
def ip_sc (h h' : ip_H) : Prop := h'.1.length ≤ ip_SC ∧ h'.2.2.2 ip_SC = h.2.2.2 ip_SC
theorem ip_sc.trans {h1 h2 h3 : ip_H} (a : ip_sc h1 h2) (b : ip_sc h2 h3) : ip_sc h1 h3 := ⟨b.1, b.2.trans a.2⟩
theorem ip_XS.to {ρ ρ' : Nat → Nat} {A : Nat → Prop} {s : State} {h h' : ip_H} (hX : ip_XS ρ A s h) (hr : ρ' ip_SC = ρ ip_SC) (hs : ip_sc h h') : ip_XS ρ' A s h' := by
  have e1 : ip_scL h' = ip_scL h := by unfold ip_scL; rw [hs.2]
  have e2 : ip_scV h' = ip_scV h := by funext j; unfold ip_scV; rw [hs.2]
  unfold ip_XS
  rw [e1, e2, hr]
  exact hX
theorem ip_inA_lt {G : List ip_K} {k t : Nat} {i : Int32} (h : ip_inA G k t i = true) : k < G.length := by
  unfold ip_inA at h
  split at h
  · rename_i hk; exact (List.getElem?_eq_some_iff.mp hk).1
  · cases h
section IPSC
variable {mi pc pc' : Nat} {ins : Instr} {L L' : ip_Lo} {S S' : List Value} {h h' : ip_H} {b b' : ip_B}
set_option maxHeartbeats 4000000 in
theorem ip_ex0_sc (hn : h.1.length ≤ ip_SC) (hx : ip_ex0 mi pc ins L S h b = some (.inl (pc', L', S', h', b'))) : ip_sc h h' := by
  cases ins
  case lastore =>
    simp only [ip_ex0] at hx
    split at hx
    · split at hx
      · rename_i hi
        cases hx
        refine ⟨hn, ?_⟩
        show ip_up _ _ _ _ ip_SC = _
        rw [ip_up_row]
        intro e
        have := ip_inA_lt hi
        omega
      · cases hx
    · cases hx
  all_goals first
    | (cases hx; done)
    | (cases hx; exact ⟨hn, rfl⟩)
    | (simp only [ip_ex0] at hx; (repeat' split at hx) <;> first | (cases hx; done) | (cases hx; exact ⟨hn, rfl⟩))
theorem ip_ex_sc (hn : h.1.length ≤ ip_SC) (hx : ip_ex mi pc ins L S h b = some (.inl (pc', L', S', h', b'))) : ip_sc h h' := by
  have d0 : ip_ex0 mi pc ins L S h b = some (.inl (pc', L', S', h', b')) → ip_sc h h' := ip_ex0_sc hn
  cases ins
  case iaload =>
    simp only [ip_ex] at hx
    split at hx
    · (repeat' split at hx) <;> first | (cases hx; done) | (cases hx; exact ⟨hn, rfl⟩)
    · exact ip_ex0_sc hn hx
  case arraylength =>
    simp only [ip_ex] at hx
    split at hx
    · (repeat' split at hx) <;> first | (cases hx; done) | (cases hx; exact ⟨hn, rfl⟩)
    · exact ip_ex0_sc hn hx
  case invokevirtual ix =>
    simp only [ip_ex, ip_inv] at hx
    (repeat' split at hx) <;> first | (cases hx; done) | (cases hx; exact ⟨hn, rfl⟩)
  case invokespecial ix =>
    simp only [ip_ex, ip_inv] at hx
    (repeat' split at hx) <;> first | (cases hx; done) | (cases hx; exact ⟨hn, rfl⟩)
  case invokestatic ix =>
    simp only [ip_ex, ip_inv, ip_copy] at hx
    (repeat' split at hx) <;> first | (cases hx; done) | (cases hx; exact ⟨hn, rfl⟩)
  case new ix =>
    simp only [ip_ex] at hx
    split at hx
    · split at hx <;> cases hx
    · split at hx
      · split at hx
        · split at hx
          · rename_i hb
            cases hx
            exact ⟨by simp; omega, rfl⟩
          · cases hx
        · cases hx
      · cases hx
  case newarray t =>
    simp only [ip_ex] at hx
    split at hx
    · split at hx
      · split at hx
        · split at hx
          · rename_i hb
            cases hx
            refine ⟨by simp; omega, ?_⟩
            funext j
            show (if ip_SC = h.1.length then _ else _) = _
            rw [if_neg (by omega)]
          · cases hx
        · cases hx
      · cases hx
    · cases hx
  case ireturn => simp only [ip_ex] at hx; (repeat' split at hx) <;> cases hx
  case lreturn => simp only [ip_ex] at hx; (repeat' split at hx) <;> cases hx
  case areturn => simp only [ip_ex] at hx; (repeat' split at hx) <;> cases hx
  case return_ => simp only [ip_ex] at hx; (repeat' split at hx) <;> cases hx
  all_goals exact d0 hx
end IPSC
theorem ip_wp_sc : ∀ (n mi pc : Nat) (L : ip_Lo) (S : List Value) (h : ip_H) (b : ip_B) (post : Option Value → ip_H → Prop) (px : String → ip_H → Prop), h.1.length ≤ ip_SC → ip_wp n mi pc L S h b post px →
    ip_wp n mi pc L S h b (fun r h' => post r h' ∧ ip_sc h h') (fun E h' => px E h' ∧ ip_sc h h')
  | 0, _, _, _, _, _, _, _, _, _, hw => absurd hw id
  | n + 1, mi, pc, L, S, h, b, post, px, hn, hw => by
    unfold ip_wp at hw ⊢
    cases hs : ip_st mi pc L S h b with
    | none => rw [hs] at hw; exact absurd hw id
    | some q =>
      rw [hs] at hw
      rcases q with q | q | r | E
      · obtain ⟨pc', L', S', h', b'⟩ := q
        have hsc : ip_sc h h' := by
          cases hf : ip_fetch mi pc with
          | none => unfold ip_st at hs; rw [hf] at hs; cases hs
          | some x => obtain ⟨ins, len⟩ := x; rw [ip_st_of hf] at hs; exact ip_ex_sc hn hs
        exact ip_mono n _ _ _ _ _ _ _ _ _ _ (fun r h2 z => ⟨z.1, hsc.trans z.2⟩) (fun E h2 z => ⟨z.1, hsc.trans z.2⟩) (ip_wp_sc n _ _ _ _ _ _ post px hsc.1 hw) n (Nat.le_refl n)
      · refine ip_mono n _ _ _ _ _ _ _ _ _ _ (fun r h2 z => ?_) (fun E h2 z => ?_) (ip_wp_sc n _ _ _ _ _ _ _ _ hn hw) n (Nat.le_refl n)
        · exact ip_mono n _ _ _ _ _ _ _ _ _ _ (fun r h3 y => ⟨y.1, z.2.trans y.2⟩) (fun E h3 y => ⟨y.1, z.2.trans y.2⟩) (ip_wp_sc n _ _ _ _ _ _ post px z.2.1 z.1) n (Nat.le_refl n)
        · obtain ⟨z1, z2⟩ := z
          rcases hh : ip_hd q.1 mi pc E with _ | _ | w
          · rw [hh] at z1; exact ⟨z1, z2⟩
          · rw [hh] at z1; exact z1
          · rw [hh] at z1
            exact ip_mono n _ _ _ _ _ _ _ _ _ _ (fun r h3 y => ⟨y.1, z2.trans y.2⟩) (fun E h3 y => ⟨y.1, z2.trans y.2⟩) (ip_wp_sc n _ _ _ _ _ _ post px z2.1 z1) n (Nat.le_refl n)
      · exact ⟨hw, hn, rfl⟩
      · exact ⟨hw, hn, rfl⟩
set_option maxRecDepth 100000 in
theorem ip_calne : ∀ q ∈ ip_cals, ¬ q.2.2.1 = 209 := by decide +kernel
theorem ip_callne {mi ix ci na : Nat} (h : ip_call mi ix = some (ci, na)) : ¬ ci = 209 := ip_calne (ip_o mi, ix, ci, na) (ip_lk2_mem h)
