/-! stores into both cores -/
theorem vn0 : vp_nar .boolean 0 = 0 := by decide +kernel
theorem vn1 : vp_nar .boolean 1 = 1 := by decide +kernel
section
variable {Xc : Nat → Nat → Int32} {Ic : Nat → Nat → Int32} {X X' : Nat → Nat → Int32} {I : Nat → Nat → Int32} {ld qd pd : Nat}
theorem MV.stl_up (h : MV Xc Ic X I ld qd pd) {i : Nat} (hi : i < 12) : MV Xc (ip_up Ic 19 i 1) X (ip_up I 61 i 1) ld qd pd := by
  refine ⟨h.pt, ?_, ?_, ?_, ?_, ?_, ?_, ?_, ?_, ?_, ?_, ?_⟩
  · simp only [up1, Nat.reduceEqDiff, if_false]; exact h.res
  · simp only [up1, Nat.reduceEqDiff, if_false]; exact h.lat
  · simp only [up1, Nat.reduceEqDiff, if_false]; exact h.hla
  · intro k hk
    simp only [up1, if_true, updF_ap]
    by_cases e : k = i
    · rw [if_pos e, if_pos e]; exact ⟨rfl, Or.inr rfl⟩
    · rw [if_neg e, if_neg e]; exact h.stl k hk
  · simp only [up1, Nat.reduceEqDiff, if_false]; exact h.doe
  · simp only [up1, Nat.reduceEqDiff, if_false]; exact h.pth
  · simp only [up1, Nat.reduceEqDiff, if_false]; exact h.que
  · simp only [up1, Nat.reduceEqDiff, if_false]; exact h.qn
  · simp only [up1, Nat.reduceEqDiff, if_false]; exact h.prt
  · simp only [up1, Nat.reduceEqDiff, if_false]; exact h.prx
  · simp only [up1, Nat.reduceEqDiff, if_false]; exact h.ln
theorem MV.res_up (h : MV Xc Ic X I ld qd pd) {i u : Nat} (hu : u < cnt Xc 1) : MV Xc (ip_up Ic 17 i (nI u)) X (ip_up I 60 i (nI u)) ld qd pd := by
  refine ⟨h.pt, ?_, ?_, ?_, ?_, ?_, ?_, ?_, ?_, ?_, ?_, ?_⟩
  · intro k hk
    simp only [up1, if_true, updF_ap]
    by_cases e : k = i
    · rw [if_pos e, if_pos e]; exact ⟨rfl, Or.inr ⟨u, hu, rfl⟩⟩
    · rw [if_neg e, if_neg e]; exact h.res k hk
  · simp only [up1, Nat.reduceEqDiff, if_false]; exact h.lat
  · simp only [up1, Nat.reduceEqDiff, if_false]; exact h.hla
  · simp only [up1, Nat.reduceEqDiff, if_false]; exact h.stl
  · simp only [up1, Nat.reduceEqDiff, if_false]; exact h.doe
  · simp only [up1, Nat.reduceEqDiff, if_false]; exact h.pth
  · simp only [up1, Nat.reduceEqDiff, if_false]; exact h.que
  · simp only [up1, Nat.reduceEqDiff, if_false]; exact h.qn
  · simp only [up1, Nat.reduceEqDiff, if_false]; exact h.prt
  · simp only [up1, Nat.reduceEqDiff, if_false]; exact h.prx
  · simp only [up1, Nat.reduceEqDiff, if_false]; exact h.ln
theorem MV.doe_up (h : MV Xc Ic X I ld qd pd) {i u : Nat} (hu : u < cnt Xc 1) : MV Xc (ip_up Ic 21 i (nI u)) X (ip_up I 62 i (nI u)) ld qd pd := by
  refine ⟨h.pt, ?_, ?_, ?_, ?_, ?_, ?_, ?_, ?_, ?_, ?_, ?_⟩
  · simp only [up1, Nat.reduceEqDiff, if_false]; exact h.res
  · simp only [up1, Nat.reduceEqDiff, if_false]; exact h.lat
  · simp only [up1, Nat.reduceEqDiff, if_false]; exact h.hla
  · simp only [up1, Nat.reduceEqDiff, if_false]; exact h.stl
  · intro k hk
    simp only [up1, if_true, updF_ap]
    by_cases e : k = i
    · rw [if_pos e, if_pos e]; exact ⟨rfl, Or.inr ⟨u, hu, rfl⟩⟩
    · rw [if_neg e, if_neg e]; exact h.doe k hk
  · simp only [up1, Nat.reduceEqDiff, if_false]; exact h.pth
  · simp only [up1, Nat.reduceEqDiff, if_false]; exact h.que
  · simp only [up1, Nat.reduceEqDiff, if_false]; exact h.qn
  · simp only [up1, Nat.reduceEqDiff, if_false]; exact h.prt
  · simp only [up1, Nat.reduceEqDiff, if_false]; exact h.prx
  · simp only [up1, Nat.reduceEqDiff, if_false]; exact h.ln
theorem MV.lat_up (h : MV Xc Ic X I ld qd pd) {i : Nat} (hi : i < ld) {v : Int32} (h1 : 1 ≤ v) (h2 : v ≤ 99) : MV Xc (ip_up Ic 15 i v) X (ip_up (ip_up I 58 i v) 59 i 1) ld qd pd := by
  have hne : ¬ v = -1 := fun e => by rw [e] at h1; exact absurd h1 (by decide)
  refine ⟨h.pt, ?_, ?_, ?_, ?_, ?_, ?_, ?_, ?_, ?_, ?_, ?_⟩
  · simp only [up1, Nat.reduceEqDiff, if_false]; exact h.res
  · intro k hk
    simp only [up1, if_true, updF_ap, Nat.reduceEqDiff, if_false]
    by_cases e : k = i
    · rw [if_pos e, if_pos e, if_neg hne]
    · rw [if_neg e, if_neg e]; exact h.lat k hk
  · intro k hk
    simp only [up1, if_true, updF_ap, Nat.reduceEqDiff, if_false]
    by_cases e : k = i
    · rw [if_pos e]
      refine ⟨?_, ?_⟩
      · simp [e, hne, bI]
      · rw [if_pos e]; exact Or.inr ⟨h1, h2⟩
    · have := h.hla k hk
      simp only [e, if_false]
      exact this
  · simp only [up1, Nat.reduceEqDiff, if_false]; exact h.stl
  · simp only [up1, Nat.reduceEqDiff, if_false]; exact h.doe
  · simp only [up1, Nat.reduceEqDiff, if_false]; exact h.pth
  · simp only [up1, Nat.reduceEqDiff, if_false]; exact h.que
  · simp only [up1, Nat.reduceEqDiff, if_false]; exact h.qn
  · simp only [up1, Nat.reduceEqDiff, if_false]; exact h.prt
  · simp only [up1, Nat.reduceEqDiff, if_false]; exact h.prx
  · intro k hk hlk
    simp only [up1, if_true, updF_ap]
    rw [if_neg (by omega)]
    exact h.ln k hk hlk
theorem MV.prt_up (h : MV Xc Ic X I ld qd pd) (h12 : cnt Xc 0 ≤ 12) {p c : Nat} (hp : p < 8) (hc : c < 12) : MV Xc (ip_up Ic 31 p (Ic 31 p ||| 1 <<< (nI c &&& 31))) X (ip_up I 67 (12 * p + c) 1) ld qd pd := by
  refine ⟨h.pt, ?_, ?_, ?_, ?_, ?_, ?_, ?_, ?_, ?_, ?_, ?_⟩
  · simp only [up1, Nat.reduceEqDiff, if_false]; exact h.res
  · simp only [up1, Nat.reduceEqDiff, if_false]; exact h.lat
  · simp only [up1, Nat.reduceEqDiff, if_false]; exact h.hla
  · simp only [up1, Nat.reduceEqDiff, if_false]; exact h.stl
  · simp only [up1, Nat.reduceEqDiff, if_false]; exact h.doe
  · simp only [up1, Nat.reduceEqDiff, if_false]; exact h.pth
  · simp only [up1, Nat.reduceEqDiff, if_false]; exact h.que
  · simp only [up1, Nat.reduceEqDiff, if_false]; exact h.qn
  · intro q k hq hk
    simp only [up1, if_true, updF_ap]
    by_cases e : q = p
    · subst e
      rw [if_pos rfl]
      by_cases e2 : k = c
      · subst e2
        rw [if_pos rfl, bI_t ((bit_or hk hk _).mpr (Or.inr rfl))]
      · rw [if_neg (by omega), h.prt q k hq hk]
        exact bI_ext ⟨fun z => (bit_or hk hc _).mpr (Or.inl z), fun z => ((bit_or hk hc _).mp z).elim id (fun z => absurd z e2)⟩
    · rw [if_neg (by omega), if_neg e]; exact h.prt q k hq hk
  · intro q hq
    obtain ⟨k, hk, e⟩ := h.prx q hq
    refine ⟨k, hk, ?_⟩
    simp only [up1, if_true, updF_ap]
    by_cases e2 : q = p
    · subst e2
      rw [if_pos rfl]
      exact (bit_or (by omega) hc _).mpr (Or.inl e)
    · rw [if_neg e2]; exact e
  · simp only [up1, Nat.reduceEqDiff, if_false]; exact h.ln
theorem MV.pth_up (h : MV Xc Ic X I ld qd pd) {Xd : Nat → Nat → Int32} {a c n : Nat} (hn : Xc 5 13 = nI n) (hnb : n < 24) (ha : a < cnt Xc 1) (hc : c < cnt Xc 1) (e5 : Xd 5 13 = nI (n + 1)) (e0 : cnt Xd 0 = cnt Xc 0) (e1 : cnt Xd 1 = cnt Xc 1) (h23 : X' 47 23 = nI (n + 1)) : MV Xd (ip_up (ip_up Ic 23 n (nI a)) 25 n (nI c)) X' (ip_up (ip_up I 63 n (nI a)) 64 n (nI c)) ld qd pd := by
  refine ⟨by rw [h23, e5], ?_, ?_, ?_, ?_, ?_, ?_, ?_, ?_, ?_, ?_, ?_⟩
  · simp only [up1, Nat.reduceEqDiff, if_false]; rw [e1]; exact h.res
  · simp only [up1, Nat.reduceEqDiff, if_false]; exact h.lat
  · simp only [up1, Nat.reduceEqDiff, if_false]; exact h.hla
  · simp only [up1, Nat.reduceEqDiff, if_false]; exact h.stl
  · simp only [up1, Nat.reduceEqDiff, if_false]; rw [e1]; exact h.doe
  · intro k hk
    rw [e5, nI_clamp (by omega)] at hk
    simp only [up1, Nat.reduceEqDiff, if_false, if_true, updF_ap]
    by_cases e : k = n
    · simp only [e, if_true]
      exact ⟨trivial, trivial, ⟨a, by rw [e1]; exact ha, rfl⟩, ⟨c, by rw [e1]; exact hc, rfl⟩⟩
    · simp only [e, if_false]
      rw [e1]
      exact h.pth k (by rw [hn, nI_clamp (by omega)]; omega)
  · simp only [up1, Nat.reduceEqDiff, if_false]; rw [e1]; exact h.que
  · simp only [up1, Nat.reduceEqDiff, if_false]; exact h.qn
  · simp only [up1, Nat.reduceEqDiff, if_false]; exact h.prt
  · simp only [up1, Nat.reduceEqDiff, if_false]; rw [e0]; exact h.prx
  · simp only [up1, Nat.reduceEqDiff, if_false]; exact h.ln
end
