/-! the model's core against the class's: values -/
/-- ld, qd, pd: how many classes, queues, ports are told to their end -/
abbrev MV (Xc : Nat → Nat → Int32) (Ic : Nat → Nat → Int32) (X : Nat → Nat → Int32) (I : Nat → Nat → Int32) (ld qd pd : Nat) : Prop := (X 47 23 = Xc 5 13) ∧ (∀ k, k < 12 → I 60 k = Ic 17 k ∧ (Ic 17 k = -1 ∨ ∃ s, s < cnt Xc 1 ∧ Ic 17 k = nI s)) ∧ (∀ k, k < ld → I 58 k = if Ic 15 k = -1 then 1 else Ic 15 k) ∧ (∀ k, k < 12 → I 59 k = bI (¬ Ic 15 k = -1) ∧ (Ic 15 k = -1 ∨ (1 ≤ Ic 15 k ∧ Ic 15 k ≤ 99))) ∧ (∀ k, k < 12 → I 61 k = Ic 19 k ∧ (Ic 19 k = 0 ∨ Ic 19 k = 1)) ∧ (∀ t, t < 7 → I 62 t = Ic 21 t ∧ (Ic 21 t = -1 ∨ ∃ s, s < cnt Xc 1 ∧ Ic 21 t = nI s)) ∧ (∀ k, k < (Xc 5 13).toNatClampNeg → I 63 k = Ic 23 k ∧ I 64 k = Ic 25 k ∧ (∃ a, a < cnt Xc 1 ∧ Ic 23 k = nI a) ∧ (∃ a, a < cnt Xc 1 ∧ Ic 25 k = nI a)) ∧ (∀ k, k < qd → I 65 k = Ic 27 k ∧ I 66 k = Ic 29 k ∧ (1 ≤ Ic 27 k ∧ Ic 27 k ≤ 999) ∧ (Ic 29 k = -1 ∨ ∃ a, a < cnt Xc 1 ∧ Ic 29 k = nI a)) ∧ (∀ k, k < 8 → qd ≤ k → Ic 29 k = -1) ∧ (∀ p k, p < 8 → k < 12 → I 67 (12 * p + k) = bI (bitP (Ic 31 p) (nI k) = true)) ∧ (∀ p, p < pd → ∃ k, k < cnt Xc 0 ∧ bitP (Ic 31 p) (nI k) = true) ∧ (∀ k, k < 12 → ld ≤ k → Ic 15 k = -1)
theorem MV.pt {Xc : Nat → Nat → Int32} {Ic : Nat → Nat → Int32} {X : Nat → Nat → Int32} {I : Nat → Nat → Int32} {ld qd pd : Nat} (h : MV Xc Ic X I ld qd pd) : X 47 23 = Xc 5 13 := h.1
theorem MV.res {Xc : Nat → Nat → Int32} {Ic : Nat → Nat → Int32} {X : Nat → Nat → Int32} {I : Nat → Nat → Int32} {ld qd pd : Nat} (h : MV Xc Ic X I ld qd pd) : ∀ k, k < 12 → I 60 k = Ic 17 k ∧ (Ic 17 k = -1 ∨ ∃ s, s < cnt Xc 1 ∧ Ic 17 k = nI s) := h.2.1
theorem MV.lat {Xc : Nat → Nat → Int32} {Ic : Nat → Nat → Int32} {X : Nat → Nat → Int32} {I : Nat → Nat → Int32} {ld qd pd : Nat} (h : MV Xc Ic X I ld qd pd) : ∀ k, k < ld → I 58 k = if Ic 15 k = -1 then 1 else Ic 15 k := h.2.2.1
theorem MV.hla {Xc : Nat → Nat → Int32} {Ic : Nat → Nat → Int32} {X : Nat → Nat → Int32} {I : Nat → Nat → Int32} {ld qd pd : Nat} (h : MV Xc Ic X I ld qd pd) : ∀ k, k < 12 → I 59 k = bI (¬ Ic 15 k = -1) ∧ (Ic 15 k = -1 ∨ (1 ≤ Ic 15 k ∧ Ic 15 k ≤ 99)) := h.2.2.2.1
theorem MV.stl {Xc : Nat → Nat → Int32} {Ic : Nat → Nat → Int32} {X : Nat → Nat → Int32} {I : Nat → Nat → Int32} {ld qd pd : Nat} (h : MV Xc Ic X I ld qd pd) : ∀ k, k < 12 → I 61 k = Ic 19 k ∧ (Ic 19 k = 0 ∨ Ic 19 k = 1) := h.2.2.2.2.1
theorem MV.doe {Xc : Nat → Nat → Int32} {Ic : Nat → Nat → Int32} {X : Nat → Nat → Int32} {I : Nat → Nat → Int32} {ld qd pd : Nat} (h : MV Xc Ic X I ld qd pd) : ∀ t, t < 7 → I 62 t = Ic 21 t ∧ (Ic 21 t = -1 ∨ ∃ s, s < cnt Xc 1 ∧ Ic 21 t = nI s) := h.2.2.2.2.2.1
theorem MV.pth {Xc : Nat → Nat → Int32} {Ic : Nat → Nat → Int32} {X : Nat → Nat → Int32} {I : Nat → Nat → Int32} {ld qd pd : Nat} (h : MV Xc Ic X I ld qd pd) : ∀ k, k < (Xc 5 13).toNatClampNeg → I 63 k = Ic 23 k ∧ I 64 k = Ic 25 k ∧ (∃ a, a < cnt Xc 1 ∧ Ic 23 k = nI a) ∧ (∃ a, a < cnt Xc 1 ∧ Ic 25 k = nI a) := h.2.2.2.2.2.2.1
theorem MV.que {Xc : Nat → Nat → Int32} {Ic : Nat → Nat → Int32} {X : Nat → Nat → Int32} {I : Nat → Nat → Int32} {ld qd pd : Nat} (h : MV Xc Ic X I ld qd pd) : ∀ k, k < qd → I 65 k = Ic 27 k ∧ I 66 k = Ic 29 k ∧ (1 ≤ Ic 27 k ∧ Ic 27 k ≤ 999) ∧ (Ic 29 k = -1 ∨ ∃ a, a < cnt Xc 1 ∧ Ic 29 k = nI a) := h.2.2.2.2.2.2.2.1
theorem MV.qn {Xc : Nat → Nat → Int32} {Ic : Nat → Nat → Int32} {X : Nat → Nat → Int32} {I : Nat → Nat → Int32} {ld qd pd : Nat} (h : MV Xc Ic X I ld qd pd) : ∀ k, k < 8 → qd ≤ k → Ic 29 k = -1 := h.2.2.2.2.2.2.2.2.1
theorem MV.prt {Xc : Nat → Nat → Int32} {Ic : Nat → Nat → Int32} {X : Nat → Nat → Int32} {I : Nat → Nat → Int32} {ld qd pd : Nat} (h : MV Xc Ic X I ld qd pd) : ∀ p k, p < 8 → k < 12 → I 67 (12 * p + k) = bI (bitP (Ic 31 p) (nI k) = true) := h.2.2.2.2.2.2.2.2.2.1
theorem MV.prx {Xc : Nat → Nat → Int32} {Ic : Nat → Nat → Int32} {X : Nat → Nat → Int32} {I : Nat → Nat → Int32} {ld qd pd : Nat} (h : MV Xc Ic X I ld qd pd) : ∀ p, p < pd → ∃ k, k < cnt Xc 0 ∧ bitP (Ic 31 p) (nI k) = true := h.2.2.2.2.2.2.2.2.2.2.1
theorem MV.ln {Xc : Nat → Nat → Int32} {Ic : Nat → Nat → Int32} {X : Nat → Nat → Int32} {I : Nat → Nat → Int32} {ld qd pd : Nat} (h : MV Xc Ic X I ld qd pd) : ∀ k, k < 12 → ld ≤ k → Ic 15 k = -1 := h.2.2.2.2.2.2.2.2.2.2.2
/-- at a statement's begin or end -/
abbrev MVf (Xc : Nat → Nat → Int32) (Ic : Nat → Nat → Int32) (X : Nat → Nat → Int32) (I : Nat → Nat → Int32) : Prop := MV Xc Ic X I (cnt Xc 0) (cnt Xc 2) (cnt Xc 3)
section
variable {Xc Xc' : Nat → Nat → Int32} {Ic : Nat → Nat → Int32} {X X' : Nat → Nat → Int32} {I I' : Nat → Nat → Int32} {ld qd pd : Nat}
/-- the model's arrays 58 .. 67 as they were, more names -/
theorem MV.of (h : MV Xc Ic X I ld qd pd) (h23 : X' 47 23 = X 47 23) (hI : ∀ a, 57 < a → I' a = I a) (h0 : cnt Xc 0 ≤ cnt Xc' 0) (h1 : cnt Xc 1 ≤ cnt Xc' 1) (h5 : Xc' 5 13 = Xc 5 13) : MV Xc' Ic X' I' ld qd pd := by
  and_intros
  · rw [h23, h5]; exact h.pt
  · intro k hk
    rw [hI 60 (by decide)]
    obtain ⟨a, c⟩ := h.res k hk
    exact ⟨a, c.imp id (fun ⟨s, hs, e⟩ => ⟨s, by omega, e⟩)⟩
  · intro k hk
    rw [hI 58 (by decide)]
    exact h.lat k hk
  · intro k hk
    rw [hI 59 (by decide)]
    exact h.hla k hk
  · intro k hk
    rw [hI 61 (by decide)]
    exact h.stl k hk
  · intro k hk
    rw [hI 62 (by decide)]
    obtain ⟨a, c⟩ := h.doe k hk
    exact ⟨a, c.imp id (fun ⟨s, hs, e⟩ => ⟨s, by omega, e⟩)⟩
  · intro k hk
    rw [h5] at hk
    rw [hI 63 (by decide), hI 64 (by decide)]
    obtain ⟨a, c, ⟨u, hu, eu⟩, ⟨v, hv, ev⟩⟩ := h.pth k hk
    exact ⟨a, c, ⟨u, by omega, eu⟩, ⟨v, by omega, ev⟩⟩
  · intro k hk
    rw [hI 65 (by decide), hI 66 (by decide)]
    obtain ⟨a, c, d, e⟩ := h.que k hk
    exact ⟨a, c, d, e.imp id (fun ⟨s, hs, e⟩ => ⟨s, by omega, e⟩)⟩
  · exact h.qn
  · intro p k hp hk
    rw [hI 67 (by decide)]
    exact h.prt p k hp hk
  · intro p hp
    obtain ⟨k, hk, e⟩ := h.prx p hp
    exact ⟨k, by omega, e⟩
  · exact h.ln
end
/-! bits of a port -/
theorem and1 (y : Int32) : y &&& 1 = 0 ∨ y &&& 1 = 1 := by
  have h := and_le y 1 (k := 1) (by decide) (by decide)
  have : (y &&& 1).toInt = 0 ∨ (y &&& 1).toInt = 1 := by omega
  rcases this with e | e
  · left
    apply Int32.toInt_inj.mp
    rw [e]
    rfl
  · right
    apply Int32.toInt_inj.mp
    rw [e]
    rfl
theorem bit_or {k c : Nat} (hk : k < 12) (hc : c < 12) (x : Int32) : bitP (x ||| 1 <<< (nI c &&& 31)) (nI k) = true ↔ (bitP x (nI k) = true ∨ k = c) := by
  have tab : ∀ k, k < 12 → ∀ c, c < 12 → ((1 : Int32) <<< (nI c &&& 31)) >>> (nI k &&& 31) &&& 1 = if k = c then 1 else 0 := by decide +kernel
  have d : ∀ a b : Int32, (a ||| b) &&& 1 = (a &&& 1) ||| (b &&& 1) := fun a b => by simp [← Int32.toBitVec_inj, BitVec.and_or_distrib_right]
  rw [bitP_iff, bitP_iff, Int32.shiftRight_or, d, tab k hk c hc]
  rcases and1 (x >>> (nI k &&& 31)) with e | e
  · rw [e]
    by_cases q : k = c
    · rw [if_pos q]; simp [q]
    · rw [if_neg q]; simp [q]
  · rw [e]
    by_cases q : k = c
    · rw [if_pos q]; simp [q]
    · rw [if_neg q]; simp [q]
