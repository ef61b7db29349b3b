/-! the model's reading: frames, and readClass -/
theorem KD.ne0 {k : Int32} (h : KD k) : ¬ k = 0 := by
  intro e
  subst e
  rcases h with h | h | h | h | ⟨w, hw, h⟩
  · exact absurd h (by decide)
  · exact absurd h (by decide)
  · exact absurd h (by decide)
  · rcases h with h | h | h | h | h <;> exact absurd h (by decide)
  · exact (w256 w hw).1 h.symm
/-- what reading leaves alone -/
abbrev FR (X X' : Nat → Nat → Int32) (I I' : Nat → Nat → Int32) : Prop := (∀ k, k ≠ 47 → X' k = X k) ∧ (∀ j, j ≠ 6 → j ≠ 7 → j ≠ 10 → j ≠ 23 → j ≠ 35 → j ≠ 36 → j ≠ 37 → j ≠ 38 → X' 47 j = X 47 j) ∧ (∀ a, a < 52 ∨ 67 < a → I' a = I a) ∧ (X' 47 6 = 0 → X 47 6 = 0 ∧ X' 47 7 = X 47 7)
theorem FR.c {X X' : Nat → Nat → Int32} {I I' : Nat → Nat → Int32} (h : FR X X' I I') : ∀ k, k ≠ 47 → X' k = X k := h.1
theorem FR.j {X X' : Nat → Nat → Int32} {I I' : Nat → Nat → Int32} (h : FR X X' I I') : ∀ j, j ≠ 6 → j ≠ 7 → j ≠ 10 → j ≠ 23 → j ≠ 35 → j ≠ 36 → j ≠ 37 → j ≠ 38 → X' 47 j = X 47 j := h.2.1
theorem FR.a {X X' : Nat → Nat → Int32} {I I' : Nat → Nat → Int32} (h : FR X X' I I') : ∀ a, a < 52 ∨ 67 < a → I' a = I a := h.2.2.1
theorem FR.p {X X' : Nat → Nat → Int32} {I I' : Nat → Nat → Int32} (h : FR X X' I I') : X' 47 6 = 0 → X 47 6 = 0 ∧ X' 47 7 = X 47 7 := h.2.2.2
/-- the class's core is the same -/
def CE (Xc Xc' : Nat → Nat → Int32) : Prop := ∀ k, k ≠ 32 → k ≠ 33 → Xc' k = Xc k
section
variable {N : Nat} {s : SS} {X X' X'' : Nat → Nat → Int32} {y : Int64} {I I' I'' : Nat → Nat → Int32} {J : Nat → Nat → Int64} {b : ip_B} {post : Option Value → ip_H → Prop} {px : String → ip_H → Prop}
variable {Xc Xc' : Nat → Nat → Int32} {Ic : Nat → Nat → Int32} {Jc : Nat → Nat → Int64} {ld qd pd : Nat}
theorem FR.refl : FR X X I I := ⟨fun _ _ => rfl, fun _ _ _ _ _ _ _ _ _ => rfl, fun _ _ => rfl, fun h => ⟨h, rfl⟩⟩
theorem FR.trans (h : FR X X' I I') (h' : FR X' X'' I' I'') : FR X X'' I I'' := ⟨fun k hk => (h'.c k hk).trans (h.c k hk), fun j h1 h2 h3 h4 h5 h6 h7 h8 => (h'.j j h1 h2 h3 h4 h5 h6 h7 h8).trans (h.j j h1 h2 h3 h4 h5 h6 h7 h8), fun a ha => (h'.a a ha).trans (h.a a ha), fun z => ⟨(h.p (h'.p z).1).1, (h'.p z).2.trans (h.p (h'.p z).1).2⟩⟩
theorem MF.toF (h : MF X X') : FR X X' I I := ⟨h.c, fun j h1 h2 _ _ h3 h4 h5 h6 => h.j j h1 h2 h3 h4 h5 h6, fun _ _ => rfl, h.p⟩
theorem MFN.toF (h : MFN X X' I I') : FR X X' I I' := ⟨h.c, fun j h1 h2 h3 _ h4 h5 h6 h7 => h.j j h1 h2 h3 h4 h5 h6 h7, fun a ha => h.a a (by omega), h.p⟩
theorem FR.arr {a k : Nat} {v : Int32} (h1 : 52 ≤ a) (h2 : a ≤ 67) : FR X X I (ip_up I a k v) := ⟨fun _ _ => rfl, fun _ _ _ _ _ _ _ _ _ => rfl, fun c hc => by rw [up1, if_neg (by omega)], fun h => ⟨h, rfl⟩⟩
theorem CE.n (e : CE Xc Xc') {u : Nat} (hu : u < 4) : cnt Xc' u = cnt Xc u := by
  unfold cnt
  rw [e (6 + 2 * u) (by omega) (by omega)]
theorem CE.t (e : CE Xc Xc') : totN Xc' = totN Xc := by
  unfold totN
  rw [e.n (by decide), e.n (by decide), e.n (by decide), e.n (by decide)]
theorem NmAt.xc {n u i p q : Nat} (h : NmAt Xc Jc I n u i p q) (e : CE Xc Xc') : NmAt Xc' Jc I n u i p q := ⟨h.s4, by rw [e.n h.s4]; exact h.ic, h.so, h.nu, h.fr, h.to, h.pq, h.ql, h.nm, h.no⟩
theorem MN.xc (h : MN Xc Jc X I) (e : CE Xc Xc') : MN Xc' Jc X I := by
  refine ⟨h.bd.of (fun k hk => e k (by omega) (by omega)), fun u hu => by rw [e _ (by omega) (by omega)]; exact h.many u hu, by rw [e.t]; exact h.tot, ?_, ?_, ?_⟩
  · intro n hn
    rw [e.t] at hn
    obtain ⟨u, i, p, q, hA⟩ := h.fwd n hn
    exact ⟨u, i, p, q, hA.xc e⟩
  · intro u i hu hi
    rw [e.n hu] at hi
    obtain ⟨n, p, q, hn, hA⟩ := h.bwd u i hu hi
    exact ⟨n, p, q, by rw [e.t]; exact hn, hA.xc e⟩
  · intro u i t j hu ht hi hj
    rw [e.n hu] at hi
    rw [e.n ht] at hj
    exact h.uni u i t j hu ht hi hj
theorem NmAt.fr' {n u i p q : Nat} (h : NmAt Xc Jc I n u i p q) (e : ∀ a, 51 ≤ a → a ≤ 57 → I' a = I a) : NmAt Xc Jc I' n u i p q :=
  ⟨h.s4, h.ic, by rw [e 54 (by decide) (by decide)]; exact h.so, by rw [e 55 (by decide) (by decide)]; exact h.nu, by rw [e 52 (by decide) (by decide)]; exact h.fr, by rw [e 53 (by decide) (by decide)]; exact h.to, h.pq, h.ql, by rw [e 51 (by decide) (by decide)]; exact h.nm, by rw [e 57 (by decide) (by decide)]; exact h.no⟩
theorem MN.fr (h : MN Xc Jc X I) (h10 : X' 47 10 = X 47 10) (e : ∀ a, 51 ≤ a → a ≤ 57 → I' a = I a) : MN Xc Jc X' I' := by
  refine ⟨h.bd, fun u hu => by rw [e 56 (by decide) (by decide)]; exact h.many u hu, by rw [h10]; exact h.tot, ?_, ?_, h.uni⟩
  · intro n hn
    obtain ⟨u, i, p, q, hA⟩ := h.fwd n hn
    exact ⟨u, i, p, q, hA.fr' e⟩
  · intro u i hu hi
    obtain ⟨n, p, q, hn, hA⟩ := h.bwd u i hu hi
    exact ⟨n, p, q, hn, hA.fr' e⟩
theorem MN.mf (h : MN Xc Jc X I) (mf : MF X X') : MN Xc Jc X' I := h.fr (mf.j 10 (by decide) (by decide) (by decide) (by decide) (by decide) (by decide)) (fun _ _ _ => rfl)
theorem MV.xc (h : MV Xc Ic X I ld qd pd) (e : CE Xc Xc') : MV Xc' Ic X I ld qd pd := h.of rfl (fun _ _ => rfl) (by rw [e.n (by decide)]; exact Nat.le_refl _) (by rw [e.n (by decide)]; exact Nat.le_refl _) (by rw [e 5 (by decide) (by decide)])
theorem MVf.xc (h : MVf Xc Ic X I) (e : CE Xc Xc') : MVf Xc' Ic X I := by
  have := MV.xc h e
  rw [← e.n (u := 0) (by decide), ← e.n (u := 2) (by decide), ← e.n (u := 3) (by decide)] at this
  exact this
theorem MV.mf (h : MV Xc Ic X I ld qd pd) (mf : MF X X') : MV Xc Ic X' I ld qd pd := h.of (mf.j 23 (by decide) (by decide) (by decide) (by decide) (by decide) (by decide)) (fun _ _ => rfl) (Nat.le_refl _) (Nat.le_refl _) rfl
theorem ce_adv (t : SS) : CE t.1 (advS t).1 := fun k _ h33 => lxX_ne (X := t.1) h33
theorem CE.trans {A B C : Nat → Nat → Int32} (h : CE A B) (h' : CE B C) : CE A C := fun k h1 h2 => (h' k h1 h2).trans (h k h1 h2)
theorem ce_32 {A : Nat → Nat → Int32} {j : Nat} {v : Int32} : CE A (ip_up A 32 j v) := fun k h1 _ => by rw [up1, if_neg h1]
/-- what a procedure of reading leaves: the fault, or the statement's end to come -/
def RDp (N : Nat) (Out : SS) (X I : Nat → Nat → Int32) (n14 : Int32) (p0 : Nat) (X' I' : Nat → Nat → Int32) : Prop := FR X X' I I' ∧ (FT Out X' ∨ ∃ s, LR N s X' I' ∧ MN s.1 s.2.2.2 X' I' ∧ MVf s.1 s.2.2.1 X' I' ∧ out1 N s = Out ∧ ¬ s.1 32 5 = -1 ∧ takeS s = rClose (X1S s) s.2.2.1 s.2.2.2 ∧ s.1 5 14 = n14 ∧ p0 ≤ (s.1 33 2).toNatClampNeg)
theorem LR.part (h : LR N s X I) : takeS s = rPart (X1S s) s.2.1 s.2.2.1 s.2.2.2 (s.1 32 5) (s.1 32 6) := by
  unfold takeS rTake
  rw [if_neg h.kd.ne0]
  rfl
/-- the place grows -/
theorem LR.grow (h : LR N s X I) (h' : LR N (advS (nexS s)) X' I') (hk : ¬ (advS (nexS s)).1 33 3 = 1) : (s.1 33 2).toNatClampNeg + 1 ≤ ((advS (nexS s)).1 33 2).toNatClampNeg := by
  have hrv := h.b.rv.nex
  have hl := lexS_le hrv
  have hok := lexS_ok hrv
  have hN := hrv.l
  have e3 : (advS (nexS s)).1 33 3 = (lexS (nexS s)).kind := lxX_3 (X := (nexS s).1)
  have e2 : (advS (nexS s)).1 33 2 = nI (lexS (nexS s)).next := lxX_2 (X := (nexS s).1)
  have ho : Ok s.1 s.2.2.1 s.2.2.2 (takeS s) := ok_take
  have en : (nexS s).1 33 2 = s.1 33 2 := by
    show (takeS s).2.1 33 2 = s.1 33 2
    rw [ho.x 33 (by decide) (by decide) (by decide) (by decide) (by decide) (by decide)]
  have hk0 : ¬ (lexS (nexS s)).kind = 0 := by rw [← e3]; exact h'.kd.ne0
  have := hok.lt hk0 (by rw [← e3]; exact hk)
  rw [en] at hl
  rw [e2, nI_clamp (by omega)]
  omega
end
