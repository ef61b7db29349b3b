/-! lexemes, and the reading as a run without fuel -/
abbrev isSg (k : Int32) : Prop := k = 44 ∨ k = 58 ∨ k = 59 ∨ k = 61 ∨ k = 62
def KD (k : Int32) : Prop := k = 1 ∨ k = 2 ∨ k = 3 ∨ isSg k ∨ ∃ w, w < 17 ∧ k = 256 + nI w
theorem wfi_rng (f : Nat → Int64) (key : Int64) : ∀ m i, wfi f key m i = -1 ∨ ∃ w, i ≤ w ∧ w < i + m ∧ wfi f key m i = 256 + nI w := by
  intro m
  induction m with
  | zero => intro i; exact Or.inl rfl
  | succ m ih =>
    intro i
    rw [wfi]
    by_cases q : f i = key
    · rw [if_pos q]; exact Or.inr ⟨i, Nat.le_refl i, by omega, rfl⟩
    · rw [if_neg q]
      rcases ih (i + 1) with h | ⟨w, h1, h2, h3⟩
      · exact Or.inl h
      · exact Or.inr ⟨w, by omega, by omega, h3⟩
theorem w256 : ∀ w, w < 17 → ¬ (256 + nI w) = 0 ∧ ¬ (256 + nI w) = 1 ∧ ¬ (256 + nI w) = 2 ∧ ¬ (256 + nI w) = 3 := by decide +kernel
abbrev LxOk (T : Nat → Int32) (n : Nat) (l : Lx) : Prop := (l.kind = 0 ∨ KD l.kind) ∧ (l.kind = 1 → l.next = n) ∧ (¬ l.kind = 0 → ¬ l.kind = 1 → l.place < l.next) ∧ (l.kind = 2 → NmR l.key (slc T l.place l.next))
theorem LxOk.k {T : Nat → Int32} {n : Nat} {l : Lx} (h : LxOk T n l) : l.kind = 0 ∨ KD l.kind := h.1
theorem LxOk.e {T : Nat → Int32} {n : Nat} {l : Lx} (h : LxOk T n l) : l.kind = 1 → l.next = n := h.2.1
theorem LxOk.lt {T : Nat → Int32} {n : Nat} {l : Lx} (h : LxOk T n l) : ¬ l.kind = 0 → ¬ l.kind = 1 → l.place < l.next := h.2.2.1
theorem LxOk.nm {T : Nat → Int32} {n : Nat} {l : Lx} (h : LxOk T n l) : l.kind = 2 → NmR l.key (slc T l.place l.next) := h.2.2.2
theorem lexT_ok (T : Nat → Int32) (W : Nat → Int64) {n p : Nat} (y : Int64) (v : Int32) (h : p ≤ n) (hn : n ≤ 4160) : LxOk T n (lexT T W n p y v) := by
  have hs := sw_ge T (n - p) p false
  unfold lexT
  generalize swT T (n - p) p false = p0 at hs
  have h1 := tnm_ge T (n - p0) p0 0
  have h2 := tnb_ge T (n - p0) p0 0
  simp only []
  split
  · exact ⟨Or.inr (Or.inl rfl), fun _ => by show p0 = n; omega, fun _ z => absurd rfl z, fun z => by simp [Lx.kind] at z⟩
  · rename_i c0
    split
    · rename_i c1
      have hc : 0 < cod (T p0) := by
        by_cases z : cod (T p0) ≤ 0
        · exact absurd c1 (cod_le.mp z).1
        · exact Int32.not_le.mp z
      have hnm := fun hl => tnm_name T (m := n - p0) (p := p0) hc (by omega) hl
      have hgt : p0 + 1 ≤ (tnm T (n - p0) p0 0).1 := by
        obtain ⟨m, hm⟩ : ∃ m', n - p0 = m' + 1 := ⟨n - p0 - 1, by omega⟩
        rw [hm, tnm, if_neg (Int32.not_le.mpr hc)]
        exact (tnm_ge T m (p0 + 1) _).1
      generalize tnm T (n - p0) p0 0 = q at h1 hnm hgt
      simp only [sub_le12 (p := p0) (q := q.1) (by omega) (by omega)]
      by_cases ql : q.1 - p0 ≤ 12
      · rw [if_pos ql]
        rcases wfi_rng W q.2 17 0 with w1 | ⟨w, hw1, hw2, w1⟩
        · rw [w1, if_pos rfl]
          exact ⟨Or.inr (Or.inr (Or.inl rfl)), fun z => by simp [Lx.kind] at z, fun _ _ => by show p0 < q.1; omega, fun _ => hnm ql⟩
        · have t := w256 w (by omega)
          have t1 : ∀ w, w < 17 → ¬ (256 + nI w) = -1 := by decide +kernel
          rw [w1, if_neg (t1 w (by omega))]
          exact ⟨Or.inr (Or.inr (Or.inr (Or.inr (Or.inr ⟨w, by omega, rfl⟩)))), fun z => absurd z t.2.1, fun _ _ => by show p0 < q.1; omega, fun z => absurd z t.2.2.1⟩
      · rw [if_neg ql]
        exact ⟨Or.inl rfl, fun z => by simp [Lx.kind] at z, fun z => absurd rfl z, fun z => by simp [Lx.kind] at z⟩
    · split
      · rename_i c2
        have hgt : p0 + 1 ≤ (tnb T (n - p0) p0 0).1 := by
          obtain ⟨m, hm⟩ : ∃ m', n - p0 = m' + 1 := ⟨n - p0 - 1, by omega⟩
          rw [hm, tnb, if_pos c2]
          exact (tnb_ge T m (p0 + 1) _).1
        exact ⟨Or.inr (Or.inr (Or.inr (Or.inl rfl))), fun z => by simp [Lx.kind] at z, fun _ _ => by show p0 < (tnb T (n - p0) p0 0).1; omega, fun z => by simp [Lx.kind] at z⟩
      · split
        · rename_i c3
          have tk : ¬ T p0 = 1 ∧ ¬ T p0 = 2 := by rcases c3 with z | z | z | z | z <;> rw [z] <;> decide
          exact ⟨Or.inr (Or.inr (Or.inr (Or.inr (Or.inl c3)))), fun z => absurd z tk.1, fun _ _ => by show p0 < p0 + 1; omega, fun z => absurd z tk.2⟩
        · exact ⟨Or.inl rfl, fun z => by simp [Lx.kind] at z, fun z => absurd rfl z, fun z => by simp [Lx.kind] at z⟩
theorem lexS_ok {N : Nat} {s : SS} (h : Rv N s) : LxOk (txt s.2.2.1) N (lexS s) := by
  unfold lexS lexH
  rw [h.c]
  exact lexT_ok _ _ _ _ h.q h.l
/-! at the end of the text every part is a fault -/
section
variable {X : Nat → Nat → Int32} {y : Int64} {I : Nat → Nat → Int32} {J : Nat → Nat → Int64}
theorem e_close (h : X 33 3 = 1) : (rClose X I J).1 = 2 := by simp [rClose, h]
theorem e_old (h : X 33 3 = 1) (c : Nat) : (rOld X y I J c).1 = 2 := by simp [rOld, h]
def is2 (r : RS) : Prop := r.1 = 2
theorem e_part (h : X 33 3 = 1) {st p : Int32} : (rPart X y I J st p).1 = 2 := by
  have ho := fun c => e_old (y := y) (I := I) (J := J) h c
  have hc := e_close (I := I) (J := J) h
  have ht : (X 33 3 - 266 < 0 ∨ 7 ≤ X 33 3 - 266) := by rw [h]; decide
  have e1 : ∀ c, (rNew X y I J c 12).1 = 2 := fun c => by simp [rNew, h]
  have e2 : ∀ c, (rNew X y I J c 8).1 = 2 := fun c => by simp [rNew, h]
  have e3 : ∀ e, (rComma X I J e).1 = 2 := fun e => by simp [rComma, h, hc]
  have e4 : (rWord X I J 258).1 = 2 := by simp [rWord, h, hc]
  have e5 : (rWord X I J 264).1 = 2 := by simp [rWord, h, hc]
  have e6 : (rTask X I J).1 = 2 := by unfold rTask; rw [if_pos ht]
  have e7 : ∀ a, (rWout X y I J a).1 = 2 := fun a => by simp [rWout, ho]
  have e8 : ∀ a n m, (rNum X I J a n m).1 = 2 := fun a n m => by simp [rNum, h]
  have e9 : ∀ a n, (rStg X y I J a n).1 = 2 := fun a n => by simp [rStg, ho]
  have e10 : (rPS X y I J).1 = 2 := by simp [rPS, ho]
  have e11 : (rPE X y I J).1 = 2 := by simp [rPE, h, ho]
  have e12 : (rStall X y I J).1 = 2 := by simp [rStall, ho]
  have e13 : (rPrt X y I J).1 = 2 := by simp [rPrt, ho]
  have e14 : (rOpen X I J).1 = 2 := by simp [rOpen, h]
  have e15 : (rSign X I J 61).1 = 2 := by simp [rSign, h]
  have e16 : (rSign X I J 62).1 = 2 := by simp [rSign, h]
  have e17 : (rSign X I J 58).1 = 2 := by simp [rSign, h]
  have main : is2 (rPart X y I J st p) := by
    unfold rPart
    (repeat' split)
    · unfold pClass; (repeat' split) <;> first | exact e1 _ | exact e2 _ | exact e3 _ | exact e4 | exact e5 | exact e6 | exact e7 _ | exact e8 _ _ _ | exact e9 _ _ | exact e10 | exact e11 | exact e12 | exact e13 | exact e15 | exact e16 | exact e17 | exact hc
    · unfold pStage; (repeat' split) <;> first | exact e1 _ | exact e2 _ | exact e3 _ | exact e4 | exact e5 | exact e6 | exact e7 _ | exact e8 _ _ _ | exact e9 _ _ | exact e10 | exact e11 | exact e12 | exact e13 | exact e15 | exact e16 | exact e17 | exact hc
    · unfold pLat; (repeat' split) <;> first | exact e1 _ | exact e2 _ | exact e3 _ | exact e4 | exact e5 | exact e6 | exact e7 _ | exact e8 _ _ _ | exact e9 _ _ | exact e10 | exact e11 | exact e12 | exact e13 | exact e15 | exact e16 | exact e17 | exact hc
    · unfold pRes; (repeat' split) <;> first | exact e1 _ | exact e2 _ | exact e3 _ | exact e4 | exact e5 | exact e6 | exact e7 _ | exact e8 _ _ _ | exact e9 _ _ | exact e10 | exact e11 | exact e12 | exact e13 | exact e15 | exact e16 | exact e17 | exact hc
    · unfold pPath; (repeat' split) <;> first | exact e1 _ | exact e2 _ | exact e3 _ | exact e4 | exact e5 | exact e6 | exact e7 _ | exact e8 _ _ _ | exact e9 _ _ | exact e10 | exact e11 | exact e12 | exact e13 | exact e15 | exact e16 | exact e17 | exact hc
    · unfold pStall; (repeat' split) <;> first | exact e1 _ | exact e2 _ | exact e3 _ | exact e4 | exact e5 | exact e6 | exact e7 _ | exact e8 _ _ _ | exact e9 _ _ | exact e10 | exact e11 | exact e12 | exact e13 | exact e15 | exact e16 | exact e17 | exact hc
    · unfold pQue; (repeat' split) <;> first | exact e1 _ | exact e2 _ | exact e3 _ | exact e4 | exact e5 | exact e6 | exact e7 _ | exact e8 _ _ _ | exact e9 _ _ | exact e10 | exact e11 | exact e12 | exact e13 | exact e15 | exact e16 | exact e17 | exact hc
    · unfold pPort; (repeat' split) <;> first | exact e1 _ | exact e2 _ | exact e3 _ | exact e4 | exact e5 | exact e6 | exact e7 _ | exact e8 _ _ _ | exact e9 _ _ | exact e10 | exact e11 | exact e12 | exact e13 | exact e15 | exact e16 | exact e17 | exact hc
    · exact e14
  exact main
theorem e_take (h : X 33 3 = 1) : (rTake X y I J).1 = 2 := by
  unfold rTake
  rw [if_neg (by rw [h]; decide)]
  exact e_part (by rw [up1, if_neg (by decide)]; exact h)
end
theorem take0 {s : SS} (h : (takeS s).1 = 0) : ¬ s.1 33 3 = 0 ∧ ¬ s.1 33 3 = 1 := by
  constructor
  · intro z
    unfold takeS rTake at h
    rw [if_pos z] at h
    exact absurd (show (1 : Int32) = 0 from h) (by decide)
  · intro z
    unfold takeS at h
    rw [e_take z] at h
    exact absurd h (by decide)
theorem nex_pos {N : Nat} {s : SS} (h : Rv N s) (ht : (takeS (advS s)).1 = 0) : (s.1 33 2).toNatClampNeg + 1 ≤ ((nexS (advS s)).1 33 2).toNatClampNeg := by
  have ho : Ok (advS s).1 (advS s).2.2.1 (advS s).2.2.2 (takeS (advS s)) := ok_take
  have hl := lexS_le h
  have hk := lexS_ok h
  have hN := h.l
  have t := take0 ht
  have e3 : (advS s).1 33 3 = (lexS s).kind := lxX_3 (X := s.1)
  rw [e3] at t
  have := hk.lt t.1 t.2
  have e : (nexS (advS s)).1 33 2 = nI (lexS s).next := by
    show (takeS (advS s)).2.1 33 2 = _
    rw [ho.x 33 (by decide) (by decide) (by decide) (by decide) (by decide) (by decide)]
    exact lxX_2 (X := s.1)
  rw [e]
  show _ ≤ (nI (lexS s).next).toNatClampNeg
  rw [nI_clamp (by omega)]
  omega
theorem rn_stable {N : Nat} : ∀ (m : Nat) (s : SS), Rv N s → N + 1 - (s.1 33 2).toNatClampNeg ≤ m → rn (m + 1) s = rn m s := by
  intro m
  induction m with
  | zero => intro s h hm; have := h.q; omega
  | succ m ih =>
    intro s h hm
    show rn1 (rn (m + 1)) (advS s) = rn1 (rn m) (advS s)
    unfold rn1
    split
    · rfl
    · split
      · rename_i ht
        have := nex_pos h ht
        exact ih _ h.adv.nex (by omega)
      · rfl
/-- the end of the reading from s, the next lexeme not yet taken; and with the lexeme in hand -/
def outS (N : Nat) (s : SS) : SS := rn (N + 1) s
def out1 (N : Nat) (s : SS) : SS := rn1 (outS N) s
theorem outS_eq {N : Nat} {s : SS} (h : Rv N s) : outS N s = out1 N (advS s) := by
  show rn1 (rn N) (advS s) = rn1 (rn (N + 1)) (advS s)
  unfold rn1
  split
  · rfl
  · split
    · rename_i ht
      have := nex_pos h ht
      exact (rn_stable N _ h.adv.nex (by omega)).symm
    · rfl
theorem out1_end {N : Nat} {s : SS} (h1 : s.1 33 3 = 1) (h2 : s.1 32 5 = -1) : out1 N s = s := by
  unfold out1 rn1
  rw [if_pos ⟨h1, h2⟩]
theorem out1_go {N : Nat} {s : SS} (h : (takeS s).1 = 0) : out1 N s = outS N (nexS s) := by
  have t := take0 h
  unfold out1 rn1
  rw [if_neg (fun z => t.2 z.1), if_pos h]
theorem out1_bad {N : Nat} {s : SS} (hn : ¬ (s.1 33 3 = 1 ∧ s.1 32 5 = -1)) (h : ¬ (takeS s).1 = 0) : out1 N s = failS (nexS s) (takeS s).1 := by
  unfold out1 rn1
  rw [if_neg hn, if_neg h]
