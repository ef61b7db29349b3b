/-! the model's procedures of reading: the class's run as a ghost beside them -/
def lS (s : SS) : Lx := ⟨s.1 33 3, (s.1 33 4).toNatClampNeg, (s.1 33 2).toNatClampNeg, s.2.1, s.1 33 6⟩
/-- the lexeme of s is taken, the model not yet further -/
abbrev LB (N : Nat) (s : SS) (X : Nat → Nat → Int32) (I : Nat → Nat → Int32) : Prop := (Rv N s) ∧ (X 47 8 = nI N) ∧ (∀ j, j < N → I 51 j = txt s.2.2.1 j) ∧ (X 47 6 = 0) ∧ (X 47 37 = s.1 33 2) ∧ (WC I) ∧ (WK (s.2.2.2 35))
theorem LB.rv {N : Nat} {s : SS} {X : Nat → Nat → Int32} {I : Nat → Nat → Int32} (h : LB N s X I) : Rv N s := h.1
theorem LB.len {N : Nat} {s : SS} {X : Nat → Nat → Int32} {I : Nat → Nat → Int32} (h : LB N s X I) : X 47 8 = nI N := h.2.1
theorem LB.src {N : Nat} {s : SS} {X : Nat → Nat → Int32} {I : Nat → Nat → Int32} (h : LB N s X I) : ∀ j, j < N → I 51 j = txt s.2.2.1 j := h.2.2.1
theorem LB.f {N : Nat} {s : SS} {X : Nat → Nat → Int32} {I : Nat → Nat → Int32} (h : LB N s X I) : X 47 6 = 0 := h.2.2.2.1
theorem LB.to {N : Nat} {s : SS} {X : Nat → Nat → Int32} {I : Nat → Nat → Int32} (h : LB N s X I) : X 47 37 = s.1 33 2 := h.2.2.2.2.1
theorem LB.wc {N : Nat} {s : SS} {X : Nat → Nat → Int32} {I : Nat → Nat → Int32} (h : LB N s X I) : WC I := h.2.2.2.2.2.1
theorem LB.wk {N : Nat} {s : SS} {X : Nat → Nat → Int32} {I : Nat → Nat → Int32} (h : LB N s X I) : WK (s.2.2.2 35) := h.2.2.2.2.2.2
/-- the lexeme of s is in hand -/
abbrev LR (N : Nat) (s : SS) (X : Nat → Nat → Int32) (I : Nat → Nat → Int32) : Prop := (LB N s X I) ∧ (ML X (lS s)) ∧ (KD (s.1 33 3)) ∧ (s.1 33 3 = 2 → NmR s.2.1 (slc (I 51) ((s.1 33 4).toNatClampNeg) ((s.1 33 2).toNatClampNeg))) ∧ (0 ≤ s.1 33 4) ∧ ((s.1 33 4).toNatClampNeg ≤ (s.1 33 2).toNatClampNeg)
theorem LR.b {N : Nat} {s : SS} {X : Nat → Nat → Int32} {I : Nat → Nat → Int32} (h : LR N s X I) : LB N s X I := h.1
theorem LR.ml {N : Nat} {s : SS} {X : Nat → Nat → Int32} {I : Nat → Nat → Int32} (h : LR N s X I) : ML X (lS s) := h.2.1
theorem LR.kd {N : Nat} {s : SS} {X : Nat → Nat → Int32} {I : Nat → Nat → Int32} (h : LR N s X I) : KD (s.1 33 3) := h.2.2.1
theorem LR.nm {N : Nat} {s : SS} {X : Nat → Nat → Int32} {I : Nat → Nat → Int32} (h : LR N s X I) : s.1 33 3 = 2 → NmR s.2.1 (slc (I 51) ((s.1 33 4).toNatClampNeg) ((s.1 33 2).toNatClampNeg)) := h.2.2.2.1
theorem LR.pl {N : Nat} {s : SS} {X : Nat → Nat → Int32} {I : Nat → Nat → Int32} (h : LR N s X I) : 0 ≤ s.1 33 4 := h.2.2.2.2.1
theorem LR.ple {N : Nat} {s : SS} {X : Nat → Nat → Int32} {I : Nat → Nat → Int32} (h : LR N s X I) : (s.1 33 4).toNatClampNeg ≤ (s.1 33 2).toNatClampNeg := h.2.2.2.2.2
/-- the model has told the fault that the class ends with -/
def FT (Out : SS) (X : Nat → Nat → Int32) : Prop := ∃ s r, Out = failS s r ∧ 0 < r ∧ X 47 6 = r ∧ X 47 7 = s.1 33 4
theorem FT.pos {Out : SS} {X : Nat → Nat → Int32} (h : FT Out X) : 0 < X 47 6 := by
  obtain ⟨s, r, _, h1, h2, _⟩ := h
  rw [h2]; exact h1
theorem FT.of {Out : SS} {X X' : Nat → Nat → Int32} (h : FT Out X) (h6 : X' 47 6 = X 47 6) (h7 : X' 47 7 = X 47 7) : FT Out X' := by
  obtain ⟨s, r, e, h1, h2, h3⟩ := h
  exact ⟨s, r, e, h1, h6.trans h2, h7.trans h3⟩
/-! the same text, the same lexeme -/
theorem sw_congr {T T' : Nat → Int32} : ∀ (m p : Nat) (c : Bool), (∀ j, p ≤ j → j < p + m → T j = T' j) → swT T m p c = swT T' m p c := by
  intro m
  induction m with
  | zero => intro p c _; rfl
  | succ m ih =>
    intro p c h
    have e := fun c => ih (p + 1) c (fun j h1 h2 => h j (by omega) (by omega))
    rw [swT, swT, h p (Nat.le_refl p) (by omega), e, e]
theorem tnm_congr {T T' : Nat → Int32} : ∀ (m p : Nat) (k : Int64), (∀ j, p ≤ j → j < p + m → T j = T' j) → tnm T m p k = tnm T' m p k := by
  intro m
  induction m with
  | zero => intro p k _; rfl
  | succ m ih =>
    intro p k h
    rw [tnm, tnm, h p (Nat.le_refl p) (by omega), ih (p + 1) _ (fun j h1 h2 => h j (by omega) (by omega))]
theorem tnb_congr {T T' : Nat → Int32} : ∀ (m p : Nat) (v : Int32), (∀ j, p ≤ j → j < p + m → T j = T' j) → tnb T m p v = tnb T' m p v := by
  intro m
  induction m with
  | zero => intro p v _; rfl
  | succ m ih =>
    intro p v h
    rw [tnb, tnb, h p (Nat.le_refl p) (by omega), ih (p + 1) _ (fun j h1 h2 => h j (by omega) (by omega))]
theorem lexT_congr {T T' : Nat → Int32} {W : Nat → Int64} {n p : Nat} {y : Int64} {v : Int32} (hp : p ≤ n) (h : ∀ j, j < n → T j = T' j) : lexT T W n p y v = lexT T' W n p y v := by
  have e0 := sw_congr (T := T) (T' := T') (n - p) p false (fun j h1 h2 => h j (by omega))
  have hs := sw_ge T' (n - p) p false
  unfold lexT
  rw [e0]
  generalize swT T' (n - p) p false = p0 at hs
  dsimp only
  by_cases c : n ≤ p0
  · simp only [c, if_true]
  · have e1 := tnm_congr (T := T) (T' := T') (n - p0) p0 0 (fun j h1 h2 => h j (by omega))
    have e2 := tnb_congr (T := T) (T' := T') (n - p0) p0 0 (fun j h1 h2 => h j (by omega))
    rw [e1, e2, h p0 (by omega)]
theorem slc_congr {T T' : Nat → Int32} {p q : Nat} (h : ∀ j, p ≤ j → j < q → T j = T' j) : slc T p q = slc T' p q := by
  unfold slc
  apply List.map_congr_left
  intro k hk
  have := List.mem_range.mp hk
  exact h _ (by omega) (by omega)
section
variable {N : Nat} {s : SS} {X X' : Nat → Nat → Int32} {y : Int64} {I I' : Nat → Nat → Int32} {J : Nat → Nat → Int64} {b : ip_B} {post : Option Value → ip_H → Prop} {px : String → ip_H → Prop}
theorem LB.of (h : LB N s X I) (hx : ∀ j, j = 6 ∨ j = 8 ∨ j = 37 → X' 47 j = X 47 j) (h48 : I' 48 = I 48) (h51 : I' 51 = I 51) : LB N s X' I' :=
  ⟨h.rv, by rw [hx 8 (by omega)]; exact h.len, by rw [h51]; exact h.src, by rw [hx 6 (by omega)]; exact h.f, by rw [hx 37 (by omega)]; exact h.to, by unfold WC; rw [h48]; exact h.wc, h.wk⟩
theorem LR.of (h : LR N s X I) (hx : ∀ j, j = 6 ∨ j = 8 ∨ j = 35 ∨ j = 36 ∨ j = 37 ∨ j = 38 → X' 47 j = X 47 j) (h48 : I' 48 = I 48) (h51 : I' 51 = I 51) : LR N s X' I' := by
  refine ⟨h.b.of (fun j hj => hx j (by omega)) h48 h51, ⟨?_, ?_, ?_, ?_, ?_, ?_⟩, h.kd, by rw [h51]; exact h.nm, h.pl, h.ple⟩
  · rw [hx 36 (by omega)]; exact h.ml.fr
  · rw [hx 37 (by omega)]; exact h.ml.to
  · rw [hx 35 (by omega)]; exact h.ml.kd
  · rw [hx 38 (by omega)]; exact h.ml.nu
  · rw [hx 38 (by omega)]; exact h.ml.wo
  · rw [hx 38 (by omega)]; exact h.ml.si
theorem LR.nx (h : LR N s X I) : LB N (nexS s) X I := by
  have ho : Ok s.1 s.2.2.1 s.2.2.2 (takeS s) := ok_take
  refine ⟨h.b.rv.nex, h.b.len, ?_, h.b.f, ?_, h.b.wc, ?_⟩
  · intro j hj
    rw [h.b.src j hj]
    show txt s.2.2.1 j = txt (takeS s).2.2.1 j
    unfold txt
    rw [ho.i 2 (by omega)]
  · rw [h.b.to]
    show s.1 33 2 = (takeS s).2.1 33 2
    rw [ho.x 33 (by decide) (by decide) (by decide) (by decide) (by decide) (by decide)]
  · show WK ((takeS s).2.2.2 35)
    rw [ho.j 35 (by decide) (by decide) (by decide) (by decide)]
    exact h.b.wk
theorem lS_adv (h : Rv N s) : lS (advS s) = lexS s := by
  have hl := lexS_le h
  have hN := h.l
  unfold lS
  show (⟨lxX s.1 (lexS s) 33 3, (lxX s.1 (lexS s) 33 4).toNatClampNeg, (lxX s.1 (lexS s) 33 2).toNatClampNeg, (lexS s).key, lxX s.1 (lexS s) 33 6⟩ : Lx) = lexS s
  rw [lxX_3, lxX_4, lxX_2, lxX_6]
  rw [nI_clamp (by omega), nI_clamp (by omega)]
/-- advance -/
theorem md_go (h : LB N s X I) (hk : ∀ X', MF X X' → (FT (outS N s) X' ∨ LR N (advS s) X' I) → post none (g0, fld X' y, I, J)) : ip_WP 31 0 [some (.ref 47), none] [] (g0, fld X y, I, J) b post px := by
  have hl := lexS_le h.rv
  have hok := lexS_ok h.rv
  have hN := h.rv.l
  have hlx : lexT (I 51) (s.2.2.2 35) N ((s.1 33 2).toNatClampNeg) s.2.1 (s.1 33 6) = lexS s := by
    unfold lexS lexH
    rw [h.rv.c]
    exact lexT_congr h.rv.q h.src
  refine md_adv (W := s.2.2.2 35) (k0 := s.2.1) (v0 := s.1 33 6) hN h.len (h.to.trans (cn_eq h.rv.p)) h.rv.q h.f h.wc h.wk (fun X' mf h0 h1 => ?_)
  rw [hlx] at h0 h1
  refine hk X' mf ?_
  have e3 : (advS s).1 33 3 = (lexS s).kind := lxX_3 (X := s.1)
  have e4 : (advS s).1 33 4 = nI (lexS s).place := lxX_4 (X := s.1)
  have e2 : (advS s).1 33 2 = nI (lexS s).next := lxX_2 (X := s.1)
  by_cases c : (lexS s).kind = 0
  · left
    obtain ⟨h6, h7⟩ := h0 c
    have ht : (takeS (advS s)).1 = 1 := by
      unfold takeS rTake
      rw [if_pos (e3.trans c)]
    have ho : Ok (advS s).1 (advS s).2.2.1 (advS s).2.2.2 (takeS (advS s)) := ok_take
    refine ⟨nexS (advS s), 1, ?_, by decide, h6, ?_⟩
    · rw [outS_eq h.rv, out1_bad (fun z => by rw [e3, c] at z; exact absurd z.1 (by decide)) (by rw [ht]; decide), ht]
    · rw [h7]
      show nI (lexS s).place = (takeS (advS s)).2.1 33 4
      rw [ho.x 33 (by decide) (by decide) (by decide) (by decide) (by decide) (by decide), e4]
  · right
    obtain ⟨h6, hml⟩ := h1 c
    have cp : ((advS s).1 33 4).toNatClampNeg = (lexS s).place := by rw [e4]; exact nI_clamp (by omega)
    have cx : ((advS s).1 33 2).toNatClampNeg = (lexS s).next := by rw [e2]; exact nI_clamp (by omega)
    refine ⟨⟨h.rv.adv, ?_, h.src, h6, ?_, h.wc, h.wk⟩, ?_, ?_, ?_, ?_, ?_⟩
    · rw [mf.j 8 (by decide) (by decide) (by decide) (by decide) (by decide) (by decide)]; exact h.len
    · rw [hml.to, e2]
    · rw [lS_adv h.rv]; exact hml
    · rw [e3]
      rcases hok.k with z | z
      · exact absurd z c
      · exact z
    · intro z
      rw [e3] at z
      rw [cp, cx, slc_congr (T' := txt s.2.2.1) (fun j h1 h2 => h.src j (by omega))]
      exact hok.nm z
    · rw [e4]; exact nI_pos' (by omega)
    · rw [cp, cx]; exact hl.2.1
/-- a fault is told -/
theorem LR.tell (h : LR N s X I) {r : Int32} (hn : ¬ (s.1 33 3 = 1 ∧ s.1 32 5 = -1)) (ht : (takeS s).1 = r) (hr : 0 < r) : FT (out1 N s) (tellX X r (X 47 36)) := by
  have ho : Ok s.1 s.2.2.1 s.2.2.2 (takeS s) := ok_take
  have hr0 : ¬ r = 0 := fun e => by rw [e] at hr; exact absurd hr (by decide)
  refine ⟨nexS s, r, ?_, hr, ?_, ?_⟩
  · rw [out1_bad hn (by rw [ht]; exact hr0), ht]
  · unfold tellX
    rw [if_neg (by rw [h.b.f]; decide), up47, if_neg (by decide), up47, if_pos rfl]
  · unfold tellX
    rw [if_neg (by rw [h.b.f]; decide), up47, if_pos rfl, h.ml.fr]
    show nI ((s.1 33 4).toNatClampNeg) = (takeS s).2.1 33 4
    rw [ho.x 33 (by decide) (by decide) (by decide) (by decide) (by decide) (by decide), ← cn_eq h.pl]
/-- what follows a step: the fault, or the next lexeme in hand -/
def RES (N : Nat) (s : SS) (X : Nat → Nat → Int32) (I : Nat → Nat → Int32) : Prop := FT (out1 N s) X ∨ ((takeS s).1 = 0 ∧ LR N (advS (nexS s)) X I)
theorem md_goR (h : LR N s X I) (ht : (takeS s).1 = 0) (hk : ∀ X', MF X X' → RES N s X' I → post none (g0, fld X' y, I, J)) : ip_WP 31 0 [some (.ref 47), none] [] (g0, fld X y, I, J) b post px := by
  refine md_go h.nx (fun X' mf hr => hk X' mf ?_)
  rcases hr with hr | hr
  · left
    rw [out1_go ht]
    exact hr
  · exact Or.inr ⟨ht, hr⟩
theorem mk_sg {k : Int32} (h : KD k) : (mKind k = 3) = isSg k := by
  refine propext ⟨fun e => ?_, fun e => ?_⟩
  · rcases h with h | h | h | h | ⟨w, hw, h⟩
    · rw [h] at e; exact absurd e (by decide)
    · rw [h] at e; exact absurd e (by decide)
    · rw [h] at e; exact absurd e (by decide)
    · exact h
    · have t : ∀ w, w < 17 → ¬ mKind (256 + nI w) = 3 := by decide +kernel
      rw [h] at e
      exact absurd e (t w hw)
  · rcases e with e | e | e | e | e <;> rw [e] <;> decide
theorem LR.sign (h : LR N s X I) {c : Int32} (hc : isSg c) : (X 47 35 = 3 ∧ X 47 38 = c) = (s.1 33 3 = c) := by
  refine propext ⟨fun ⟨h1, h2⟩ => ?_, fun e => ⟨?_, ?_⟩⟩
  · have hk : mKind (s.1 33 3) = 3 := h.ml.kd.symm.trans h1
    rw [mk_sg h.kd] at hk
    have := h.ml.si hk
    exact this.symm.trans h2
  · rw [h.ml.kd]
    show mKind (s.1 33 3) = 3
    rw [mk_sg h.kd, e]
    exact hc
  · rw [h.ml.si (by show isSg (s.1 33 3); rw [e]; exact hc)]
    exact e
theorem md_sign (h : LR N s X I) {c : Int32} (hc : isSg c) (h5 : ¬ s.1 32 5 = -1) (hst : (takeS s).1 = if s.1 33 3 = c then 0 else 2) (hk : ∀ X', MF X X' → RES N s X' I → post none (g0, fld X' y, I, J)) : ip_WP 34 0 [some (.ref 47), some (.int c)] [] (g0, fld X y, I, J) b post px := by
  simp only [s34_0, s34_1, s34_4, s34_7, s34_8, s34_9, s34_10, s34_13, s34_16, s34_17, s34_18, s34_19, s34_22, s34_25, s34_28, s34_29, s34_32, f_47_0, f_47_1, u_47_1, f_47_2, u_47_2, f_47_3, f_47_4, u_47_4, f_47_5, f_47_6, u_47_6, f_47_7, u_47_7, f_47_8, u_47_8, f_47_9, u_47_9, f_47_10, u_47_10, f_47_11, f_47_12, f_47_13, f_47_14, f_47_15, f_47_16, f_47_17, f_47_18, f_47_19, f_47_20, f_47_21, f_47_22, f_47_23, u_47_23, f_47_24, f_47_25, f_47_26, f_47_27, f_47_28, f_47_29, u_47_29, f_47_30, u_47_30, f_47_31, f_47_32, f_47_33, f_47_34, f_47_35, u_47_35, f_47_36, u_47_36, f_47_37, u_47_37, f_47_38, u_47_38, o_47, h.b.f, md_isSign, h.sign hc, bI_0, Int32.reduceLE, Option.toList_some, Option.toList_none, List.cons_append, List.nil_append, List.append_nil, ip_on_some, true_and, and_true, if_true, if_false, not_true_eq_false, not_false_eq_true, decide_true, true_or, or_true, or_self, Bool.false_eq_true]
  by_cases q : s.1 33 3 = c
  · rw [if_pos q] at hst
    simp only [q, Option.toList_some, Option.toList_none, List.cons_append, List.nil_append, List.append_nil, ip_on_some, true_and, and_true, if_true, if_false, not_true_eq_false, not_false_eq_true, decide_true, true_or, or_true, or_self, Bool.false_eq_true]
    refine md_goR h hst (fun X' mf hr => ?_)
    simp only [s34_0, s34_1, s34_4, s34_7, s34_8, s34_9, s34_10, s34_13, s34_16, s34_17, s34_18, s34_19, s34_22, s34_25, s34_28, s34_29, s34_32, Option.toList_some, Option.toList_none, List.cons_append, List.nil_append, List.append_nil, ip_on_some, true_and, and_true, if_true, if_false, not_true_eq_false, not_false_eq_true, decide_true, true_or, or_true, or_self, Bool.false_eq_true]
    exact hk X' mf hr
  · rw [if_neg q] at hst
    simp only [q, md_tell, s34_0, s34_1, s34_4, s34_7, s34_8, s34_9, s34_10, s34_13, s34_16, s34_17, s34_18, s34_19, s34_22, s34_25, s34_28, s34_29, s34_32, Option.toList_some, Option.toList_none, List.cons_append, List.nil_append, List.append_nil, ip_on_some, true_and, and_true, if_true, if_false, not_true_eq_false, not_false_eq_true, decide_true, true_or, or_true, or_self, Bool.false_eq_true]
    exact hk _ MF.refl.tell (Or.inl (h.tell (fun z => h5 z.2) hst (by decide)))
theorem md_signF (hf : 0 < X 47 6) {c : Int32} : ip_WP 34 0 [some (.ref 47), some (.int c)] [] (g0, fld X y, I, J) b post px ↔ post none (g0, fld X y, I, J) := by
  have hf' : ¬ X 47 6 ≤ 0 := Int32.not_le.mpr hf
  simp only [s34_0, s34_1, s34_4, s34_7, s34_8, s34_9, s34_10, s34_13, s34_16, s34_17, s34_18, s34_19, s34_22, s34_25, s34_28, s34_29, s34_32, f_47_0, f_47_1, u_47_1, f_47_2, u_47_2, f_47_3, f_47_4, u_47_4, f_47_5, f_47_6, u_47_6, f_47_7, u_47_7, f_47_8, u_47_8, f_47_9, u_47_9, f_47_10, u_47_10, f_47_11, f_47_12, f_47_13, f_47_14, f_47_15, f_47_16, f_47_17, f_47_18, f_47_19, f_47_20, f_47_21, f_47_22, f_47_23, u_47_23, f_47_24, f_47_25, f_47_26, f_47_27, f_47_28, f_47_29, u_47_29, f_47_30, u_47_30, f_47_31, f_47_32, f_47_33, f_47_34, f_47_35, u_47_35, f_47_36, u_47_36, f_47_37, u_47_37, f_47_38, u_47_38, o_47, hf', Option.toList_some, Option.toList_none, List.cons_append, List.nil_append, List.append_nil, ip_on_some, true_and, and_true, if_true, if_false, not_true_eq_false, not_false_eq_true, decide_true, true_or, or_true, or_self, Bool.false_eq_true]
theorem ne0 {x : Int32} (h : 0 < x) : ¬ x = 0 := fun e => by rw [e] at h; exact absurd h (by decide)
theorem md_commaF (hf : 0 < X 47 6) : ip_WP 35 0 [some (.ref 47)] [] (g0, fld X y, I, J) b post px ↔ post (some (.int 0)) (g0, fld X y, I, J) := by
  have e : ¬ (X 47 6 = 0 ∧ X 47 35 = 3 ∧ X 47 38 = 44) := fun q => ne0 hf q.1
  simp only [s35_0, s35_1, s35_3, s35_6, s35_9, s35_10, s35_11, s35_12, s35_15, s35_16, s35_19, s35_22, s35_23, s35_26, s35_27, f_47_0, f_47_1, u_47_1, f_47_2, u_47_2, f_47_3, f_47_4, u_47_4, f_47_5, f_47_6, u_47_6, f_47_7, u_47_7, f_47_8, u_47_8, f_47_9, u_47_9, f_47_10, u_47_10, f_47_11, f_47_12, f_47_13, f_47_14, f_47_15, f_47_16, f_47_17, f_47_18, f_47_19, f_47_20, f_47_21, f_47_22, f_47_23, u_47_23, f_47_24, f_47_25, f_47_26, f_47_27, f_47_28, f_47_29, u_47_29, f_47_30, u_47_30, f_47_31, f_47_32, f_47_33, f_47_34, f_47_35, u_47_35, f_47_36, u_47_36, f_47_37, u_47_37, f_47_38, u_47_38, o_47, md_isSign, bI_0, e, Option.toList_some, Option.toList_none, List.cons_append, List.nil_append, List.append_nil, ip_on_some, true_and, and_true, if_true, if_false, not_true_eq_false, not_false_eq_true, decide_true, true_or, or_true, or_self, Bool.false_eq_true]
theorem md_comma (h : LR N s X I) (hst : s.1 33 3 = 44 → (takeS s).1 = 0) (hno : ¬ s.1 33 3 = 44 → post (some (.int 0)) (g0, fld X y, I, J)) (hft : s.1 33 3 = 44 → ∀ X', MF X X' → FT (out1 N s) X' → post (some (.int 0)) (g0, fld X' y, I, J)) (hgo : s.1 33 3 = 44 → ∀ X', MF X X' → LR N (advS (nexS s)) X' I → post (some (.int 1)) (g0, fld X' y, I, J)) : ip_WP 35 0 [some (.ref 47)] [] (g0, fld X y, I, J) b post px := by
  simp only [s35_0, s35_1, s35_3, s35_6, s35_9, s35_10, s35_11, s35_12, s35_15, s35_16, s35_19, s35_22, s35_23, s35_26, s35_27, f_47_0, f_47_1, u_47_1, f_47_2, u_47_2, f_47_3, f_47_4, u_47_4, f_47_5, f_47_6, u_47_6, f_47_7, u_47_7, f_47_8, u_47_8, f_47_9, u_47_9, f_47_10, u_47_10, f_47_11, f_47_12, f_47_13, f_47_14, f_47_15, f_47_16, f_47_17, f_47_18, f_47_19, f_47_20, f_47_21, f_47_22, f_47_23, u_47_23, f_47_24, f_47_25, f_47_26, f_47_27, f_47_28, f_47_29, u_47_29, f_47_30, u_47_30, f_47_31, f_47_32, f_47_33, f_47_34, f_47_35, u_47_35, f_47_36, u_47_36, f_47_37, u_47_37, f_47_38, u_47_38, o_47, md_isSign, h.b.f, h.sign (Or.inl rfl : isSg 44), bI_0, Option.toList_some, Option.toList_none, List.cons_append, List.nil_append, List.append_nil, ip_on_some, true_and, and_true, if_true, if_false, not_true_eq_false, not_false_eq_true, decide_true, true_or, or_true, or_self, Bool.false_eq_true]
  by_cases q : s.1 33 3 = 44
  · simp only [q, Option.toList_some, Option.toList_none, List.cons_append, List.nil_append, List.append_nil, ip_on_some, true_and, and_true, if_true, if_false, not_true_eq_false, not_false_eq_true, decide_true, true_or, or_true, or_self, Bool.false_eq_true]
    refine md_goR h (hst q) (fun X' mf hr => ?_)
    rcases hr with hr | ⟨_, hr⟩
    · have := ne0 hr.pos
      simp only [s35_0, s35_1, s35_3, s35_6, s35_9, s35_10, s35_11, s35_12, s35_15, s35_16, s35_19, s35_22, s35_23, s35_26, s35_27, f_47_0, f_47_1, u_47_1, f_47_2, u_47_2, f_47_3, f_47_4, u_47_4, f_47_5, f_47_6, u_47_6, f_47_7, u_47_7, f_47_8, u_47_8, f_47_9, u_47_9, f_47_10, u_47_10, f_47_11, f_47_12, f_47_13, f_47_14, f_47_15, f_47_16, f_47_17, f_47_18, f_47_19, f_47_20, f_47_21, f_47_22, f_47_23, u_47_23, f_47_24, f_47_25, f_47_26, f_47_27, f_47_28, f_47_29, u_47_29, f_47_30, u_47_30, f_47_31, f_47_32, f_47_33, f_47_34, f_47_35, u_47_35, f_47_36, u_47_36, f_47_37, u_47_37, f_47_38, u_47_38, o_47, this, Option.toList_some, Option.toList_none, List.cons_append, List.nil_append, List.append_nil, ip_on_some, true_and, and_true, if_true, if_false, not_true_eq_false, not_false_eq_true, decide_true, true_or, or_true, or_self, Bool.false_eq_true]
      exact hft q X' mf hr
    · have := hr.b.f
      simp only [s35_0, s35_1, s35_3, s35_6, s35_9, s35_10, s35_11, s35_12, s35_15, s35_16, s35_19, s35_22, s35_23, s35_26, s35_27, f_47_0, f_47_1, u_47_1, f_47_2, u_47_2, f_47_3, f_47_4, u_47_4, f_47_5, f_47_6, u_47_6, f_47_7, u_47_7, f_47_8, u_47_8, f_47_9, u_47_9, f_47_10, u_47_10, f_47_11, f_47_12, f_47_13, f_47_14, f_47_15, f_47_16, f_47_17, f_47_18, f_47_19, f_47_20, f_47_21, f_47_22, f_47_23, u_47_23, f_47_24, f_47_25, f_47_26, f_47_27, f_47_28, f_47_29, u_47_29, f_47_30, u_47_30, f_47_31, f_47_32, f_47_33, f_47_34, f_47_35, u_47_35, f_47_36, u_47_36, f_47_37, u_47_37, f_47_38, u_47_38, o_47, this, Option.toList_some, Option.toList_none, List.cons_append, List.nil_append, List.append_nil, ip_on_some, true_and, and_true, if_true, if_false, not_true_eq_false, not_false_eq_true, decide_true, true_or, or_true, or_self, Bool.false_eq_true]
      exact hgo q X' mf hr
  · simp only [q, Option.toList_some, Option.toList_none, List.cons_append, List.nil_append, List.append_nil, ip_on_some, true_and, and_true, if_true, if_false, not_true_eq_false, not_false_eq_true, decide_true, true_or, or_true, or_self, Bool.false_eq_true]
    exact hno q
/-- take(again) -/
theorem md_take (h : LR N s X I) (h5 : ¬ s.1 32 5 = -1) {v : Prop} [Decidable v] (hst : (takeS s).1 = if v then 7 else 0) (hk : ∀ X' r, MF X X' → (v → r = 0) → (¬ v → r = 1) → RES N s X' I → post (some (.int r)) (g0, fld X' y, I, J)) : ip_WP 42 0 [some (.ref 47), some (.int (bI v))] [] (g0, fld X y, I, J) b post px := by
  simp only [s42_0, s42_1, s42_4, s42_7, s42_8, s42_9, s42_10, s42_13, s42_14, s42_16, s42_17, s42_20, s42_23, s42_26, s42_27, s42_30, s42_31, s42_34, s42_35, s42_38, s42_39, f_47_0, f_47_1, u_47_1, f_47_2, u_47_2, f_47_3, f_47_4, u_47_4, f_47_5, f_47_6, u_47_6, f_47_7, u_47_7, f_47_8, u_47_8, f_47_9, u_47_9, f_47_10, u_47_10, f_47_11, f_47_12, f_47_13, f_47_14, f_47_15, f_47_16, f_47_17, f_47_18, f_47_19, f_47_20, f_47_21, f_47_22, f_47_23, u_47_23, f_47_24, f_47_25, f_47_26, f_47_27, f_47_28, f_47_29, u_47_29, f_47_30, u_47_30, f_47_31, f_47_32, f_47_33, f_47_34, f_47_35, u_47_35, f_47_36, u_47_36, f_47_37, u_47_37, f_47_38, u_47_38, o_47, h.b.f, bI_0, Int32.reduceLE, Option.toList_some, Option.toList_none, List.cons_append, List.nil_append, List.append_nil, ip_on_some, true_and, and_true, if_true, if_false, not_true_eq_false, not_false_eq_true, decide_true, true_or, or_true, or_self, Bool.false_eq_true]
  by_cases q : v
  · rw [if_pos q] at hst
    simp only [q, md_tell, s42_0, s42_1, s42_4, s42_7, s42_8, s42_9, s42_10, s42_13, s42_14, s42_16, s42_17, s42_20, s42_23, s42_26, s42_27, s42_30, s42_31, s42_34, s42_35, s42_38, s42_39, bI_0, Option.toList_some, Option.toList_none, List.cons_append, List.nil_append, List.append_nil, ip_on_some, true_and, and_true, if_true, if_false, not_true_eq_false, not_false_eq_true, decide_true, true_or, or_true, or_self, Bool.false_eq_true]
    exact hk _ _ MF.refl.tell (fun _ => rfl) (fun z => absurd q z) (Or.inl (h.tell (fun z => h5 z.2) hst (by decide)))
  · rw [if_neg q] at hst
    simp only [q, Option.toList_some, Option.toList_none, List.cons_append, List.nil_append, List.append_nil, ip_on_some, true_and, and_true, if_true, if_false, not_true_eq_false, not_false_eq_true, decide_true, true_or, or_true, or_self, Bool.false_eq_true]
    refine md_goR h hst (fun X' mf hr => ?_)
    simp only [s42_0, s42_1, s42_4, s42_7, s42_8, s42_9, s42_10, s42_13, s42_14, s42_16, s42_17, s42_20, s42_23, s42_26, s42_27, s42_30, s42_31, s42_34, s42_35, s42_38, s42_39, bI_0, q, Option.toList_some, Option.toList_none, List.cons_append, List.nil_append, List.append_nil, ip_on_some, true_and, and_true, if_true, if_false, not_true_eq_false, not_false_eq_true, decide_true, true_or, or_true, or_self, Bool.false_eq_true]
    exact hk X' 1 mf (fun z => absurd z q) (fun _ => rfl) hr
theorem md_takeF (hf : 0 < X 47 6) {v : Int32} : ip_WP 42 0 [some (.ref 47), some (.int v)] [] (g0, fld X y, I, J) b post px ↔ post (some (.int 0)) (g0, fld X y, I, J) := by
  have hf' : ¬ X 47 6 ≤ 0 := Int32.not_le.mpr hf
  simp only [s42_0, s42_1, s42_4, s42_7, s42_8, s42_9, s42_10, s42_13, s42_14, s42_16, s42_17, s42_20, s42_23, s42_26, s42_27, s42_30, s42_31, s42_34, s42_35, s42_38, s42_39, f_47_0, f_47_1, u_47_1, f_47_2, u_47_2, f_47_3, f_47_4, u_47_4, f_47_5, f_47_6, u_47_6, f_47_7, u_47_7, f_47_8, u_47_8, f_47_9, u_47_9, f_47_10, u_47_10, f_47_11, f_47_12, f_47_13, f_47_14, f_47_15, f_47_16, f_47_17, f_47_18, f_47_19, f_47_20, f_47_21, f_47_22, f_47_23, u_47_23, f_47_24, f_47_25, f_47_26, f_47_27, f_47_28, f_47_29, u_47_29, f_47_30, u_47_30, f_47_31, f_47_32, f_47_33, f_47_34, f_47_35, u_47_35, f_47_36, u_47_36, f_47_37, u_47_37, f_47_38, u_47_38, o_47, hf', Option.toList_some, Option.toList_none, List.cons_append, List.nil_append, List.append_nil, ip_on_some, true_and, and_true, if_true, if_false, not_true_eq_false, not_false_eq_true, decide_true, true_or, or_true, or_self, Bool.false_eq_true]
theorem mk_nb {k : Int32} (h : KD k) : (mKind k = 2) = (k = 3) := by
  refine propext ⟨fun e => ?_, fun e => by rw [e]; decide⟩
  rcases h with h | h | h | h | ⟨w, hw, h⟩
  · rw [h] at e; exact absurd e (by decide)
  · rw [h] at e; exact absurd e (by decide)
  · exact h
  · rcases h with h | h | h | h | h <;> rw [h] at e <;> exact absurd e (by decide)
  · have t : ∀ w, w < 17 → ¬ mKind (256 + nI w) = 2 := by decide +kernel
    rw [h] at e
    exact absurd e (t w hw)
theorem mk_nm {k : Int32} (h : KD k) : (mKind k = 1) = (k = 2) := by
  refine propext ⟨fun e => ?_, fun e => by rw [e]; decide⟩
  rcases h with h | h | h | h | ⟨w, hw, h⟩
  · rw [h] at e; exact absurd e (by decide)
  · exact h
  · rw [h] at e; exact absurd e (by decide)
  · rcases h with h | h | h | h | h <;> rw [h] at e <;> exact absurd e (by decide)
  · have t : ∀ w, w < 17 → ¬ mKind (256 + nI w) = 1 := by decide +kernel
    rw [h] at e
    exact absurd e (t w hw)
theorem LR.kn (h : LR N s X I) : (X 47 35 = 1) = (s.1 33 3 = 2) := by rw [h.ml.kd]; exact mk_nm h.kd
theorem LR.kb (h : LR N s X I) : (X 47 35 = 2) = (s.1 33 3 = 3) := by rw [h.ml.kd]; exact mk_nb h.kd
theorem md_num (h : LR N s X I) (h5 : ¬ s.1 32 5 = -1) {hi : Int32} (hst : (takeS s).1 = if s.1 33 3 = 3 then (if s.1 33 6 < 1 ∨ hi < s.1 33 6 then 8 else 0) else 2) (hk : ∀ X' r, MF X X' → FT (out1 N s) X' ∨ ((takeS s).1 = 0 ∧ LR N (advS (nexS s)) X' I ∧ s.1 33 3 = 3 ∧ r = s.1 33 6) → post (some (.int r)) (g0, fld X' y, I, J)) : ip_WP 36 0 [some (.ref 47), some (.int hi), none] [] (g0, fld X y, I, J) b post px := by
  simp only [s36_0, s36_1, s36_4, s36_7, s36_8, s36_9, s36_10, s36_13, s36_14, s36_15, s36_18, s36_19, s36_22, s36_23, s36_24, s36_25, s36_28, s36_31, s36_34, s36_35, s36_36, s36_37, s36_40, s36_43, s36_44, s36_46, s36_47, s36_50, s36_53, s36_56, s36_57, s36_60, s36_61, f_47_0, f_47_1, u_47_1, f_47_2, u_47_2, f_47_3, f_47_4, u_47_4, f_47_5, f_47_6, u_47_6, f_47_7, u_47_7, f_47_8, u_47_8, f_47_9, u_47_9, f_47_10, u_47_10, f_47_11, f_47_12, f_47_13, f_47_14, f_47_15, f_47_16, f_47_17, f_47_18, f_47_19, f_47_20, f_47_21, f_47_22, f_47_23, u_47_23, f_47_24, f_47_25, f_47_26, f_47_27, f_47_28, f_47_29, u_47_29, f_47_30, u_47_30, f_47_31, f_47_32, f_47_33, f_47_34, f_47_35, u_47_35, f_47_36, u_47_36, f_47_37, u_47_37, f_47_38, u_47_38, o_47, h.b.f, h.kb, md_within, bI_0, Int32.reduceLE, Option.toList_some, Option.toList_none, List.cons_append, List.nil_append, List.append_nil, ip_on_some, true_and, and_true, if_true, if_false, not_true_eq_false, not_false_eq_true, decide_true, true_or, or_true, or_self, Bool.false_eq_true]
  by_cases q : s.1 33 3 = 3
  · have e38 : X 47 38 = s.1 33 6 := h.ml.nu q
    rw [if_pos q] at hst
    by_cases q2 : s.1 33 6 < 1 ∨ hi < s.1 33 6
    · have q3 : ¬ (1 ≤ s.1 33 6 ∧ s.1 33 6 ≤ hi) := fun z => by
        rcases q2 with q2 | q2
        · exact Int32.not_le.mpr q2 z.1
        · exact Int32.not_le.mpr q2 z.2
      rw [if_pos q2] at hst
      simp only [q, e38, q3, md_tell, s36_0, s36_1, s36_4, s36_7, s36_8, s36_9, s36_10, s36_13, s36_14, s36_15, s36_18, s36_19, s36_22, s36_23, s36_24, s36_25, s36_28, s36_31, s36_34, s36_35, s36_36, s36_37, s36_40, s36_43, s36_44, s36_46, s36_47, s36_50, s36_53, s36_56, s36_57, s36_60, s36_61, Option.toList_some, Option.toList_none, List.cons_append, List.nil_append, List.append_nil, ip_on_some, true_and, and_true, if_true, if_false, not_true_eq_false, not_false_eq_true, decide_true, true_or, or_true, or_self, Bool.false_eq_true]
      exact hk _ _ MF.refl.tell (Or.inl (h.tell (fun z => h5 z.2) hst (by decide)))
    · have q3 : 1 ≤ s.1 33 6 ∧ s.1 33 6 ≤ hi := by
        simp only [not_or] at q2
        exact ⟨Int32.not_lt.mp q2.1, Int32.not_lt.mp q2.2⟩
      rw [if_neg q2] at hst
      simp only [q, e38, q3, and_self, Option.toList_some, Option.toList_none, List.cons_append, List.nil_append, List.append_nil, ip_on_some, true_and, and_true, if_true, if_false, not_true_eq_false, not_false_eq_true, decide_true, true_or, or_true, or_self, Bool.false_eq_true]
      refine md_goR h hst (fun X' mf hr => ?_)
      simp only [s36_0, s36_1, s36_4, s36_7, s36_8, s36_9, s36_10, s36_13, s36_14, s36_15, s36_18, s36_19, s36_22, s36_23, s36_24, s36_25, s36_28, s36_31, s36_34, s36_35, s36_36, s36_37, s36_40, s36_43, s36_44, s36_46, s36_47, s36_50, s36_53, s36_56, s36_57, s36_60, s36_61, Option.toList_some, Option.toList_none, List.cons_append, List.nil_append, List.append_nil, ip_on_some, true_and, and_true, if_true, if_false, not_true_eq_false, not_false_eq_true, decide_true, true_or, or_true, or_self, Bool.false_eq_true]
      refine hk X' _ mf ?_
      rcases hr with hr | ⟨h1, h2⟩
      · exact Or.inl hr
      · exact Or.inr ⟨h1, h2, q, rfl⟩
  · rw [if_neg q] at hst
    simp only [q, md_tell, s36_0, s36_1, s36_4, s36_7, s36_8, s36_9, s36_10, s36_13, s36_14, s36_15, s36_18, s36_19, s36_22, s36_23, s36_24, s36_25, s36_28, s36_31, s36_34, s36_35, s36_36, s36_37, s36_40, s36_43, s36_44, s36_46, s36_47, s36_50, s36_53, s36_56, s36_57, s36_60, s36_61, Option.toList_some, Option.toList_none, List.cons_append, List.nil_append, List.append_nil, ip_on_some, true_and, and_true, if_true, if_false, not_true_eq_false, not_false_eq_true, decide_true, true_or, or_true, or_self, Bool.false_eq_true]
    exact hk _ _ MF.refl.tell (Or.inl (h.tell (fun z => h5 z.2) hst (by decide)))
theorem md_numF (hf : 0 < X 47 6) {hi : Int32} : ip_WP 36 0 [some (.ref 47), some (.int hi), none] [] (g0, fld X y, I, J) b post px ↔ post (some (.int 0)) (g0, fld X y, I, J) := by
  have hf' : ¬ X 47 6 ≤ 0 := Int32.not_le.mpr hf
  simp only [s36_0, s36_1, s36_4, s36_7, s36_8, s36_9, s36_10, s36_13, s36_14, s36_15, s36_18, s36_19, s36_22, s36_23, s36_24, s36_25, s36_28, s36_31, s36_34, s36_35, s36_36, s36_37, s36_40, s36_43, s36_44, s36_46, s36_47, s36_50, s36_53, s36_56, s36_57, s36_60, s36_61, f_47_0, f_47_1, u_47_1, f_47_2, u_47_2, f_47_3, f_47_4, u_47_4, f_47_5, f_47_6, u_47_6, f_47_7, u_47_7, f_47_8, u_47_8, f_47_9, u_47_9, f_47_10, u_47_10, f_47_11, f_47_12, f_47_13, f_47_14, f_47_15, f_47_16, f_47_17, f_47_18, f_47_19, f_47_20, f_47_21, f_47_22, f_47_23, u_47_23, f_47_24, f_47_25, f_47_26, f_47_27, f_47_28, f_47_29, u_47_29, f_47_30, u_47_30, f_47_31, f_47_32, f_47_33, f_47_34, f_47_35, u_47_35, f_47_36, u_47_36, f_47_37, u_47_37, f_47_38, u_47_38, o_47, hf', Option.toList_some, Option.toList_none, List.cons_append, List.nil_append, List.append_nil, ip_on_some, true_and, and_true, if_true, if_false, not_true_eq_false, not_false_eq_true, decide_true, true_or, or_true, or_self, Bool.false_eq_true]
end
