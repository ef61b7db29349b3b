/-! the law in the pure machine, from its begin to its end -/
theorem clr_f {X I : Nat → Nat → Int32} (hX : ∀ c, c ≠ 37 → X c = Xf c) (hI : ∀ a, a ≠ 39 → a ≠ 41 → I a = If a) : Clr X I := by
  have hb : Bd Xf := by and_intros <;> decide
  refine ⟨hb.of (fun k hk => hX k (by omega)), ?_, ?_, ?_, ?_, ?_, ?_⟩
  · intro u hu
    rw [hX _ (by omega)]
    have hc : u = 0 ∨ u = 1 ∨ u = 2 ∨ u = 3 := by omega
    rcases hc with rfl | rfl | rfl | rfl <;> rfl
  · rw [hX 5 (by decide)]; rfl
  · rw [hX 5 (by decide)]; rfl
  · intro k hk
    rw [hI 15 (by decide) (by decide), hI 17 (by decide) (by decide), hI 19 (by decide) (by decide)]
    refine ⟨?_, ?_, rfl⟩
    · show (if k < 12 then (-1 : Int32) else 0) = -1
      rw [if_pos hk]
    · show (if k < 12 then (-1 : Int32) else 0) = -1
      rw [if_pos hk]
  · intro k hk
    rw [hI 21 (by decide) (by decide)]
    show (if k < 7 then (-1 : Int32) else 0) = -1
    rw [if_pos hk]
  · intro k hk
    rw [hI 29 (by decide) (by decide), hI 31 (by decide) (by decide)]
    refine ⟨?_, rfl⟩
    show (if k < 8 then (-1 : Int32) else 0) = -1
    rw [if_pos hk]
theorem rl_f {sc : Nat → Int64} {X1 I1 X2 I2 : Nat → Nat → Int32} (h1 : FL X1 I1 37 2 39 41 (errs Xf If)) (h2 : ∀ c, c ≠ 37 → X1 c = Xf c) (h3 : ∀ a, a ≠ 39 → a ≠ 41 → I1 a = If a) (g1 : FG X1 X2 I1 I2) (g2 : MN X1 (Jf sc) X2 I2) (g3 : MVf X1 I1 X2 I2) (g4 : X2 47 9 = 0) (g5 : FL X2 I2 47 29 68 69 (errs X1 I1)) (g6 : FL X2 I2 47 30 70 71 (rems X1 I1)) : RL X2 I2 (Jf sc) := by
  have hc := clr_f h2 h3
  have xx : ∀ c, c ≠ 37 → c ≠ 47 → X2 c = Xf c := fun c a1 a2 => by rw [g1.c c a2]; exact h2 c a1
  have x47 : ∀ j, j ≠ 9 → j ≠ 10 → j ≠ 23 → j ≠ 29 → j ≠ 30 → X2 47 j = 0 := fun j a1 a2 a3 a4 a5 => by rw [g1.j j a1 a2 a3 a4 a5, h2 47 (by decide)]; rfl
  have cu : ∀ u, u < 4 → X2 (6 + 2 * u) = X1 (6 + 2 * u) := fun u hu => g1.c _ (by omega)
  have hb2 : Bd X2 := hc.bd.of (fun k hk => g1.c k (by omega))
  have ec : ∀ u, u < 4 → cnt X2 u = cnt X1 u := fun u hu => by unfold cnt; rw [cu u hu]
  have x11 : X2 1 1 = 0 := by rw [xx 1 (by decide) (by decide)]; rfl
  have x31 : X2 3 1 = 0 := by rw [xx 3 (by decide) (by decide)]; rfl
  have e5 : X1 5 = Xf 5 := h2 5 (by decide)
  have e6 : X1 6 = Xf 6 := h2 6 (by decide)
  have e8 : X1 8 = Xf 8 := h2 8 (by decide)
  have e10 : X1 10 = Xf 10 := h2 10 (by decide)
  have e12 : X1 12 = Xf 12 := h2 12 (by decide)
  have ee : errs X1 I1 = errs Xf If := errs_congr e5 e6 e12 (fun a a1 a2 => h3 a (by omega) (by omega))
  have er : rems X1 I1 = [] := by
    rw [rems_congr e5 e6 e8 e10 (fun a a1 a2 => h3 a (by omega) (by omega))]
    decide +kernel
  have hbf : Bd Xf := by and_intros <;> decide
  refine ⟨?_, ?_, ?_, ?_, ?_, ?_, ?_, ?_, ?_, ?_, ?_, ?_, ?_, ?_⟩
  · exact g2.xg hb2 cu
  · show MV X2 I2 X2 I2 (cnt X2 0) (cnt X2 2) (cnt X2 3)
    rw [ec 0 (by decide), ec 2 (by decide), ec 3 (by decide)]
    exact (g3.of (Xc' := X2) (X' := X2) (I' := I2) rfl (fun _ _ => rfl) (by rw [ec 0 (by decide)]; exact Nat.le_refl _) (by rw [ec 1 (by decide)]; exact Nat.le_refl _) (by rw [g1.c 5 (by decide)])).ic (fun a a1 a2 => g1.a a (by omega) (by omega) (by omega) (by omega) (by omega) (by omega) (by omega) (by omega) (by omega) (by omega))
  · intro j hj
    rw [g1.a 48 (by decide) (by decide) (by decide) (by decide) (by decide) (by decide) (by decide) (by decide) (by decide) (by decide), h3 48 (by decide) (by decide)]
    rfl
  · exact wk_f
  · rw [x47 2 (by decide) (by decide) (by decide) (by decide) (by decide), x11]
  · intro j hj
    rw [x11] at hj
    exact absurd hj (Nat.not_lt_zero j)
  · rw [x47 4 (by decide) (by decide) (by decide) (by decide) (by decide), x31]
  · intro j hj
    rw [x31] at hj
    exact absurd hj (Nat.not_lt_zero j)
  · intro j hj
    rw [x31] at hj
    exact absurd hj (Nat.not_lt_zero j)
  · rw [ee] at g5
    refine ⟨_, errs_len hbf, ⟨?_, ?_⟩, g5⟩
    · rw [g1.c 37 (by decide)]; exact h1.s
    · rw [g1.a 39 (by decide) (by decide) (by decide) (by decide) (by decide) (by decide) (by decide) (by decide) (by decide) (by decide), g1.a 41 (by decide) (by decide) (by decide) (by decide) (by decide) (by decide) (by decide) (by decide) (by decide) (by decide)]; exact h1.g
  · rw [er] at g6
    refine ⟨[], Nat.zero_le _, ⟨?_, fun i q hq => by simp at hq⟩, g6⟩
    rw [xx 42 (by decide) (by decide)]
    rfl
  · rw [x47 6 (by decide) (by decide) (by decide) (by decide) (by decide), xx 32 (by decide) (by decide)]; rfl
  · rw [x47 7 (by decide) (by decide) (by decide) (by decide) (by decide), xx 32 (by decide) (by decide)]; rfl
  · rw [g4, xx 5 (by decide) (by decide)]; rfl
theorem rst_c : ip_rst 0 (1103, 30707) = (1057, 21360) := by decide +kernel
theorem rst_m : ip_rst 19 (1056, 21321) = (1032, 7303) := by decide +kernel
theorem gT73 : gT 73 = g0 := rfl
theorem gT0 : gT 0 = [] := rfl
theorem lw_run {sc : Nat → Int64} {n : Nat} {p : Nat → Int32} {post : Option Value → ip_H → Prop} {px : String → ip_H → Prop} (hS : SCP n p (Jf sc)) (hn : n ≤ 2560) (hyes : ∀ h, post (some (.int 1)) h) : ip_WP 209 0 [some (.ref ip_SC), none, none, none, none, none, none] [] ([], fld Xf 0, If, Jf sc) (1104, 30714) post px := by
  rw [← gT0, s209_0, gl_0, gx_0]
  refine ⟨by decide, by decide, ?_⟩
  show ip_WP 209 3 [some (.ref ip_SC), none, none, none, none, none, none] [.ref 0] (gT 1, fr 0 0 (fld Xf 0), If, Jf sc) (1103, 30707) post px
  rw [s209_3, s209_4]
  refine ⟨by decide, by decide, ?_⟩
  refine cc_class (F := fld Xf 0) (fun _ _ => rfl) (fun X1 I1 h1 h2 h3 => ?_)
  show ip_WP 209 7 [some (.ref ip_SC), none, none, none, none, none, none] [.ref 0] (gT 47, fld X1 0, I1, Jf sc) (ip_rst 0 (1103, 30707)) post px
  rw [rst_c, s209_7, s209_8, gl_47, gx_47]
  refine ⟨by decide, by decide, ?_⟩
  show ip_WP 209 11 [some (.ref ip_SC), some (.ref 0), none, none, none, none, none] [.ref 47] (gT 48, fr 47 1 (fld X1 0), I1, Jf sc) (1056, 21321) post px
  rw [s209_11, s209_12]
  refine ⟨by decide, by decide, ?_⟩
  have iz : ∀ a, 49 ≤ a → a ≤ 72 → ∀ j, I1 a j = 0 := by
    intro a a1 a2 j
    rw [h3 a (by omega) (by omega)]
    have hc : a = 49 ∨ a = 50 ∨ a = 51 ∨ a = 52 ∨ a = 53 ∨ a = 54 ∨ a = 55 ∨ a = 56 ∨ a = 57 ∨ a = 58 ∨ a = 59 ∨ a = 60 ∨ a = 61 ∨ a = 62 ∨ a = 63 ∨ a = 64 ∨ a = 65 ∨ a = 66 ∨ a = 67 ∨ a = 68 ∨ a = 69 ∨ a = 70 ∨ a = 71 ∨ a = 72 := by omega
    rcases hc with rfl | rfl | rfl | rfl | rfl | rfl | rfl | rfl | rfl | rfl | rfl | rfl | rfl | rfl | rfl | rfl | rfl | rfl | rfl | rfl | rfl | rfl | rfl | rfl <;> rfl
  have jz : ∀ a, 48 ≤ a → a ≤ 72 → ∀ j, Jf sc a j = 0 := by
    intro a a1 a2 j
    unfold Jf
    rw [show Nat.beq a ip_SC = false from by
      rcases hq : Nat.beq a ip_SC with _ | _
      · rfl
      · have := Nat.eq_of_beq_eq_true hq
        unfold ip_SC at this
        omega, show Nat.beq a 35 = false from by
      rcases hq : Nat.beq a 35 with _ | _
      · rfl
      · have := Nat.eq_of_beq_eq_true hq
        omega]
    rfl
  refine cm_ctor (Jc := Jf sc) ?_ ?_ (fun a a1 a2 => iz a a1 (by omega)) (fun a a1 a2 => jz a a1 (by omega)) (clr_f h2 h3) (fun X2 I2 g1 g2 g3 g4 g5 g6 => ?_)
  · intro i
    rw [h2 47 (by decide)]
    rfl
  · intro j
    rw [h3 48 (by decide) (by decide)]
    rfl
  · have hr := rl_f h1 h2 h3 g1 g2 g3 g4 g5 g6
    have i72 : ∀ j, I2 72 j = 0 := by
      intro j
      rw [g1.a 72 (by decide) (by decide) (by decide) (by decide) (by decide) (by decide) (by decide) (by decide) (by decide) (by decide)]
      exact iz 72 (by decide) (by decide) j
    show ip_WP 209 15 [some (.ref ip_SC), some (.ref 0), none, none, none, none, none] [.ref 47] (g72, fld X2 0, I2, Jf sc) (ip_rst 19 (1056, 21321)) post px
    rw [rst_m, ← gT72, s209_15, s209_16, s209_17, gl_72, show (1 : Int32).toNatClampNeg = 1 from by decide, gx_72, zeroI i72, zeroI (jz 72 (by decide) (by decide)), gT73]
    refine ⟨by decide, by decide, ?_⟩
    rw [s209_19, s209_20, s209_21]
    have hl := lc_loop (n := n) (p := p) (post := post) (px := px) (by omega) hyes 512 0 X2 I2 (Jf sc) 0 (1031, 7302) none none (by omega) (Nat.zero_le _) hr hS (by decide) (by decide)
    rw [nI_0] at hl
    exact hl
