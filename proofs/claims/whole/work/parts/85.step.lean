/-! steps that change the state: reading and printing -/
theorem coI_ne {I : Nat → Nat → Int32} {a : Nat} (h : a < 15 ∨ 31 < a) : coI I a = I a := by
  funext j
  unfold coI rclr
  rw [if_neg (by omega), if_neg (by omega), if_neg (by omega), if_neg (by omega), if_neg (by omega), if_neg (by omega), if_neg (by omega), if_neg (by omega), if_neg (by omega)]
/-- what the reading leaves alone -/
abbrev FO (s t : SS) : Prop := (∀ k, k ≠ 5 → k ≠ 6 → k ≠ 8 → k ≠ 10 → k ≠ 12 → k ≠ 32 → k ≠ 33 → t.1 k = s.1 k) ∧ (∀ a, (a < 15 ∨ 31 < a) → t.2.2.1 a = s.2.2.1 a) ∧ (∀ a, a ≠ 7 → a ≠ 9 → a ≠ 11 → a ≠ 13 → t.2.2.2 a = s.2.2.2 a)
theorem FO.x {s t : SS} (h : FO s t) : ∀ k, k ≠ 5 → k ≠ 6 → k ≠ 8 → k ≠ 10 → k ≠ 12 → k ≠ 32 → k ≠ 33 → t.1 k = s.1 k := h.1
theorem FO.i {s t : SS} (h : FO s t) : ∀ a, (a < 15 ∨ 31 < a) → t.2.2.1 a = s.2.2.1 a := h.2.1
theorem FO.j {s t : SS} (h : FO s t) : ∀ a, a ≠ 7 → a ≠ 9 → a ≠ 11 → a ≠ 13 → t.2.2.2 a = s.2.2.2 a := h.2.2
theorem FO.adv {s : SS} : FO s (advS s) := ⟨fun k _ _ _ _ _ _ h => lxX_ne (X := s.1) h, fun _ _ => rfl, fun _ _ _ _ _ => rfl⟩
theorem FO.nex {s : SS} : FO s (nexS s) := by
  have ho : Ok s.1 s.2.2.1 s.2.2.2 (takeS s) := ok_take
  exact ⟨fun k h5 h6 h8 h10 h12 h32 _ => ho.x k h32 h5 h6 h8 h10 h12, ho.i, ho.j⟩
theorem FO.tr {s t u : SS} (h1 : FO s t) (h2 : FO t u) : FO s u := ⟨fun k a b c d e f g => by rw [h2.x k a b c d e f g, h1.x k a b c d e f g], fun a h => by rw [h2.i a h, h1.i a h], fun a p q r w => by rw [h2.j a p q r w, h1.j a p q r w]⟩
theorem FO.fail {s : SS} {r : Int32} : FO s (failS s r) := by
  refine ⟨fun k h5 h6 h8 h10 h12 h32 _ => ?_, fun a h => coI_ne h, fun _ _ _ _ _ => rfl⟩
  show coX (ip_up (ip_up s.1 32 3 r) 32 4 (s.1 33 4)) k = s.1 k
  rw [coX_ne h5 h6 h8 h10 h12, up1, if_neg h32, up1, if_neg h32]
theorem rn_fo : ∀ (m : Nat) (s : SS), FO s (rn m s) := by
  intro m
  induction m with
  | zero => intro s; exact ⟨fun _ _ _ _ _ _ _ _ => rfl, fun _ _ => rfl, fun _ _ _ _ _ => rfl⟩
  | succ m ih =>
    intro s
    show FO s (rn1 (rn m) (advS s))
    unfold rn1
    split
    · exact FO.adv
    · split
      · exact (FO.adv.tr FO.nex).tr (ih _)
      · exact (FO.adv.tr FO.nex).tr FO.fail
theorem out_fo {N : Nat} {X I : Nat → Nat → Int32} {J : Nat → Nat → Int64} : FO (X, 0, I, J) (outS N (beg X I J)) := by
  have h : FO (X, 0, I, J) (beg X I J) := by
    refine ⟨fun k h5 h6 h8 h10 h12 h32 h33 => ?_, fun a h => coI_ne h, fun _ _ _ _ _ => rfl⟩
    show rbX (coX X) k = X k
    rw [rbX_ne h32 h33, coX_ne h5 h6 h8 h10 h12]
  exact h.tr (rn_fo _ _)
theorem errs_len {X I : Nat → Nat → Int32} (hb : Bd X) : (errs X I).length ≤ 52 := by
  have hn := cn_le (n := 12) hb.a6 hb.b6 (by decide)
  have h1 : (er1 I).length ≤ 4 := by
    unfold er1
    rw [List.length_map]
    exact List.length_filter_le _ _
  have h2 := erK_len (errP X I 2) 2 ((X 6 1).toNatClampNeg)
  have h3 := erK_len (errP X I 3) 3 ((X 6 1).toNatClampNeg)
  have h4 := erK_len (errP X I 4) 4 ((X 6 1).toNatClampNeg)
  have h5 := erK_len (errP X I 5) 5 ((X 6 1).toNatClampNeg)
  unfold errs
  simp only [List.length_append]
  omega
theorem rems_len {X I : Nat → Nat → Int32} (hb : Bd X) : (rems X I).length ≤ 68 := by
  have n1 := cn_le (n := 8) hb.a10 hb.b10 (by decide)
  have n2 := cn_le (n := 24) hb.ap hb.bp (by decide)
  have n3 := cn_le (n := 12) hb.a8 hb.b8 (by decide)
  have h1 := erK_len (fun i => decide (I 29 i = -1)) 1 ((X 10 1).toNatClampNeg)
  have h2 := erK_len (fun i => !resA X I (I 23 i)) 2 ((X 5 13).toNatClampNeg)
  have h3 := erK_len (fun i => idle X I (nI i)) 3 ((X 8 1).toNatClampNeg)
  have h4 := erK_len (fun i => decide (I 23 i < I 25 i)) 4 ((X 5 13).toNatClampNeg)
  unfold rems
  simp only [List.length_append]
  omega
section
variable {X X' X2 : Nat → Nat → Int32} {y y' : Int64} {I I' I2 : Nat → Nat → Int32} {J J' : Nat → Nat → Int64} {b : ip_B} {post : Option Value → ip_H → Prop} {px : String → ip_H → Prop}
/-- where both readings end -/
def oRead (X I : Nat → Nat → Int32) (J : Nat → Nat → Int64) : SS := outS (X 1 1).toNatClampNeg (beg X I J)
theorem kx_read (h : RL X I J) (hk : ∀ X' y' I', RC (oRead X I J) X' I' → if (oRead X I J).1 32 3 = 0 then post (some (.int ((oRead X I J).1 5 14))) (g0, fld X' y' , I', (oRead X I J).2.2.2) else px "java/lang/IllegalArgumentException" (g0, fld X' y', I', (oRead X I J).2.2.2)) : ip_WP 3 0 [some (.ref 0)] [] (g0, fld X y, I, J) (1, 6) post px :=
  pk_read h.mn.bd (cn_le (n := 4160) h.mn.bd.a1 h.mn.bd.b1 (by decide)) (cn_eq h.mn.bd.a1) (fun X' I' hRC => hk X' _ I' hRC)
theorem rd_rl (h : RL X I J) (hc : RC (oRead X I J) X' I') (hJ : ∀ a, a < 48 → J' a = (oRead X I J).2.2.2 a) {r : Int32} (hr : RR (oRead X I J) X' I' X2 I2 r) : RL X2 I2 J' := by
  have b := h.mn.bd
  have hbd : Bd (oRead X I J).1 := rn_bd _ _ (Rv.beg I J b (cn_le (n := 4160) b.a1 b.b1 (by decide)) (cn_eq b.a1))
  have fo : FO (X, 0, I, J) (oRead X I J) := out_fo
  generalize oRead X I J = O at hc hJ hr hbd fo
  have xx : ∀ k, k ≠ 1 → k ≠ 37 → k ≠ 42 → k ≠ 47 → X2 k = O.1 k := fun k h1 h2 h3 h4 => by rw [hr.c k h4, hc.c k h1 h2 h3]
  have x3 : X2 3 = X 3 := by rw [xx 3 (by decide) (by decide) (by decide) (by decide)]; exact fo.x 3 (by decide) (by decide) (by decide) (by decide) (by decide) (by decide) (by decide)
  have x47 : X' 47 = X 47 := by rw [hc.c 47 (by decide) (by decide) (by decide)]; exact fo.x 47 (by decide) (by decide) (by decide) (by decide) (by decide) (by decide) (by decide)
  have x11 : X2 1 1 = 0 := by rw [hr.c 1 (by decide)]; exact hc.c1
  have ii : ∀ a, (a < 51 ∨ 71 < a) → (a < 15 ∨ 31 < a) → a ≠ 39 → a ≠ 41 → a ≠ 44 → a ≠ 46 → I2 a = I a := fun a h1 h2 h3 h4 h5 h6 => by rw [hr.a a h1, hc.a a h3 h4 h5 h6]; exact fo.i a h2
  have io : ∀ a, 15 ≤ a → a ≤ 31 → I2 a = O.2.2.1 a := fun a h1 h2 => by rw [hr.a a (by omega), hc.a a (by omega) (by omega) (by omega) (by omega)]
  have c : ∀ u, u < 4 → X2 (6 + 2 * u) = O.1 (6 + 2 * u) := fun u hu => xx _ (by omega) (by omega) (by omega) (by omega)
  have e5 := xx 5 (by decide) (by decide) (by decide) (by decide)
  have e6 := c 0 (by decide)
  have e8 := c 1 (by decide)
  have e10 := c 2 (by decide)
  have e12 := c 3 (by decide)
  simp only [Nat.reduceMul, Nat.reduceAdd] at e6 e8 e10 e12
  have hb2 : Bd X2 := by
    refine ⟨?_, ?_, ?_, ?_, ?_, ?_, ?_, ?_, ?_, ?_, ?_, ?_, ?_, ?_⟩
    · rw [x11]; decide
    · rw [x11]; decide
    · rw [x3]; exact b.a3
    · rw [x3]; exact b.b3
    · rw [e6]; exact hbd.a6
    · rw [e6]; exact hbd.b6
    · rw [e8]; exact hbd.a8
    · rw [e8]; exact hbd.b8
    · rw [e10]; exact hbd.a10
    · rw [e10]; exact hbd.b10
    · rw [e12]; exact hbd.a12
    · rw [e12]; exact hbd.b12
    · rw [e5]; exact hbd.ap
    · rw [e5]; exact hbd.bp
  have ec : ∀ u, u < 4 → cnt X2 u = cnt O.1 u := fun u hu => by unfold cnt; rw [c u hu]
  refine ⟨?_, ?_, ?_, ?_, ?_, ?_, ?_, ?_, ?_, ?_, ?_, ?_, ?_, ?_⟩
  · exact (hr.mn.xg hb2 c).jx (fun s hs => hJ _ (by omega))
  · show MV X2 I2 X2 I2 (cnt X2 0) (cnt X2 2) (cnt X2 3)
    rw [ec 0 (by decide), ec 2 (by decide), ec 3 (by decide)]
    exact (hr.mv.of (Xc' := X2) (X' := X2) (I' := I2) rfl (fun _ _ => rfl) (by rw [ec 0 (by decide)]; exact Nat.le_refl _) (by rw [ec 1 (by decide)]; exact Nat.le_refl _) (by rw [e5])).ic io
  · intro j hj
    rw [ii 48 (by decide) (by decide) (by decide) (by decide) (by decide) (by decide)]
    exact h.wc j hj
  · rw [hJ 35 (by decide), fo.j 35 (by decide) (by decide) (by decide) (by decide)]
    exact h.wk
  · rw [hr.x2, x11]
  · intro j hj
    rw [x11] at hj
    exact absurd hj (Nat.not_lt_zero j)
  · rw [hr.x4, x47, x3]; exact h.ps
  · rw [x3, ii 50 (by decide) (by decide) (by decide) (by decide) (by decide) (by decide), ii 4 (by decide) (by decide) (by decide) (by decide) (by decide) (by decide)]
    exact h.px
  · rw [x3, ii 4 (by decide) (by decide) (by decide) (by decide) (by decide) (by decide)]
    exact h.pf
  · refine ⟨_, errs_len hbd, ⟨?_, ?_⟩, hr.er⟩
    · rw [hr.c 37 (by decide)]; exact hc.e.s
    · rw [hr.a 39 (by decide), hr.a 41 (by decide)]; exact hc.e.g
  · refine ⟨_, rems_len hbd, ⟨?_, ?_⟩, hr.re⟩
    · rw [hr.c 42 (by decide)]; exact hc.r.s
    · rw [hr.a 44 (by decide), hr.a 46 (by decide)]; exact hc.r.g
  · rw [hr.f6, xx 32 (by decide) (by decide) (by decide) (by decide)]
  · rw [hr.f7, xx 32 (by decide) (by decide) (by decide) (by decide)]
  · rw [hr.n9, e5]
theorem g_read (h : RL X I J) (hc : RC (oRead X I J) X' I') (hk : ∀ X2 I2 r, RR (oRead X I J) X' I' X2 I2 r → post (some (.int r)) (g0, fld X2 y, I2, J')) : ip_WP 54 0 [some (.ref 47), none] [] (g0, fld X' y, I', J') b post px := by
  have b := h.mn.bd
  have fo : FO (X, 0, I, J) (oRead X I J) := out_fo
  have x47 : X' 47 = X 47 := by rw [hc.c 47 (by decide) (by decide) (by decide)]; exact fo.x 47 (by decide) (by decide) (by decide) (by decide) (by decide) (by decide) (by decide)
  have ii : ∀ a, (a < 15 ∨ 31 < a) → a ≠ 39 → a ≠ 41 → a ≠ 44 → a ≠ 46 → I' a = I a := fun a h2 h3 h4 h5 h6 => by rw [hc.a a h3 h4 h5 h6]; exact fo.i a h2
  refine md_read b (cn_le (n := 4160) b.a1 b.b1 (by decide)) (cn_eq b.a1) ?_ ?_ ?_ h.wk hk
  · rw [x47, h.ts]; exact cn_eq b.a1
  · rw [ii 49 (by decide) (by decide) (by decide) (by decide) (by decide)]
    exact h.tx
  · intro j hj
    rw [ii 48 (by decide) (by decide) (by decide) (by decide) (by decide)]
    exact h.wc j hj
/-- behind the class's print -/
abbrev PR (X I : Nat → Nat → Int32) (J : Nat → Nat → Int64) (X' I' : Nat → Nat → Int32) : Prop := (X' 3 1 = nI (prnB X I J).length) ∧ (∀ i v, (prnB X I J)[i]? = some v → I' 4 i = v.toInt8.toInt32) ∧ (∀ c, c ≠ 3 → X' c = X c) ∧ (∀ a, a ≠ 4 → I' a = I a)
theorem PR.n {X I : Nat → Nat → Int32} {J : Nat → Nat → Int64} {X' I' : Nat → Nat → Int32} (h : PR X I J X' I') : X' 3 1 = nI (prnB X I J).length := h.1
theorem PR.bt {X I : Nat → Nat → Int32} {J : Nat → Nat → Int64} {X' I' : Nat → Nat → Int32} (h : PR X I J X' I') : ∀ i v, (prnB X I J)[i]? = some v → I' 4 i = v.toInt8.toInt32 := h.2.1
theorem PR.c {X I : Nat → Nat → Int32} {J : Nat → Nat → Int64} {X' I' : Nat → Nat → Int32} (h : PR X I J X' I') : ∀ c, c ≠ 3 → X' c = X c := h.2.2.1
theorem PR.a {X I : Nat → Nat → Int32} {J : Nat → Nat → Int64} {X' I' : Nat → Nat → Int32} (h : PR X I J X' I') : ∀ a, a ≠ 4 → I' a = I a := h.2.2.2
theorem kx_print (h : RL X I J) (hk : ∀ X' I', PR X I J X' I' → post (some (.int (nI (prnB X I J).length))) (g0, fld X' y, I', J)) : ip_WP 13 0 [some (.ref 0)] [] (g0, fld X y, I, J) b post px := by
  refine pk_print h.mn.bd (prn_len h.mn.bd) ?_
  rintro _ ⟨X', I', rfl, h1, h2, h3, h4⟩
  exact hk X' I' ⟨h1, h2, h3, h4⟩
theorem g_print (h : RL X I J) (hp : PR X I J X' I') (hk : ∀ X2 I2, RL X2 I2 J → post (some (.int (nI (prnB X I J).length))) (g0, fld X2 y, I2, J)) : ip_WP 83 0 [some (.ref 47), none] [] (g0, fld X' y, I', J) b post px := by
  have b := h.mn.bd
  have hlen := prn_len (I := I) (J := J) b
  have hm : MN X J X' I' := h.mn.fr (by rw [hp.c 47 (by decide)]) (fun a h1 h2 => hp.a a (by omega))
  have hv : MVf X I X' I' := h.mv.of (by rw [hp.c 47 (by decide)]) (fun a ha => hp.a a (by omega)) (Nat.le_refl _) (Nat.le_refl _) rfl
  have hw : WC I' := fun j hj => by rw [hp.a 48 (by decide)]; exact h.wc j hj
  have hs := prn_sm h.mn h.mv
  refine md_print hm hv hw hlen ?_
  rintro _ ⟨X2, I2, rfl, h1, h2, h3, h4, h5⟩
  refine hk X2 I2 ?_
  have x3 : X2 3 1 = nI (prnB X I J).length := by rw [h3 3 (by decide), up1, if_neg (by decide)]; exact hp.n
  have xc : ∀ c, c ≠ 3 → c ≠ 47 → X2 c = X c := fun c a1 a2 => by rw [h3 c a2, up1, if_neg a2]; exact hp.c c a1
  have x47 : ∀ j, j ≠ 1 → j ≠ 4 → X2 47 j = X 47 j := fun j a1 a2 => by rw [h4 j a2, up47, if_neg a1, hp.c 47 (by decide)]
  have ia : ∀ a, a ≠ 4 → a ≠ 50 → I2 a = I a := fun a a1 a2 => by rw [h5 a a2]; exact hp.a a a1
  have i4 : I2 4 = I' 4 := h5 4 (by decide)
  have ncl : (X2 3 1).toNatClampNeg = (prnB X I J).length := by rw [x3, nI_clamp (by omega)]
  have at' : ∀ j, j < (prnB X I J).length → I2 50 j = I2 4 j &&& 255 ∧ fits .byte (.int (I2 4 j)) = true := by
    intro j hj
    have e := List.getElem?_eq_getElem hj
    obtain ⟨k, hk2, ev⟩ := hs _ (List.getElem_mem hj)
    have sb := sm_byte k hk2
    have e4 : I2 4 j = (nI k).toInt8.toInt32 := by rw [i4, hp.bt j _ e, ev]
    have e50 : I2 50 j = nI k := by rw [h2 j _ e, ev]
    rw [e50, e4]
    exact ⟨sb.1.symm, sb.2⟩
  refine h.of (fun c _ a3 a47 => xc c a3 a47) (fun j a1 _ a4 => x47 j a1 a4) (fun a _ a4 _ a50 => ia a a4 a50) (fun _ _ => rfl) ?_ ?_ ?_ ?_ ?_ ?_ ?_ ?_ ?_
  · rw [xc 1 (by decide) (by decide)]; exact b.a1
  · rw [xc 1 (by decide) (by decide)]; exact b.b1
  · rw [x3]; exact nI_pos' (by omega)
  · rw [x3]; exact nI_le (b := 4160) hlen (by decide)
  · rw [x47 2 (by decide) (by decide), xc 1 (by decide) (by decide)]; exact h.ts
  · rw [xc 1 (by decide) (by decide), ia 49 (by decide) (by decide)]
    intro j hj
    unfold txt
    rw [ia 2 (by decide) (by decide)]
    exact h.tx j hj
  · rw [h1, x3]
  · rw [ncl]; exact fun j hj => (at' j hj).1
  · rw [ncl]; exact fun j hj => (at' j hj).2
end
