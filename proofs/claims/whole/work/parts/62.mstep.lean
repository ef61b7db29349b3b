/-! steps of the reading: the state behind a step by its parts -/
theorem x1_5 {s : SS} : X1S s 32 5 = s.1 32 5 := by
  unfold X1S
  simp only [up1, updF_ap, if_true, Nat.reduceEqDiff, if_false]
theorem x1_6 {s : SS} : X1S s 32 6 = s.1 32 6 + 1 := by
  unfold X1S
  simp only [up1, updF_ap, if_true]
theorem x1_7 {s : SS} : X1S s 32 7 = s.1 32 7 := by
  unfold X1S
  simp only [up1, updF_ap, if_true, Nat.reduceEqDiff, if_false]
theorem adv_ne {s : SS} {k : Nat} (h : k ≠ 33) : (advS s).1 k = s.1 k := lxX_ne (X := s.1) h
theorem ce_x1 {s : SS} : CE s.1 (X1S s) := ce_32
theorem nex_eq {s : SS} {X' I' : Nat → Nat → Int32} {J' : Nat → Nat → Int64} {r : Int32} (h : takeS s = (r, X', I', J')) : nexS s = (X', s.2.1, I', J') := by
  unfold nexS
  rw [h]
/-- s2 is the state with the next lexeme in hand -/
abbrev ST (N : Nat) (s s2 : SS) : Prop := (out1 N s2 = out1 N s) ∧ ((s.1 33 2).toNatClampNeg ≤ (s2.1 33 2).toNatClampNeg) ∧ (¬ s2.1 33 3 = 1 → (s.1 33 2).toNatClampNeg + 1 ≤ (s2.1 33 2).toNatClampNeg)
theorem ST.out {N : Nat} {s s2 : SS} (h : ST N s s2) : out1 N s2 = out1 N s := h.1
theorem ST.pos {N : Nat} {s s2 : SS} (h : ST N s s2) : (s.1 33 2).toNatClampNeg ≤ (s2.1 33 2).toNatClampNeg := h.2.1
theorem ST.grow {N : Nat} {s s2 : SS} (h : ST N s s2) : ¬ s2.1 33 3 = 1 → (s.1 33 2).toNatClampNeg + 1 ≤ (s2.1 33 2).toNatClampNeg := h.2.2
section
variable {N : Nat} {s : SS} {X X' : Nat → Nat → Int32} {y : Int64} {I I' : Nat → Nat → Int32} {J : Nat → Nat → Int64} {b : ip_B} {post : Option Value → ip_H → Prop} {px : String → ip_H → Prop}
theorem LR.st (h : LR N s X I) (ht : (takeS s).1 = 0) (h' : LR N (advS (nexS s)) X' I') : ST N s (advS (nexS s)) := by
  refine ⟨by rw [out1_go ht, outS_eq h.b.rv.nex], ?_, fun hk => h.grow h' hk⟩
  have hl := lexS_le h.b.rv.nex
  have hN := h.b.rv.l
  have e2 : (advS (nexS s)).1 33 2 = nI (lexS (nexS s)).next := lxX_2 (X := (nexS s).1)
  have ho : Ok s.1 s.2.2.1 s.2.2.2 (takeS s) := ok_take
  have en : (nexS s).1 33 2 = s.1 33 2 := by
    show (takeS s).2.1 33 2 = s.1 33 2
    rw [ho.x 33 (by decide) (by decide) (by decide) (by decide) (by decide) (by decide)]
  rw [en] at hl
  rw [e2, nI_clamp (by omega)]
  omega
/-- a comma, or the statement's end -/
theorem st_comma (h : LR N s X I) {e : Int32} (hp : takeS s = rComma (X1S s) s.2.2.1 s.2.2.2 e)
    (hno : takeS s = rClose (X1S s) s.2.2.1 s.2.2.2 → post (some (.int 0)) (g0, fld X y, I, J))
    (hft : ∀ X', MF X X' → FT (out1 N s) X' → post (some (.int 0)) (g0, fld X' y, I, J))
    (hgo : ∀ X' s2, MF X X' → LR N s2 X' I → ST N s s2 → s.1 33 3 = 44 → CE s.1 s2.1 → s2.2.2 = s.2.2 → s2.1 32 5 = s.1 32 5 → s2.1 32 6 = e → s2.1 32 7 = s.1 32 7 → post (some (.int 1)) (g0, fld X' y, I, J)) : ip_WP 35 0 [some (.ref 47)] [] (g0, fld X y, I, J) b post px := by
  have e33 : X1S s 33 3 = s.1 33 3 := by rw [x1_ne (by decide)]
  have ht : s.1 33 3 = 44 → takeS s = (0, ip_up (X1S s) 32 6 e, s.2.2.1, s.2.2.2) := fun q => by
    rw [hp]
    unfold rComma
    rw [if_pos (e33.trans q)]
  refine md_comma h (fun q => by rw [ht q]) (fun q => hno ?_) (fun q X' mf hF => hft X' mf hF) (fun q X' mf hL => ?_)
  · rw [hp]
    unfold rComma
    rw [if_neg (fun z => q (e33.symm.trans z))]
  · have hn := nex_eq (ht q)
    refine hgo X' (advS (nexS s)) mf hL (h.st (by rw [ht q]) hL) q ?_ ?_ ?_ ?_ ?_
    · refine CE.trans ?_ (ce_adv _)
      rw [hn]
      exact CE.trans ce_x1 ce_32
    · show (nexS s).2.2 = s.2.2
      rw [hn]
    · rw [adv_ne (by decide), hn]
      show ip_up (X1S s) 32 6 e 32 5 = _
      simp only [up1, updF_ap, if_true, Nat.reduceEqDiff, if_false]
      exact x1_5
    · rw [adv_ne (by decide), hn]
      show ip_up (X1S s) 32 6 e 32 6 = _
      simp only [up1, updF_ap, if_true]
    · rw [adv_ne (by decide), hn]
      show ip_up (X1S s) 32 6 e 32 7 = _
      simp only [up1, updF_ap, if_true, Nat.reduceEqDiff, if_false]
      exact x1_7
/-- a sign -/
theorem st_sign (h : LR N s X I) {c : Int32} (hc : isSg c) (h5 : ¬ s.1 32 5 = -1) (hp : takeS s = rSign (X1S s) s.2.2.1 s.2.2.2 c)
    (hft : ∀ X', MF X X' → FT (out1 N s) X' → post none (g0, fld X' y, I, J))
    (hgo : ∀ X' s2, MF X X' → LR N s2 X' I → ST N s s2 → CE s.1 s2.1 → s2.2.2 = s.2.2 → s2.1 32 5 = s.1 32 5 → s2.1 32 6 = s.1 32 6 + 1 → s2.1 32 7 = s.1 32 7 → post none (g0, fld X' y, I, J)) : ip_WP 34 0 [some (.ref 47), some (.int c)] [] (g0, fld X y, I, J) b post px := by
  have e33 : X1S s 33 3 = s.1 33 3 := by rw [x1_ne (by decide)]
  have ht : takeS s = (if s.1 33 3 = c then 0 else 2, X1S s, s.2.2.1, s.2.2.2) := by
    rw [hp]
    unfold rSign
    rw [e33]
    split <;> rfl
  have hn := nex_eq ht
  refine md_sign h hc h5 (by rw [ht]) (fun X' mf hr => ?_)
  rcases hr with hr | ⟨ht0, hL⟩
  · exact hft X' mf hr
  · refine hgo X' (advS (nexS s)) mf hL (h.st ht0 hL) ?_ ?_ ?_ ?_ ?_
    · refine CE.trans ?_ (ce_adv _)
      rw [hn]
      exact ce_x1
    · show (nexS s).2.2 = s.2.2
      rw [hn]
    · rw [adv_ne (by decide), hn]; exact x1_5
    · rw [adv_ne (by decide), hn]; exact x1_6
    · rw [adv_ne (by decide), hn]; exact x1_7
/-- a new name of sort t -/
theorem st_new (h : LR N s X I) (hm : MN s.1 s.2.2.2 X I) (h5 : ¬ s.1 32 5 = -1) {t : Nat} (ht : t < 4) (hst : takeS s = rNew (X1S s) s.2.1 s.2.2.1 s.2.2.2 (6 + 2 * t) (moI t))
    (hft : ∀ X' I' c, MFN X X' I I' → c < 12 → FT (out1 N s) X' → post (some (.int (nI c))) (g0, fld X' y, I', J))
    (hgo : ∀ X' I' s2, MFN X X' I I' → LR N s2 X' I' → ST N s s2 → MN s2.1 s2.2.2.2 X' I' → cnt s.1 t < moN t → (∀ u, u < 4 → cnt s2.1 u = if u = t then cnt s.1 t + 1 else cnt s.1 u) → s2.2.2.1 = s.2.2.1 → s2.1 5 13 = s.1 5 13 → s2.1 5 14 = s.1 5 14 → s2.1 32 5 = s.1 32 5 → s2.1 32 6 = s.1 32 6 + 1 → s2.1 32 7 = nI (cnt s.1 t) → post (some (.int (nI (cnt s.1 t)))) (g0, fld X' y, I', J)) : ip_WP 40 0 [some (.ref 47), some (.int (nI t))] [] (g0, fld X y, I, J) b post px := by
  have hmo := moN_le t
  refine md_new h hm h5 ht hst (fun X' I' r mfn hr hF => ?_) (fun X' I' mfn ht0 hL hMN hlt hcnt hkd => ?_)
  · rcases hr with hr | ⟨hr, hlt⟩
    · have := hft X' I' 0 mfn (by decide) hF
      rw [nI_0] at this
      rw [hr]
      exact this
    · rw [hr]
      exact hft X' I' _ mfn (by omega) hF
  · have hx : takeS s = (0, ip_up (ip_up (X1S s) (6 + 2 * t) 1 (X1S s (6 + 2 * t) 1 + 1)) 32 7 (X1S s (6 + 2 * t) 1), s.2.2.1, ip_up s.2.2.2 (6 + 2 * t + 1) ((X1S s (6 + 2 * t) 1).toNatClampNeg) s.2.1) := by
      have t0 := ht0
      rw [hst] at t0 ⊢
      unfold rNew at t0 ⊢
      split at t0
      · split at t0
        · exact absurd (show (3 : Int32) = 0 from t0) (by decide)
        · split at t0
          · exact absurd (show (4 : Int32) = 0 from t0) (by decide)
          · rename_i g1 g2 g3
            rw [if_pos g1, if_neg g2, if_neg g3]
      · exact absurd (show (2 : Int32) = 0 from t0) (by decide)
    have hn := nex_eq hx
    refine hgo X' I' (advS (nexS s)) mfn hL (h.st ht0 hL) (hMN.xc (ce_adv _)) hlt (fun u hu => by rw [(ce_adv (nexS s)).n hu]; exact hcnt u hu) ?_ ?_ ?_ ?_ ?_ ?_
    · show (nexS s).2.2.1 = _
      rw [hn]
    · rw [adv_ne (by decide), hn]
      show ip_up (ip_up (X1S s) (6 + 2 * t) 1 (X1S s (6 + 2 * t) 1 + 1)) 32 7 (X1S s (6 + 2 * t) 1) 5 13 = _
      rw [up1, if_neg (by decide), up1, if_neg (by omega), x1_ne (by decide)]
    · rw [adv_ne (by decide), hn]
      show ip_up (ip_up (X1S s) (6 + 2 * t) 1 (X1S s (6 + 2 * t) 1 + 1)) 32 7 (X1S s (6 + 2 * t) 1) 5 14 = _
      rw [up1, if_neg (by decide), up1, if_neg (by omega), x1_ne (by decide)]
    · rw [adv_ne (by decide), hn]
      show ip_up (ip_up (X1S s) (6 + 2 * t) 1 (X1S s (6 + 2 * t) 1 + 1)) 32 7 (X1S s (6 + 2 * t) 1) 32 5 = _
      rw [up1, if_pos rfl, updF_ap, if_neg (by decide), up1, if_neg (by omega)]
      exact x1_5
    · rw [adv_ne (by decide), hn]
      show ip_up (ip_up (X1S s) (6 + 2 * t) 1 (X1S s (6 + 2 * t) 1 + 1)) 32 7 (X1S s (6 + 2 * t) 1) 32 6 = _
      rw [up1, if_pos rfl, updF_ap, if_neg (by decide), up1, if_neg (by omega)]
      exact x1_6
    · rw [adv_ne (by decide), hn]
      show ip_up (ip_up (X1S s) (6 + 2 * t) 1 (X1S s (6 + 2 * t) 1 + 1)) 32 7 (X1S s (6 + 2 * t) 1) 32 7 = _
      rw [up1, if_pos rfl, updF_ap, if_pos rfl, x1_ne (by omega)]
      exact (hm.bd.c t ht).2.2
/-- take(again): the fault 7, or the step done -/
theorem st_take (h : LR N s X I) (h5 : ¬ s.1 32 5 = -1) {v : Prop} [Decidable v] {X'' I'' : Nat → Nat → Int32} {J'' : Nat → Nat → Int64} (h7 : v → (takeS s).1 = 7) (h0 : ¬ v → takeS s = (0, X'', I'', J''))
    (hft : ∀ X' (r : Bool), MF X X' → FT (out1 N s) X' → post (some (.int (bI (r = true)))) (g0, fld X' y, I, J))
    (hgo : ∀ X' s2, ¬ v → MF X X' → LR N s2 X' I → ST N s s2 → (∀ k, k ≠ 33 → s2.1 k = X'' k) → s2.2.2 = (I'', J'') → post (some (.int 1)) (g0, fld X' y, I, J)) : ip_WP 42 0 [some (.ref 47), some (.int (bI v))] [] (g0, fld X y, I, J) b post px := by
  refine md_take h h5 ?_ (fun X' r mf h1 h2 hr => ?_)
  · by_cases q : v
    · rw [if_pos q]; exact h7 q
    · rw [if_neg q, h0 q]
  · rcases hr with hr | ⟨ht, hL⟩
    · by_cases q : v
      · rw [h1 q]; exact hft X' false mf hr
      · rw [h2 q]; exact hft X' true mf hr
    · have q : ¬ v := fun q => by
        rw [h7 q] at ht
        exact absurd ht (by decide)
      have hn := nex_eq (h0 q)
      rw [h2 q]
      refine hgo X' (advS (nexS s)) q mf hL (h.st ht hL) (fun k hk => ?_) ?_
      · rw [adv_ne hk, hn]
      · show (nexS s).2.2 = _
        rw [hn]
end
