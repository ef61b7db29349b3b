/-! one relation of the heap: the class's part and the model's say the same -/
abbrev RL (X : Nat → Nat → Int32) (I : Nat → Nat → Int32) (J : Nat → Nat → Int64) : Prop := (MN X J X I) ∧ (MVf X I X I) ∧ (WC I) ∧ (WK (J 35)) ∧ (X 47 2 = X 1 1) ∧ (∀ j, j < (X 1 1).toNatClampNeg → I 49 j = txt I j) ∧ (X 47 4 = X 3 1) ∧ (∀ j, j < (X 3 1).toNatClampNeg → I 50 j = I 4 j &&& 255) ∧ (∀ j, j < (X 3 1).toNatClampNeg → fits .byte (.int (I 4 j)) = true) ∧ (∃ l : FD, l.length ≤ 52 ∧ FL X I 37 2 39 41 l ∧ FL X I 47 29 68 69 l) ∧ (∃ l : FD, l.length ≤ 68 ∧ FL X I 42 2 44 46 l ∧ FL X I 47 30 70 71 l) ∧ (X 47 6 = X 32 3) ∧ (X 47 7 = X 32 4) ∧ (X 47 9 = X 5 14)
theorem RL.mn {X : Nat → Nat → Int32} {I : Nat → Nat → Int32} {J : Nat → Nat → Int64} (h : RL X I J) : MN X J X I := h.1
theorem RL.mv {X : Nat → Nat → Int32} {I : Nat → Nat → Int32} {J : Nat → Nat → Int64} (h : RL X I J) : MVf X I X I := h.2.1
theorem RL.wc {X : Nat → Nat → Int32} {I : Nat → Nat → Int32} {J : Nat → Nat → Int64} (h : RL X I J) : WC I := h.2.2.1
theorem RL.wk {X : Nat → Nat → Int32} {I : Nat → Nat → Int32} {J : Nat → Nat → Int64} (h : RL X I J) : WK (J 35) := h.2.2.2.1
theorem RL.ts {X : Nat → Nat → Int32} {I : Nat → Nat → Int32} {J : Nat → Nat → Int64} (h : RL X I J) : X 47 2 = X 1 1 := h.2.2.2.2.1
theorem RL.tx {X : Nat → Nat → Int32} {I : Nat → Nat → Int32} {J : Nat → Nat → Int64} (h : RL X I J) : ∀ j, j < (X 1 1).toNatClampNeg → I 49 j = txt I j := h.2.2.2.2.2.1
theorem RL.ps {X : Nat → Nat → Int32} {I : Nat → Nat → Int32} {J : Nat → Nat → Int64} (h : RL X I J) : X 47 4 = X 3 1 := h.2.2.2.2.2.2.1
theorem RL.px {X : Nat → Nat → Int32} {I : Nat → Nat → Int32} {J : Nat → Nat → Int64} (h : RL X I J) : ∀ j, j < (X 3 1).toNatClampNeg → I 50 j = I 4 j &&& 255 := h.2.2.2.2.2.2.2.1
theorem RL.pf {X : Nat → Nat → Int32} {I : Nat → Nat → Int32} {J : Nat → Nat → Int64} (h : RL X I J) : ∀ j, j < (X 3 1).toNatClampNeg → fits .byte (.int (I 4 j)) = true := h.2.2.2.2.2.2.2.2.1
theorem RL.er {X : Nat → Nat → Int32} {I : Nat → Nat → Int32} {J : Nat → Nat → Int64} (h : RL X I J) : ∃ l : FD, l.length ≤ 52 ∧ FL X I 37 2 39 41 l ∧ FL X I 47 29 68 69 l := h.2.2.2.2.2.2.2.2.2.1
theorem RL.re {X : Nat → Nat → Int32} {I : Nat → Nat → Int32} {J : Nat → Nat → Int64} (h : RL X I J) : ∃ l : FD, l.length ≤ 68 ∧ FL X I 42 2 44 46 l ∧ FL X I 47 30 70 71 l := h.2.2.2.2.2.2.2.2.2.2.1
theorem RL.f6 {X : Nat → Nat → Int32} {I : Nat → Nat → Int32} {J : Nat → Nat → Int64} (h : RL X I J) : X 47 6 = X 32 3 := h.2.2.2.2.2.2.2.2.2.2.2.1
theorem RL.f7 {X : Nat → Nat → Int32} {I : Nat → Nat → Int32} {J : Nat → Nat → Int64} (h : RL X I J) : X 47 7 = X 32 4 := h.2.2.2.2.2.2.2.2.2.2.2.2.1
theorem RL.n9 {X : Nat → Nat → Int32} {I : Nat → Nat → Int32} {J : Nat → Nat → Int64} (h : RL X I J) : X 47 9 = X 5 14 := h.2.2.2.2.2.2.2.2.2.2.2.2.2
section
variable {Xc X X' : Nat → Nat → Int32} {Ic Ic' I I' : Nat → Nat → Int32} {Jc Jc' J J' : Nat → Nat → Int64} {ld qd pd : Nat}
theorem NmAt.jx {n s i p q : Nat} (h : NmAt Xc Jc I n s i p q) (hJ : Jc' (7 + 2 * s) = Jc (7 + 2 * s)) : NmAt Xc Jc' I n s i p q := ⟨h.s4, h.ic, h.so, h.nu, h.fr, h.to, h.pq, h.ql, by rw [hJ]; exact h.nm, h.no⟩
theorem MN.jx (h : MN Xc Jc X I) (hJ : ∀ s, s < 4 → Jc' (7 + 2 * s) = Jc (7 + 2 * s)) : MN Xc Jc' X I := by
  refine ⟨h.bd, h.many, h.tot, ?_, ?_, ?_⟩
  · intro n hn
    obtain ⟨s, i, p, q, hA⟩ := h.fwd n hn
    exact ⟨s, i, p, q, hA.jx (hJ s hA.s4)⟩
  · intro s i hs hi
    obtain ⟨n, p, q, hn, hA⟩ := h.bwd s i hs hi
    exact ⟨n, p, q, hn, hA.jx (hJ s hs)⟩
  · intro s i t j hs ht hi hj e
    rw [hJ s hs, hJ t ht] at e
    exact h.uni s i t j hs ht hi hj e
theorem MV.ic (h : MV Xc Ic X I ld qd pd) (hI : ∀ a, 15 ≤ a → a ≤ 31 → Ic' a = Ic a) : MV Xc Ic' X I ld qd pd := by
  refine ⟨h.pt, ?_, ?_, ?_, ?_, ?_, ?_, ?_, ?_, ?_, ?_, ?_⟩
  · rw [hI 17 (by decide) (by decide)]; exact h.res
  · rw [hI 15 (by decide) (by decide)]; exact h.lat
  · rw [hI 15 (by decide) (by decide)]; exact h.hla
  · rw [hI 19 (by decide) (by decide)]; exact h.stl
  · rw [hI 21 (by decide) (by decide)]; exact h.doe
  · rw [hI 23 (by decide) (by decide), hI 25 (by decide) (by decide)]; exact h.pth
  · rw [hI 27 (by decide) (by decide), hI 29 (by decide) (by decide)]; exact h.que
  · rw [hI 29 (by decide) (by decide)]; exact h.qn
  · rw [hI 31 (by decide) (by decide)]; exact h.prt
  · rw [hI 31 (by decide) (by decide)]; exact h.prx
  · rw [hI 15 (by decide) (by decide)]; exact h.ln
theorem RL.of (h : RL X I J) (hc : ∀ c, c ≠ 1 → c ≠ 3 → c ≠ 47 → X' c = X c) (h47 : ∀ j, j ≠ 1 → j ≠ 2 → j ≠ 4 → X' 47 j = X 47 j) (hI : ∀ a, a ≠ 2 → a ≠ 4 → a ≠ 49 → a ≠ 50 → I' a = I a) (hJ : ∀ a, a < 48 → J' a = J a)
    (a1 : 0 ≤ X' 1 1) (b1 : X' 1 1 ≤ 4160) (a3 : 0 ≤ X' 3 1) (b3 : X' 3 1 ≤ 4160) (ts : X' 47 2 = X' 1 1) (tx : ∀ j, j < (X' 1 1).toNatClampNeg → I' 49 j = txt I' j) (ps : X' 47 4 = X' 3 1) (px : ∀ j, j < (X' 3 1).toNatClampNeg → I' 50 j = I' 4 j &&& 255) (pf : ∀ j, j < (X' 3 1).toNatClampNeg → fits .byte (.int (I' 4 j)) = true) : RL X' I' J' := by
  have b := h.mn.bd
  have e5 := hc 5 (by decide) (by decide) (by decide)
  have c : ∀ u, u < 4 → X' (6 + 2 * u) = X (6 + 2 * u) := fun u hu => hc _ (by omega) (by omega) (by omega)
  have e6 := c 0 (by decide)
  have e8 := c 1 (by decide)
  have e10 := c 2 (by decide)
  have e12 := c 3 (by decide)
  simp only [Nat.reduceMul, Nat.reduceAdd] at e6 e8 e10 e12
  have hb : Bd X' := by
    refine ⟨a1, b1, a3, b3, ?_, ?_, ?_, ?_, ?_, ?_, ?_, ?_, ?_, ?_⟩
    · rw [e6]; exact b.a6
    · rw [e6]; exact b.b6
    · rw [e8]; exact b.a8
    · rw [e8]; exact b.b8
    · rw [e10]; exact b.a10
    · rw [e10]; exact b.b10
    · rw [e12]; exact b.a12
    · rw [e12]; exact b.b12
    · rw [e5]; exact b.ap
    · rw [e5]; exact b.bp
  have ec : ∀ u, u < 4 → cnt X' u = cnt X u := fun u hu => by unfold cnt; rw [c u hu]
  refine ⟨?_, ?_, ?_, ?_, ts, tx, ps, px, pf, ?_, ?_, ?_, ?_, ?_⟩
  · exact ((h.mn.xg hb c).fr (h47 10 (by decide) (by decide) (by decide)) (fun a h1 h2 => hI a (by omega) (by omega) (by omega) (by omega))).jx (fun s hs => hJ _ (by omega))
  · show MV X' I' X' I' (cnt X' 0) (cnt X' 2) (cnt X' 3)
    rw [ec 0 (by decide), ec 2 (by decide), ec 3 (by decide)]
    exact (h.mv.of (X' := X') (I' := I') (h47 23 (by decide) (by decide) (by decide)) (fun a ha => hI a (by omega) (by omega) (by omega) (by omega)) (by rw [ec 0 (by decide)]; exact Nat.le_refl _) (by rw [ec 1 (by decide)]; exact Nat.le_refl _) (by rw [e5])).ic (fun a h1 h2 => hI a (by omega) (by omega) (by omega) (by omega))
  · intro j hj
    rw [hI 48 (by decide) (by decide) (by decide) (by decide)]
    exact h.wc j hj
  · rw [hJ 35 (by decide)]; exact h.wk
  · obtain ⟨l, hl, h1, h2⟩ := h.er
    exact ⟨l, hl, ⟨by rw [hc 37 (by decide) (by decide) (by decide)]; exact h1.s, by rw [hI 39 (by decide) (by decide) (by decide) (by decide), hI 41 (by decide) (by decide) (by decide) (by decide)]; exact h1.g⟩, ⟨by rw [h47 29 (by decide) (by decide) (by decide)]; exact h2.s, by rw [hI 68 (by decide) (by decide) (by decide) (by decide), hI 69 (by decide) (by decide) (by decide) (by decide)]; exact h2.g⟩⟩
  · obtain ⟨l, hl, h1, h2⟩ := h.re
    exact ⟨l, hl, ⟨by rw [hc 42 (by decide) (by decide) (by decide)]; exact h1.s, by rw [hI 44 (by decide) (by decide) (by decide) (by decide), hI 46 (by decide) (by decide) (by decide) (by decide)]; exact h1.g⟩, ⟨by rw [h47 30 (by decide) (by decide) (by decide)]; exact h2.s, by rw [hI 70 (by decide) (by decide) (by decide) (by decide), hI 71 (by decide) (by decide) (by decide) (by decide)]; exact h2.g⟩⟩
  · rw [h47 6 (by decide) (by decide) (by decide), hc 32 (by decide) (by decide) (by decide)]; exact h.f6
  · rw [h47 7 (by decide) (by decide) (by decide), hc 32 (by decide) (by decide) (by decide)]; exact h.f7
  · rw [h47 9 (by decide) (by decide) (by decide), e5]; exact h.n9
/-- only the model's field thrown is another -/
def Thr (t : Int32) (X X' : Nat → Nat → Int32) : Prop := (∀ c, c ≠ 47 → X' c = X c) ∧ (∀ j, j ≠ 1 → X' 47 j = X 47 j) ∧ X' 47 1 = t
theorem thr1 {t : Int32} : Thr t X (ip_up X 47 1 t) := ⟨fun c hc => by rw [up1, if_neg hc], fun j hj => by rw [up47, if_neg hj], by rw [up47, if_pos rfl]⟩
theorem thr2 {t u : Int32} : Thr t X (ip_up (ip_up X 47 1 u) 47 1 t) := ⟨fun c hc => by rw [up1, if_neg hc, up1, if_neg hc], fun j hj => by rw [up47, if_neg hj, up47, if_neg hj], by rw [up47, if_pos rfl]⟩
theorem RL.thr (h : RL X I J) {t : Int32} (ht : Thr t X X') (hJ : ∀ a, a < 48 → J' a = J a) : RL X' I J' := by
  have b := h.mn.bd
  have e1 := ht.1 1 (by decide)
  have e3 := ht.1 3 (by decide)
  refine h.of (fun c _ _ h3 => ht.1 c h3) (fun j h1 _ _ => ht.2.1 j h1) (fun _ _ _ _ _ => rfl) hJ ?_ ?_ ?_ ?_ ?_ ?_ ?_ ?_ ?_
  · rw [e1]; exact b.a1
  · rw [e1]; exact b.b1
  · rw [e3]; exact b.a3
  · rw [e3]; exact b.b3
  · rw [e1, ht.2.1 2 (by decide)]; exact h.ts
  · rw [e1]; exact h.tx
  · rw [e3, ht.2.1 4 (by decide)]; exact h.ps
  · rw [e3]; exact h.px
  · rw [e3]; exact h.pf
theorem RL.out (h : RL X I J) (hJ : ∀ a, a < 48 → J' a = J a) : RL X I J' := h.of (fun _ _ _ _ => rfl) (fun _ _ _ _ => rfl) (fun _ _ _ _ _ => rfl) hJ h.mn.bd.a1 h.mn.bd.b1 h.mn.bd.a3 h.mn.bd.b3 h.ts h.tx h.ps h.px h.pf
end
/-! what is printed are small characters -/
def Sm (l : BL) : Prop := ∀ v ∈ l, ∃ j, j < 128 ∧ v = nI j
theorem Sm.nil : Sm [] := fun v h => by simp at h
theorem Sm.app {a b : BL} (ha : Sm a) (hb : Sm b) : Sm (a ++ b) := fun v h => by
  rcases List.mem_append.mp h with h | h
  · exact ha v h
  · exact hb v h
theorem Sm.ite {c : Prop} [Decidable c] {a b : BL} (ha : c → Sm a) (hb : ¬ c → Sm b) : Sm (if c then a else b) := by
  by_cases q : c
  · rw [if_pos q]; exact ha q
  · rw [if_neg q]; exact hb q
theorem sm_of {l : BL} (h : ∀ v ∈ l, v.toNatClampNeg < 128 ∧ v = nI v.toNatClampNeg) : Sm l := fun v hv => ⟨_, (h v hv).1, (h v hv).2⟩
theorem sm_str0 : ∀ k, k < 38 → ∀ v ∈ str k, v.toNatClampNeg < 128 ∧ v = nI v.toNatClampNeg := by decide +kernel
theorem sm_str {k : Nat} (hk : k < 38) : Sm (str k) := sm_of (sm_str0 k hk)
theorem sm_nb0 : ∀ n, n < 1000 → ∀ v ∈ nbB (nI n), v.toNatClampNeg < 128 ∧ v = nI v.toNatClampNeg := by decide +kernel
theorem sm_nb {v : Int32} (h1 : 0 ≤ v) (h2 : v ≤ 999) : Sm (nbB v) := by
  have := cn_le (n := 999) h1 h2 (by decide)
  rw [cn_eq h1]
  exact sm_of (sm_nb0 _ (by omega))
theorem smF {w : Nat → BL} {n : Nat} (h : ∀ i, i < n → Sm (w i)) : Sm ((List.range n).flatMap w) := fun v hv => by
  obtain ⟨i, hi, hv⟩ := List.mem_flatMap.mp hv
  exact h i (List.mem_range.mp hi) v hv
theorem sm_tk {p : Nat → Bool} {f0 sep : BL} {w : Nat → BL} (h0 : Sm f0) (h1 : Sm sep) : ∀ (m i : Nat) (f : Bool), (∀ k, i ≤ k → k < i + m → Sm (w k)) → Sm (tkB p f0 sep w m i f) := by
  intro m
  induction m with
  | zero => intro i f _; exact Sm.nil
  | succ m ih =>
    intro i f h
    have hi : ∀ f, Sm (tkB p f0 sep w m (i + 1) f) := fun f => ih (i + 1) f (fun k h1 h2 => h k (by omega) (by omega))
    rw [tkB]
    exact Sm.ite (fun _ => (Sm.ite (fun _ => h0) (fun _ => h1)).app ((h i (Nat.le_refl i) (by omega)).app (hi false))) (fun _ => hi f)
theorem sm_byte : ∀ j, j < 128 → (nI j).toInt8.toInt32 &&& 255 = nI j ∧ fits .byte (.int (nI j).toInt8.toInt32) = true := by decide +kernel
section
variable {X : Nat → Nat → Int32} {I : Nat → Nat → Int32} {J : Nat → Nat → Int64} {Xc : Nat → Nat → Int32} {Jc : Nat → Nat → Int64}
theorem kAt_nm (hm : MN Xc Jc X I) {t i c : Nat} (ht : t < 4) (hi : i < cnt Xc t) (ec : c = 6 + 2 * t) : kAt Xc Jc c (nI i) = Jc (7 + 2 * t) i := by
  subst ec
  have hc := hm.bd.c t ht
  have h12 : i < 12 := by have := hc.2.1; split at this <;> omega
  unfold kAt
  have e0 : 0 ≤ nI i := Int32.not_lt.mp (nI_pos (by omega))
  have e1 : nI i < Xc (6 + 2 * t) 1 := by rw [hc.2.2]; exact Int32.not_le.mp (nI_ge hi (by have := hc.2.1; split at this <;> omega))
  rw [if_pos ⟨e0, e1⟩, nI_clamp (by omega), show 6 + 2 * t + 1 = 7 + 2 * t from by omega]
theorem nm_sm (hm : MN Xc Jc X I) {t i c : Nat} (ht : t < 4) (hi : i < cnt Xc t) (ec : c = 6 + 2 * t) : Sm (nmB (kAt Xc Jc c (nI i))) := by
  obtain ⟨n, p, q, hn, hA⟩ := hm.bwd t i ht hi
  rw [kAt_nm hm ht hi ec, hA.nm.chars]
  intro v hv
  exact cod_small (hA.nm.v v hv)
theorem prn_sm (hm : MN X J X I) (hv : MVf X I X I) : Sm (prnB X I J) := by
  have r8 : (X 8 1).toNatClampNeg = cnt X 1 := rfl
  have r6 : (X 6 1).toNatClampNeg = cnt X 0 := rfl
  have r10 : (X 10 1).toNatClampNeg = cnt X 2 := rfl
  have r12 : (X 12 1).toNatClampNeg = cnt X 3 := rfl
  have h12 := hm.c12
  unfold prnB
  rw [r8, r6, r10, r12]
  have n0 : ∀ i, i < cnt X 0 → Sm (nmB (kAt X J 6 (nI i))) := fun i hi => nm_sm hm (t := 0) (by decide) hi rfl
  have n1 : ∀ i, i < cnt X 1 → Sm (nmB (kAt X J 8 (nI i))) := fun i hi => nm_sm hm (t := 1) (by decide) hi rfl
  have n2 : ∀ i, i < cnt X 2 → Sm (nmB (kAt X J 10 (nI i))) := fun i hi => nm_sm hm (t := 2) (by decide) hi rfl
  have n3 : ∀ i, i < cnt X 3 → Sm (nmB (kAt X J 12 (nI i))) := fun i hi => nm_sm hm (t := 3) (by decide) hi rfl
  refine Sm.app (Sm.app (Sm.app (Sm.app (Sm.app (Sm.app ?_ ?_) ?_) ?_) ?_) ?_) ?_
  · unfold clsB
    rw [r6]
    exact smF (fun i hi => (Sm.ite (fun _ => sm_str (by decide)) (fun _ => sm_str (by decide))).app (n0 i hi))
  · unfold clsE
    exact Sm.ite (fun _ => sm_str (by decide)) (fun _ => Sm.nil)
  · refine smF (fun i hi => ?_)
    unfold stgB
    exact (sm_str (by decide)).app ((n1 i hi).app ((sm_tk (sm_str (by decide)) (sm_str (by decide)) 7 0 true (fun k _ hk => sm_str (by omega))).app (sm_str (by decide))))
  · refine smF (fun i hi => ?_)
    unfold trtB
    have hl := (hv.hla i (by omega)).2
    have hlat : Sm (nbB (latO I (nI i))) := by
      unfold latO
      rw [rget_nI (by omega) (by decide)]
      rcases hl with q | ⟨q1, q2⟩
      · rw [if_pos q]; exact sm_nb (by decide) (by decide)
      · by_cases e : I 15 i = -1
        · rw [if_pos e]; exact sm_nb (by decide) (by decide)
        · rw [if_neg e]; exact sm_nb (Int32.le_trans (by decide) q1) (Int32.le_trans q2 (by decide))
    refine (sm_str (by decide)).app ((n0 i hi).app ((sm_str (by decide)).app (hlat.app ((sm_str (by decide)).app (Sm.app ?_ ?_)))))
    · refine Sm.ite (fun _ => Sm.nil) (fun q => ?_)
      rcases (hv.res i (by omega)).2 with e | ⟨u, hu, e⟩
      · exact absurd e q
      · rw [e]
        exact (sm_str (by decide)).app ((n0 i hi).app ((sm_str (by decide)).app ((n1 u hu).app (sm_str (by decide)))))
    · exact Sm.ite (fun _ => Sm.nil) (fun _ => (sm_str (by decide)).app ((n0 i hi).app (sm_str (by decide))))
  · refine smF (fun i hi => ?_)
    unfold pthB
    obtain ⟨_, _, ⟨a, ha, ea⟩, ⟨c, hc, ec⟩⟩ := hv.pth i hi
    rw [ea, ec]
    exact (sm_str (by decide)).app ((n1 a ha).app ((sm_str (by decide)).app ((n1 c hc).app (sm_str (by decide)))))
  · refine smF (fun i hi => ?_)
    unfold queB
    obtain ⟨_, _, ⟨q1, q2⟩, hst⟩ := hv.que i hi
    refine (sm_str (by decide)).app ((n2 i hi).app ((sm_str (by decide)).app ((sm_nb (Int32.le_trans (by decide) q1) q2).app (Sm.app ?_ (sm_str (by decide))))))
    refine Sm.ite (fun _ => Sm.nil) (fun q => ?_)
    rcases hst with e | ⟨u, hu, e⟩
    · exact absurd e q
    · rw [e]
      exact (sm_str (by decide)).app (n1 u hu)
  · refine smF (fun i hi => ?_)
    unfold prtB
    rw [r6]
    exact (sm_str (by decide)).app ((n3 i hi).app ((sm_tk (sm_str (by decide)) (sm_str (by decide)) _ 0 true (fun k _ hk => n0 k (by omega))).app (sm_str (by decide))))
end
