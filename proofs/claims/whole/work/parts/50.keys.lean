/-! names: a key is the number of a name's characters in base 37 -/
def dig (c : Int32) : Nat := (cod c).toInt.toNat
def kN (l : List Nat) : Nat := l.foldl (fun a d => a * 37 + d) 0
theorem kN_from (l : List Nat) : ∀ x, l.foldl (fun a d => a * 37 + d) x = x * 37 ^ l.length + kN l := by
  induction l with
  | nil => intro x; simp [kN]
  | cons d l ih =>
    intro x
    have h0 := ih (0 * 37 + d)
    have h1 := ih (x * 37 + d)
    unfold kN
    rw [List.foldl_cons, List.foldl_cons, h1, h0, List.length_cons, Nat.pow_succ]
    rw [Nat.add_mul, Nat.add_mul, Nat.mul_assoc, Nat.mul_comm 37 (37 ^ l.length)]
    omega
theorem kN_app (a b : List Nat) : kN (a ++ b) = kN a * 37 ^ b.length + kN b := by
  unfold kN
  rw [List.foldl_append]
  exact kN_from b _
theorem kN_cons (d : Nat) (l : List Nat) : kN (d :: l) = d * 37 ^ l.length + kN l := by
  have := kN_app [d] l
  rw [show kN [d] = d from by simp [kN]] at this
  exact this
theorem kN_lt (l : List Nat) (h : ∀ d ∈ l, d < 37) : kN l < 37 ^ l.length := by
  induction l with
  | nil => simp [kN]
  | cons d l ih =>
    have h1 := ih (fun x hx => h x (List.mem_cons_of_mem _ hx))
    have h2 := h d List.mem_cons_self
    rw [kN_cons, List.length_cons, Nat.pow_succ, Nat.mul_comm (37 ^ l.length)]
    have : d * 37 ^ l.length ≤ 36 * 37 ^ l.length := Nat.mul_le_mul_right _ (by omega)
    omega
theorem cod_tab : ∀ j, j < 128 → 0 < cod (nI j) → chr (cod (nI j)) = nI j ∧ 1 ≤ dig (nI j) ∧ dig (nI j) ≤ 36 ∧ cod (nI j) = nI (dig (nI j)) := by decide +kernel
theorem cod_pos {c : Int32} (h : 0 < cod c) : isSm c = true ∨ isDg c = true := by
  unfold cod at h
  by_cases h1 : isSm c = true
  · exact Or.inl h1
  · rw [if_neg h1] at h
    by_cases h2 : isDg c = true
    · exact Or.inr h2
    · rw [if_neg h2] at h
      exact absurd h (by decide)
theorem cod_small {c : Int32} (h : 0 < cod c) : ∃ j, j < 128 ∧ c = nI j := by
  have key : ∀ a b : Int32, 0 ≤ a → b ≤ 127 → a ≤ c → c ≤ b → ∃ j, j < 128 ∧ c = nI j := by
    intro a b ha hb h1 h2
    have h0 : 0 ≤ c := Int32.le_trans ha h1
    have hc := cn_le (n := 127) h0 (Int32.le_trans h2 hb) (by decide)
    exact ⟨c.toNatClampNeg, by omega, cn_eq h0⟩
  rcases cod_pos h with h | h
  · obtain ⟨h1, h2⟩ := isSm_iff.mp h
    exact key 97 122 (by decide) (by decide) h1 h2
  · obtain ⟨h1, h2⟩ := isDg_iff.mp h
    exact key 48 57 (by decide) (by decide) h1 h2
theorem cod_ok {c : Int32} (h : 0 < cod c) : chr (cod c) = c ∧ 1 ≤ dig c ∧ dig c ≤ 36 ∧ cod c = nI (dig c) := by
  obtain ⟨j, hj, rfl⟩ := cod_small h
  exact cod_tab j hj h
/-- the key of the name l -/
abbrev NmR (key : Int64) (l : BL) : Prop := (∀ c ∈ l, 0 < cod c) ∧ (1 ≤ l.length) ∧ (l.length ≤ 12) ∧ (key.toInt = (kN (l.map dig) : Int))
theorem NmR.v {key : Int64} {l : BL} (h : NmR key l) : ∀ c ∈ l, 0 < cod c := h.1
theorem NmR.p {key : Int64} {l : BL} (h : NmR key l) : 1 ≤ l.length := h.2.1
theorem NmR.q {key : Int64} {l : BL} (h : NmR key l) : l.length ≤ 12 := h.2.2.1
theorem NmR.k {key : Int64} {l : BL} (h : NmR key l) : key.toInt = (kN (l.map dig) : Int) := h.2.2.2
theorem NmR.digs {key : Int64} {l : BL} (h : NmR key l) : ∀ d ∈ l.map dig, d < 37 := by
  intro d hd
  obtain ⟨c, hc, rfl⟩ := List.mem_map.mp hd
  have := (cod_ok (h.v c hc)).2.2.1
  omega
theorem dgs_eq : ∀ (ds : List Nat), (∀ d ∈ ds, d < 37) → ds.length ≤ 12 → ∀ r : Int64, r.toInt = ((kN ds * 37 ^ (12 - ds.length) : Nat) : Int) → dgs ds.length r = ds.flatMap (fun d => if d = 0 then [] else [chr (nI d)]) := by
  have eH : (177917621779460413 : Int64).toInt = ((37 ^ 11 : Nat) : Int) := by decide +kernel
  have e37 : (37 : Int64).toInt = 37 := by decide
  intro ds
  induction ds with
  | nil => intro _ _ r _; rfl
  | cons d ds ih =>
    intro hd hl r hr
    rw [List.length_cons] at hl hr
    have hd0 : d < 37 := hd d List.mem_cons_self
    have hds : ∀ x ∈ ds, x < 37 := fun x hx => hd x (List.mem_cons_of_mem _ hx)
    have hlt := kN_lt ds hds
    have hB : kN ds * 37 ^ (11 - ds.length) < 37 ^ 11 := by
      have e : (37 : Nat) ^ 11 = 37 ^ ds.length * 37 ^ (11 - ds.length) := by
        rw [← Nat.pow_add, show ds.length + (11 - ds.length) = 11 from by omega]
      rw [e]
      exact Nat.mul_lt_mul_of_pos_right hlt (Nat.pow_pos (by decide))
    have hV : kN (d :: ds) * 37 ^ (12 - (ds.length + 1)) = 37 ^ 11 * d + kN ds * 37 ^ (11 - ds.length) := by
      rw [kN_cons, show 12 - (ds.length + 1) = 11 - ds.length from by omega, Nat.add_mul, Nat.mul_assoc, ← Nat.pow_add, show ds.length + (11 - ds.length) = 11 from by omega, Nat.mul_comm d]
    have hW : kN ds * 37 ^ (12 - ds.length) = kN ds * 37 ^ (11 - ds.length) * 37 := by
      rw [show 12 - ds.length = (11 - ds.length) + 1 from by omega, Nat.pow_succ, ← Nat.mul_assoc]
    rw [hV] at hr
    have ih := ih hds (by omega)
    rw [hW] at ih
    generalize kN ds * 37 ^ (11 - ds.length) = B at hB hr ih
    have h0 : 0 ≤ r.toInt := by rw [hr]; exact Int.natCast_nonneg _
    have hq : (r / 177917621779460413).toInt = (d : Int) := by
      rw [lg_ldiv_nonneg h0 (by rw [eH]; decide), hr, eH, ← Int.natCast_ediv, Nat.mul_add_div (by decide), Nat.div_eq_of_lt hB, Nat.add_zero]
    have hm : (r - r / 177917621779460413 * 177917621779460413).toInt = (B : Int) := by
      rw [Kit.i64_rem_nonneg h0, hr, eH, ← Int.natCast_emod, Nat.mul_add_mod, Nat.mod_eq_of_lt hB]
    have hi : (r / 177917621779460413).toInt32 = nI d := by
      apply Int32.toInt_inj.mp
      rw [nI_toInt (by omega), Kit.i32_of_i64 (by rw [hq]; omega) (by rw [hq]; omega), hq]
    have hn : ((r - r / 177917621779460413 * 177917621779460413) * 37).toInt = ((B * 37 : Nat) : Int) := by
      have hB2 : B < 177917621779460413 := Nat.lt_of_lt_of_le hB (by decide +kernel)
      clear hB hr hq ih hlt hl
      rw [Kit.i64_mul (by rw [hm, e37]; omega) (by rw [hm, e37]; omega), hm, e37]
      exact (Int.natCast_mul B 37).symm
    rw [List.length_cons, dgs, hi, ih _ hn, List.flatMap_cons]
    congr 1
    by_cases q : d = 0
    · subst q
      rfl
    · rw [if_neg q, if_neg (fun z => ?_)]
      rw [Int32.le_iff_toInt_le, nI_toInt (by omega)] at z
      have : (0 : Int32).toInt = 0 := by decide
      omega
theorem kN_zero (n : Nat) : kN (List.replicate n 0) = 0 := by
  induction n with
  | zero => rfl
  | succ n ih => rw [List.replicate_succ, kN_cons, ih, Nat.zero_mul]
theorem NmR.chars {key : Int64} {l : BL} (h : NmR key l) : nmB key = l := by
  have hq := h.q
  have hlen : (List.replicate (12 - l.length) 0 ++ l.map dig).length = 12 := by
    rw [List.length_append, List.length_replicate, List.length_map]
    omega
  have e := dgs_eq (List.replicate (12 - l.length) 0 ++ l.map dig) (fun d hd => by
    rcases List.mem_append.mp hd with hd | hd
    · rw [List.eq_of_mem_replicate hd]; decide
    · exact h.digs d hd) (by rw [hlen]; exact Nat.le_refl _) key (by
    rw [hlen, kN_app, kN_zero, Nat.zero_mul, Nat.zero_add, Nat.sub_self, Nat.pow_zero, Nat.mul_one]
    exact h.k)
  have e1 : (List.replicate (12 - l.length) 0).flatMap (fun d => if d = 0 then [] else [chr (nI d)]) = [] := by
    rw [List.flatMap_eq_nil_iff]
    intro d hd
    rw [List.eq_of_mem_replicate hd]
    rfl
  have e2 : ∀ l : BL, (∀ c ∈ l, 0 < cod c) → (l.map dig).flatMap (fun d => if d = 0 then [] else [chr (nI d)]) = l := by
    intro l
    induction l with
    | nil => intro _; rfl
    | cons c l ih =>
      intro hv
      have hc := cod_ok (hv c List.mem_cons_self)
      have hne : ¬ dig c = 0 := by omega
      rw [List.map_cons, List.flatMap_cons, if_neg hne, ← hc.2.2.2, hc.1, ih (fun x hx => hv x (List.mem_cons_of_mem _ hx))]
      rfl
  rw [hlen, List.flatMap_append, e1, e2 l h.v] at e
  exact (nmB_eq key).trans e
theorem NmR.inj {key : Int64} {l l' : BL} (h : NmR key l) (h' : NmR key l') : l = l' := by rw [← h.chars, ← h'.chars]
theorem NmR.keq {key key' : Int64} {l : BL} (h : NmR key l) (h' : NmR key' l) : key = key' := by
  apply Int64.toInt_inj.mp
  rw [h.k, h'.k]
/-- a stretch of the text -/
def slc (T : Nat → Int32) (p q : Nat) : BL := (List.range (q - p)).map (fun k => T (p + k))
theorem slc_len (T : Nat → Int32) (p q : Nat) : (slc T p q).length = q - p := by simp [slc]
theorem slc_cons (T : Nat → Int32) {p q : Nat} (h : p < q) : slc T p q = T p :: slc T (p + 1) q := by
  unfold slc
  rw [show q - p = (q - (p + 1)) + 1 from by omega, List.range_succ_eq_map, List.map_cons, List.map_map]
  congr 1
  apply List.map_congr_left
  intro k _
  show T (p + (k + 1)) = T (p + 1 + k)
  congr 1
  omega
theorem slc_nil (T : Nat → Int32) {p q : Nat} (h : q ≤ p) : slc T p q = [] := by
  unfold slc
  rw [show q - p = 0 from by omega]
  rfl
/-- what tnm reads -/
theorem tnm_val (T : Nat → Int32) : ∀ (m p : Nat) (k : Int64), ∀ c ∈ slc T p (tnm T m p k).1, 0 < cod c := by
  intro m
  induction m with
  | zero => intro p k c hc; rw [tnm, slc_nil T (Nat.le_refl _)] at hc; simp at hc
  | succ m ih =>
    intro p k c hc
    rw [tnm] at hc
    by_cases q : cod (T p) ≤ 0
    · rw [if_pos q, slc_nil T (Nat.le_refl _)] at hc; simp at hc
    · rw [if_neg q] at hc
      have hg := (tnm_ge T m (p + 1) (k * 37 + (cod (T p)).toInt64)).1
      rw [slc_cons T (by omega)] at hc
      rcases List.mem_cons.mp hc with e | e
      · rw [e]; exact Int32.not_le.mp q
      · exact ih (p + 1) _ c e
theorem tnm_key (T : Nat → Int32) : ∀ (m p : Nat) (k : Int64) (a : Nat), k.toInt = (a : Int) → (a + 1) * 37 ^ ((tnm T m p k).1 - p) ≤ 37 ^ 12 → (tnm T m p k).2.toInt = ((a * 37 ^ ((tnm T m p k).1 - p) + kN ((slc T p (tnm T m p k).1).map dig) : Nat) : Int) := by
  intro m
  induction m with
  | zero =>
    intro p k a hk _
    rw [tnm, slc_nil T (Nat.le_refl _)]
    simp [kN, hk]
  | succ m ih =>
    intro p k a hk hb
    rw [tnm] at hb ⊢
    by_cases q : cod (T p) ≤ 0
    · rw [if_pos q] at hb ⊢
      rw [slc_nil T (Nat.le_refl _)]
      simp [kN, hk]
    · rw [if_neg q] at hb ⊢
      have hg := (tnm_ge T m (p + 1) (k * 37 + (cod (T p)).toInt64)).1
      have hc := cod_ok (Int32.not_le.mp q)
      have hpw : 37 ^ ((tnm T m (p + 1) (k * 37 + (cod (T p)).toInt64)).1 - p) = 37 * 37 ^ ((tnm T m (p + 1) (k * 37 + (cod (T p)).toInt64)).1 - (p + 1)) := by
        rw [Nat.mul_comm, ← Nat.pow_succ]
        congr 1
        omega
      have hp1 : 1 ≤ 37 ^ ((tnm T m (p + 1) (k * 37 + (cod (T p)).toInt64)).1 - (p + 1)) := Nat.pow_pos (by decide)
      have hbnd : (a + 1) * 37 ≤ 37 ^ 12 := by
        refine Nat.le_trans ?_ hb
        rw [hpw, ← Nat.mul_assoc]
        exact Nat.le_mul_of_pos_right _ hp1
      have hbn : (37 : Nat) ^ 12 < 2 ^ 63 := by decide
      have hki : (k * 37 + (cod (T p)).toInt64).toInt = ((a * 37 + dig (T p) : Nat) : Int) := by
        have e37 : (37 : Int64).toInt = 37 := by decide
        have ec : ((cod (T p)).toInt64).toInt = (dig (T p) : Int) := by
          rw [Kit.i64_of_i32, hc.2.2.2, nI_toInt (by omega)]
        have em : (k * 37).toInt = (a : Int) * 37 := by
          rw [Kit.i64_mul (by rw [hk, e37]; omega) (by rw [hk, e37]; omega), hk, e37]
        rw [Kit.i64_add (by rw [em, ec]; omega) (by rw [em, ec]; omega), em, ec]
        omega
      have hnext : (a * 37 + dig (T p) + 1) * 37 ^ ((tnm T m (p + 1) (k * 37 + (cod (T p)).toInt64)).1 - (p + 1)) ≤ 37 ^ 12 := by
        refine Nat.le_trans (Nat.mul_le_mul_right _ (show a * 37 + dig (T p) + 1 ≤ (a + 1) * 37 by omega)) ?_
        rw [Nat.mul_assoc, ← hpw]
        exact hb
      rw [ih (p + 1) _ _ hki hnext, slc_cons T (show p < (tnm T m (p + 1) (k * 37 + (cod (T p)).toInt64)).1 by omega), List.map_cons, kN_cons, List.length_map, slc_len, hpw]
      congr 1
      rw [Nat.add_mul, Nat.mul_assoc]
      omega
/-- a name of at most twelve characters -/
theorem tnm_name (T : Nat → Int32) {m p : Nat} (h : 0 < cod (T p)) (hm : 0 < m) (hl : (tnm T m p 0).1 - p ≤ 12) : NmR (tnm T m p 0).2 (slc T p (tnm T m p 0).1) := by
  have hv := tnm_val T m p 0
  have hk := tnm_key T m p 0 0 (by decide) (by rw [Nat.zero_add, Nat.one_mul]; exact Nat.pow_le_pow_right (by decide) hl)
  have hgt : p + 1 ≤ (tnm T m p 0).1 := by
    obtain ⟨m, rfl⟩ : ∃ m', m = m' + 1 := ⟨m - 1, by omega⟩
    rw [tnm, if_neg (Int32.not_le.mpr h)]
    exact (tnm_ge T m (p + 1) _).1
  refine ⟨hv, by rw [slc_len]; omega, by rw [slc_len]; exact hl, ?_⟩
  rw [hk, Nat.zero_mul, Nat.zero_add]
