/-! names: a key is the number of a name's characters in base 37 -/
def dig (c : Int32) : Nat := (cod c).toInt.toNat
def kN (l : List Nat) : Nat := l.foldl (fun a d => a * 37 + d) 0
theorem kN_from (l : List Nat) : ∀ x, l.foldl (fun a d => a * 37 + d) x = x * 37 ^ l.length + kN l := by
  induction l with
  | nil => intro x; simp [kN]
  | cons d l ih =>
    intro x
    have h0 := ih (0 * 37 + d)
    have h1 := ih (x * 37 + d)
    unfold kN
    rw [List.foldl_cons, List.foldl_cons, h1, h0, List.length_cons, Nat.pow_succ]
    rw [Nat.add_mul, Nat.add_mul, Nat.mul_assoc, Nat.mul_comm 37 (37 ^ l.length)]
    omega
theorem kN_app (a b : List Nat) : kN (a ++ b) = kN a * 37 ^ b.length + kN b := by
  unfold kN
  rw [List.foldl_append]
  exact kN_from b _
theorem kN_cons (d : Nat) (l : List Nat) : kN (d :: l) = d * 37 ^ l.length + kN l := by
  have := kN_app [d] l
  rw [show kN [d] = d from by simp [kN]] at this
  exact this
theorem kN_lt (l : List Nat) (h : ∀ d ∈ l, d < 37) : kN l < 37 ^ l.length := by
  induction l with
  | nil => simp [kN]
  | cons d l ih =>
    have h1 := ih (fun x hx => h x (List.mem_cons_of_mem _ hx))
    have h2 := h d List.mem_cons_self
    rw [kN_cons, List.length_cons, Nat.pow_succ, Nat.mul_comm (37 ^ l.length)]
    have : d * 37 ^ l.length ≤ 36 * 37 ^ l.length := Nat.mul_le_mul_right _ (by omega)
    omega
theorem cod_tab : ∀ j, j < 128 → 0 < cod (nI j) → chr (cod (nI j)) = nI j ∧ 1 ≤ dig (nI j) ∧ dig (nI j) ≤ 36 ∧ cod (nI j) = nI (dig (nI j)) := by decide +kernel
theorem cod_pos {c : Int32} (h : 0 < cod c) : isSm c = true ∨ isDg c = true := by
  unfold cod at h
  by_cases h1 : isSm c = true
  · exact Or.inl h1
  · rw [if_neg h1] at h
    by_cases h2 : isDg c = true
    · exact Or.inr h2
    · rw [if_neg h2] at h
      exact absurd h (by decide)
theorem cod_small {c : Int32} (h : 0 < cod c) : ∃ j, j < 128 ∧ c = nI j := by
  have key : ∀ a b : Int32, 0 ≤ a → b ≤ 127 → a ≤ c → c ≤ b → ∃ j, j < 128 ∧ c = nI j := by
    intro a b ha hb h1 h2
    have h0 : 0 ≤ c := Int32.le_trans ha h1
    have hc := cn_le (n := 127) h0 (Int32.le_trans h2 hb) (by decide)
    exact ⟨c.toNatClampNeg, by omega, cn_eq h0⟩
  rcases cod_pos h with h | h
  · obtain ⟨h1, h2⟩ := isSm_iff.mp h
    exact key 97 122 (by decide) (by decide) h1 h2
  · obtain ⟨h1, h2⟩ := isDg_iff.mp h
    exact key 48 57 (by decide) (by decide) h1 h2
theorem cod_ok {c : Int32} (h : 0 < cod c) : chr (cod c) = c ∧ 1 ≤ dig c ∧ dig c ≤ 36 ∧ cod c = nI (dig c) := by
  obtain ⟨j, hj, rfl⟩ := cod_small h
  exact cod_tab j hj h
/-- the key of the name l -/
abbrev NmR (key : Int64) (l : BL) : Prop := (∀ c ∈ l, 0 < cod c) ∧ (1 ≤ l.length) ∧ (l.length ≤ 12) ∧ (key.toInt = (kN (l.map dig) : Int))
theorem NmR.v {key : Int64} {l : BL} (h : NmR key l) : ∀ c ∈ l, 0 < cod c := h.1
theorem NmR.p {key : Int64} {l : BL} (h : NmR key l) : 1 ≤ l.length := h.2.1
theorem NmR.q {key : Int64} {l : BL} (h : NmR key l) : l.length ≤ 12 := h.2.2.1
theorem NmR.k {key : Int64} {l : BL} (h : NmR key l) : key.toInt = (kN (l.map dig) : Int) := h.2.2.2
theorem p37_int : ∀ j, j < 12 → (p37 j).toInt = ((37 ^ j : Nat) : Int) := by decide +kernel
theorem p37_div : ∀ j, j < 11 → p37 (j + 1) / 37 = p37 j := by decide +kernel
theorem p37_pos : ∀ j, j < 12 → ¬ p37 j ≤ 0 := by decide +kernel
theorem NmR.digs {key : Int64} {l : BL} (h : NmR key l) : ∀ d ∈ l.map dig, d < 37 := by
  intro d hd
  obtain ⟨c, hc, rfl⟩ := List.mem_map.mp hd
  have := (cod_ok (h.v c hc)).2.2.1
  omega
theorem NmR.lt {key : Int64} {l : BL} (h : NmR key l) : kN (l.map dig) < 37 ^ l.length := by
  have := kN_lt (l.map dig) h.digs
  rwa [List.length_map] at this
theorem i64_ofdiv {key : Int64} {K j : Nat} (hk : key.toInt = (K : Int)) (hj : j < 12) : (key / p37 j).toInt = ((K / 37 ^ j : Nat) : Int) := by
  have hp := p37_int j hj
  rw [lg_ldiv_nonneg (by omega) (by rw [hp]; exact Int.ofNat_lt.mpr (Nat.pow_pos (by decide)))]
  rw [hk, hp]
  exact (Int.natCast_ediv K (37 ^ j)).symm
theorem dig_at {key : Int64} {K j d : Nat} (hk : key.toInt = (K : Int)) (hj : j < 12) (hd : K / 37 ^ j % 37 = d) : (key / p37 j - key / p37 j / 37 * 37).toInt32 = nI d := by
  have h1 := i64_ofdiv hk hj
  have h2 := Kit.i64_rem_nonneg (x := key / p37 j) (y := 37) (by rw [h1]; exact Int.natCast_nonneg _)
  rw [h1, show (37 : Int64).toInt = ((37 : Nat) : Int) from by decide, ← Int.natCast_emod, hd] at h2
  have hlt : d < 37 := by rw [← hd]; exact Nat.mod_lt _ (by decide)
  apply Int32.toInt_inj.mp
  rw [nI_toInt (by omega), Kit.i32_of_i64 (by rw [h2]; omega) (by rw [h2]; omega), h2]
theorem dgs_eq {key : Int64} {l : BL} (h : NmR key l) : ∀ (e a : BL) (m : Nat), a ++ e = l → e ≠ [] → e.length ≤ m → dgs key m (p37 (e.length - 1)) = e := by
  intro e
  induction e with
  | nil => intro a m _ hne; exact absurd rfl hne
  | cons c e ih =>
    intro a m hl _ hm
    have hq := h.q
    have hlen : l.length = a.length + (e.length + 1) := by rw [← hl, List.length_append, List.length_cons]
    have hj : e.length < 12 := by omega
    have hcv : 0 < cod c := h.v c (by rw [← hl]; exact List.mem_append_right a List.mem_cons_self)
    obtain ⟨m, rfl⟩ : ∃ m', m = m' + 1 := ⟨m - 1, by rw [List.length_cons] at hm; omega⟩
    rw [List.length_cons, Nat.add_sub_cancel, dgs, if_neg (p37_pos _ hj)]
    have hK : kN (l.map dig) = kN ((a ++ [c]).map dig) * 37 ^ e.length + kN (e.map dig) := by
      rw [← hl, show a ++ c :: e = (a ++ [c]) ++ e from by simp, List.map_append, kN_app, List.length_map]
    have hlt : kN (e.map dig) < 37 ^ e.length := by
      have := kN_lt (e.map dig) (fun d hd => by
        obtain ⟨x, hx, rfl⟩ := List.mem_map.mp hd
        have := (cod_ok (h.v x (by rw [← hl]; exact List.mem_append_right a (List.mem_cons_of_mem _ hx)))).2.2.1
        omega)
      rwa [List.length_map] at this
    have hdiv : kN (l.map dig) / 37 ^ e.length = kN ((a ++ [c]).map dig) := by
      rw [hK, Nat.mul_comm, Nat.mul_add_div (Nat.pow_pos (by decide)), Nat.div_eq_of_lt hlt, Nat.add_zero]
    have hmod : kN (l.map dig) / 37 ^ e.length % 37 = dig c := by
      rw [hdiv, List.map_append, kN_app]
      have := (cod_ok hcv).2.2.1
      simp only [List.map_cons, List.map_nil, List.length_cons, List.length_nil, Nat.zero_add, Nat.pow_one]
      rw [show kN [dig c] = dig c from by simp [kN], Nat.mul_comm, Nat.mul_add_mod]
      exact Nat.mod_eq_of_lt (by omega)
    rw [dig_at h.k hj hmod, ← (cod_ok hcv).2.2.2, (cod_ok hcv).1]
    congr 1
    cases e with
    | nil =>
      show dgs key m (p37 0 / 37) = []
      rw [show p37 0 / 37 = 0 from by decide +kernel]
      cases m with
      | zero => rfl
      | succ m => rw [dgs, if_pos (Int64.le_refl 0)]
    | cons c2 e =>
      rw [List.length_cons, p37_div _ (by rw [List.length_cons] at hj; omega)]
      have := ih (a ++ [c]) m (by rw [← hl]; simp) (by simp) (by rw [List.length_cons] at hm ⊢; rw [List.length_cons] at hm; omega)
      rw [List.length_cons, Nat.add_sub_cancel] at this
      exact this
theorem kN_ge {l : List Nat} (hp : 1 ≤ l.length) (h : ∀ d ∈ l, 1 ≤ d) : 37 ^ (l.length - 1) ≤ kN l := by
  cases l with
  | nil => simp at hp
  | cons d l =>
    rw [kN_cons, List.length_cons, Nat.add_sub_cancel]
    have := h d List.mem_cons_self
    have : 1 * 37 ^ l.length ≤ d * 37 ^ l.length := Nat.mul_le_mul_right _ this
    omega
theorem i64_lt37 {x : Int64} {n : Nat} (h : x.toInt = (n : Int)) : x < 37 ↔ n < 37 := by
  rw [Int64.lt_iff_toInt_lt, h, show (37 : Int64).toInt = 37 from by decide]
  omega
theorem unE_eq {key : Int64} {l : BL} (h : NmR key l) : ∀ m j, j + m = 11 → j ≤ l.length - 1 → unE key m j = l.length - 1 := by
  have hp := h.p
  have hq := h.q
  have hlt := h.lt
  have hge : 37 ^ (l.length - 1) ≤ kN (l.map dig) := by
    have := kN_ge (l := l.map dig) (by rw [List.length_map]; exact hp) (fun d hd => by
      obtain ⟨c, hc, rfl⟩ := List.mem_map.mp hd
      exact (cod_ok (h.v c hc)).2.1)
    rwa [List.length_map] at this
  intro m
  induction m with
  | zero => intro j hj hl; rw [unE]; omega
  | succ m ih =>
    intro j hj hl
    have hd := i64_ofdiv (j := j) h.k (by omega)
    rw [unE]
    by_cases q : j = l.length - 1
    · rw [if_pos ((i64_lt37 hd).mpr ?_), q]
      rw [q]
      have e : 37 ^ l.length = 37 * 37 ^ (l.length - 1) := by
        rw [Nat.mul_comm, ← Nat.pow_succ]
        congr 1
        omega
      rw [e] at hlt
      exact (Nat.div_lt_iff_lt_mul (Nat.pow_pos (by decide))).mpr hlt
    · rw [if_neg (fun z => ?_)]
      · exact ih (j + 1) (by omega) (by omega)
      · have z := (i64_lt37 hd).mp z
        rw [Nat.div_lt_iff_lt_mul (Nat.pow_pos (by decide))] at z
        have : 37 * 37 ^ j ≤ 37 ^ (l.length - 1) := by
          rw [Nat.mul_comm, ← Nat.pow_succ]
          exact Nat.pow_le_pow_right (by decide) (by omega)
        omega
theorem NmR.chars {key : Int64} {l : BL} (h : NmR key l) : nmB key = l := by
  have hp := h.p
  unfold nmB
  rw [unE_eq h 11 0 rfl (Nat.zero_le _)]
  exact dgs_eq h l [] 12 rfl (by intro e; rw [e] at hp; simp at hp) h.q
theorem NmR.inj {key : Int64} {l l' : BL} (h : NmR key l) (h' : NmR key l') : l = l' := by rw [← h.chars, ← h'.chars]
theorem NmR.keq {key key' : Int64} {l : BL} (h : NmR key l) (h' : NmR key' l) : key = key' := by
  apply Int64.toInt_inj.mp
  rw [h.k, h'.k]
/-- a stretch of the text -/
def slc (T : Nat → Int32) (p q : Nat) : BL := (List.range (q - p)).map (fun k => T (p + k))
theorem slc_len (T : Nat → Int32) (p q : Nat) : (slc T p q).length = q - p := by simp [slc]
theorem slc_cons (T : Nat → Int32) {p q : Nat} (h : p < q) : slc T p q = T p :: slc T (p + 1) q := by
  unfold slc
  rw [show q - p = (q - (p + 1)) + 1 from by omega, List.range_succ_eq_map, List.map_cons, List.map_map]
  congr 1
  apply List.map_congr_left
  intro k _
  show T (p + (k + 1)) = T (p + 1 + k)
  congr 1
  omega
theorem slc_nil (T : Nat → Int32) {p q : Nat} (h : q ≤ p) : slc T p q = [] := by
  unfold slc
  rw [show q - p = 0 from by omega]
  rfl
/-- what tnm reads -/
theorem tnm_val (T : Nat → Int32) : ∀ (m p : Nat) (k : Int64), ∀ c ∈ slc T p (tnm T m p k).1, 0 < cod c := by
  intro m
  induction m with
  | zero => intro p k c hc; rw [tnm, slc_nil T (Nat.le_refl _)] at hc; simp at hc
  | succ m ih =>
    intro p k c hc
    rw [tnm] at hc
    by_cases q : cod (T p) ≤ 0
    · rw [if_pos q, slc_nil T (Nat.le_refl _)] at hc; simp at hc
    · rw [if_neg q] at hc
      have hg := (tnm_ge T m (p + 1) (k * 37 + (cod (T p)).toInt64)).1
      rw [slc_cons T (by omega)] at hc
      rcases List.mem_cons.mp hc with e | e
      · rw [e]; exact Int32.not_le.mp q
      · exact ih (p + 1) _ c e
theorem tnm_key (T : Nat → Int32) : ∀ (m p : Nat) (k : Int64) (a : Nat), k.toInt = (a : Int) → (a + 1) * 37 ^ ((tnm T m p k).1 - p) ≤ 37 ^ 12 → (tnm T m p k).2.toInt = ((a * 37 ^ ((tnm T m p k).1 - p) + kN ((slc T p (tnm T m p k).1).map dig) : Nat) : Int) := by
  intro m
  induction m with
  | zero =>
    intro p k a hk _
    rw [tnm, slc_nil T (Nat.le_refl _)]
    simp [kN, hk]
  | succ m ih =>
    intro p k a hk hb
    rw [tnm] at hb ⊢
    by_cases q : cod (T p) ≤ 0
    · rw [if_pos q] at hb ⊢
      rw [slc_nil T (Nat.le_refl _)]
      simp [kN, hk]
    · rw [if_neg q] at hb ⊢
      have hg := (tnm_ge T m (p + 1) (k * 37 + (cod (T p)).toInt64)).1
      have hc := cod_ok (Int32.not_le.mp q)
      have hpw : 37 ^ ((tnm T m (p + 1) (k * 37 + (cod (T p)).toInt64)).1 - p) = 37 * 37 ^ ((tnm T m (p + 1) (k * 37 + (cod (T p)).toInt64)).1 - (p + 1)) := by
        rw [Nat.mul_comm, ← Nat.pow_succ]
        congr 1
        omega
      have hp1 : 1 ≤ 37 ^ ((tnm T m (p + 1) (k * 37 + (cod (T p)).toInt64)).1 - (p + 1)) := Nat.pow_pos (by decide)
      have hbnd : (a + 1) * 37 ≤ 37 ^ 12 := by
        refine Nat.le_trans ?_ hb
        rw [hpw, ← Nat.mul_assoc]
        exact Nat.le_mul_of_pos_right _ hp1
      have hbn : (37 : Nat) ^ 12 < 2 ^ 63 := by decide
      have hki : (k * 37 + (cod (T p)).toInt64).toInt = ((a * 37 + dig (T p) : Nat) : Int) := by
        have e37 : (37 : Int64).toInt = 37 := by decide
        have ec : ((cod (T p)).toInt64).toInt = (dig (T p) : Int) := by
          rw [Kit.i64_of_i32, hc.2.2.2, nI_toInt (by omega)]
        have em : (k * 37).toInt = (a : Int) * 37 := by
          rw [Kit.i64_mul (by rw [hk, e37]; omega) (by rw [hk, e37]; omega), hk, e37]
        rw [Kit.i64_add (by rw [em, ec]; omega) (by rw [em, ec]; omega), em, ec]
        omega
      have hnext : (a * 37 + dig (T p) + 1) * 37 ^ ((tnm T m (p + 1) (k * 37 + (cod (T p)).toInt64)).1 - (p + 1)) ≤ 37 ^ 12 := by
        refine Nat.le_trans (Nat.mul_le_mul_right _ (show a * 37 + dig (T p) + 1 ≤ (a + 1) * 37 by omega)) ?_
        rw [Nat.mul_assoc, ← hpw]
        exact hb
      rw [ih (p + 1) _ _ hki hnext, slc_cons T (show p < (tnm T m (p + 1) (k * 37 + (cod (T p)).toInt64)).1 by omega), List.map_cons, kN_cons, List.length_map, slc_len, hpw]
      congr 1
      rw [Nat.add_mul, Nat.mul_assoc]
      omega
/-- a name of at most twelve characters -/
theorem tnm_name (T : Nat → Int32) {m p : Nat} (h : 0 < cod (T p)) (hm : 0 < m) (hl : (tnm T m p 0).1 - p ≤ 12) : NmR (tnm T m p 0).2 (slc T p (tnm T m p 0).1) := by
  have hv := tnm_val T m p 0
  have hk := tnm_key T m p 0 0 (by decide) (by rw [Nat.zero_add, Nat.one_mul]; exact Nat.pow_le_pow_right (by decide) hl)
  have hgt : p + 1 ≤ (tnm T m p 0).1 := by
    obtain ⟨m, rfl⟩ : ∃ m', m = m' + 1 := ⟨m - 1, by omega⟩
    rw [tnm, if_neg (Int32.not_le.mpr h)]
    exact (tnm_ge T m (p + 1) _).1
  refine ⟨hv, by rw [slc_len]; omega, by rw [slc_len]; exact hl, ?_⟩
  rw [hk, Nat.zero_mul, Nat.zero_add]
