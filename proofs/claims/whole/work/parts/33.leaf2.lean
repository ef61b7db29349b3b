/-! the same by ints as they are; Bytes (more); searching loops -/
theorem cn_eq {x : Int32} (h : 0 ≤ x) : x = nI x.toNatClampNeg := by
  obtain ⟨j, hj, e⟩ := nI_of (Int32.not_lt.mpr h)
  rw [e, nI_clamp hj]
theorem cn_lt {x : Int32} (h : 0 ≤ x) : x.toNatClampNeg < 2 ^ 31 := by
  obtain ⟨j, hj, e⟩ := nI_of (Int32.not_lt.mpr h)
  rw [e, nI_clamp hj]; exact hj
theorem cn_le {x : Int32} {n : Nat} (h : 0 ≤ x) (hn : x ≤ nI n) (hb : n < 2 ^ 31) : x.toNatClampNeg ≤ n := by
  obtain ⟨j, hj, e⟩ := nI_of (Int32.not_lt.mpr h)
  rw [e, nI_leI hj hb] at hn
  rw [e, nI_clamp hj]; exact hn
theorem rget_nI {f : Nat → Int32} {n i : Nat} {e : Int32} (h : i < n) (hn : n < 2 ^ 31) : rget f n e (nI i) = f i := by
  unfold rget
  rw [if_pos ⟨nI_pos' (by omega), nI_lt h hn⟩, nI_clamp (by omega)]
theorem rset_nI {I : Nat → Nat → Int32} {a n i : Nat} {v : Int32} (h : i < n) (hn : n < 2 ^ 31) : rset I a n (nI i) v = ip_up I a i v := by
  unfold rset
  rw [if_pos ⟨nI_pos' (by omega), nI_lt h hn⟩, nI_clamp (by omega)]
theorem bget_nI {f : Nat → Int32} {n i : Nat} (h : i < n) (hn : n < 2 ^ 31) : bget f n (nI i) = f i &&& 255 := by
  unfold bget
  rw [if_pos ⟨nI_pos' (by omega), nI_lt h hn⟩, nI_clamp (by omega)]
theorem bget_end {f : Nat → Int32} {n i : Nat} (h : n ≤ i) (hi : i < 2 ^ 31) : bget f n (nI i) = -1 := by
  unfold bget
  rw [if_neg (fun q => nI_nlt h hi q.2)]
/-- is there one of i .. i+m-1 -/
def anyF (p : Nat → Bool) : Nat → Nat → Bool
  | 0, _ => false
  | m + 1, i => p i || anyF p m (i + 1)
theorem anyF_iff {p : Nat → Bool} : ∀ {m i : Nat}, anyF p m i = true ↔ ∃ j, i ≤ j ∧ j < i + m ∧ p j = true := by
  intro m
  induction m with
  | zero => intro i; constructor
            · intro h; exact absurd h (by simp [anyF])
            · rintro ⟨j, h1, h2, _⟩; omega
  | succ m ih =>
    intro i
    simp only [anyF, Bool.or_eq_true, ih]
    constructor
    · rintro (h | ⟨j, h1, h2, h3⟩)
      · exact ⟨i, Nat.le_refl i, by omega, h⟩
      · exact ⟨j, by omega, by omega, h3⟩
    · rintro ⟨j, h1, h2, h3⟩
      by_cases q : j = i
      · exact Or.inl (q ▸ h3)
      · exact Or.inr ⟨j, by omega, by omega, h3⟩
theorem anyF_congr {p q : Nat → Bool} : ∀ {m i : Nat}, (∀ j, i ≤ j → j < i + m → p j = q j) → anyF p m i = anyF q m i := by
  intro m
  induction m with
  | zero => intro i _; rfl
  | succ m ih => intro i h; simp only [anyF]; rw [h i (Nat.le_refl i) (by omega), ih (fun j h1 h2 => h j (by omega) (by omega))]
/-- a loop that looks for one -/
theorem srch {W : Nat → Prop} {A B : Prop} {p : Nat → Bool} {n : Nat} (hs : ∀ i, i < n → (W i ↔ if p i = true then A else W (i + 1))) (he : W n ↔ B) : W 0 ↔ if anyF p n 0 = true then A else B := by
  have key : ∀ m i, i + m = n → (W i ↔ if anyF p m i = true then A else B) := by
    intro m
    induction m with
    | zero => intro i hi; have : i = n := by omega
              subst this; simpa [anyF] using he
    | succ m ih =>
      intro i hi
      rw [hs i (by omega), ih (i + 1) (by omega)]
      cases q : p i with
      | true => simp [anyF, q]
      | false => simp [anyF, q]
  exact key n 0 (Nat.zero_add n)
theorem srchW {mi pc : Nat} {L : Int32 → ip_Lo} {h : ip_H} {b : ip_B} {post : Option Value → ip_H → Prop} {px : String → ip_H → Prop} {A B : Prop} (p : Nat → Bool) (n : Nat)
    (hs : ∀ i, i < n → (ip_WP mi pc (L (nI i)) [] h b post px ↔ if p i = true then A else ip_WP mi pc (L (nI (i + 1))) [] h b post px)) (he : ip_WP mi pc (L (nI n)) [] h b post px ↔ B) : ip_WP mi pc (L 0) [] h b post px ↔ if anyF p n 0 = true then A else B := by
  have := srch (W := fun i => ip_WP mi pc (L (nI i)) [] h b post px) hs he
  rw [← nI_0]
  exact this
/-- how many of i .. i+m-1 -/
def cntF (p : Nat → Bool) : Nat → Nat → Nat
  | 0, _ => 0
  | m + 1, i => (if p i = true then 1 else 0) + cntF p m (i + 1)
theorem cntF_le {p : Nat → Bool} : ∀ {m i : Nat}, cntF p m i ≤ m := by
  intro m
  induction m with
  | zero => intro i; exact Nat.le_refl 0
  | succ m ih => intro i; simp only [cntF]; have := ih (i := i + 1); split <;> omega
theorem cntF_congr {p q : Nat → Bool} : ∀ {m i : Nat}, (∀ j, i ≤ j → j < i + m → p j = q j) → cntF p m i = cntF q m i := by
  intro m
  induction m with
  | zero => intro i _; rfl
  | succ m ih => intro i h; simp only [cntF]; rw [h i (Nat.le_refl i) (by omega), ih (fun j h1 h2 => h j (by omega) (by omega))]
section
variable {G : List ip_K} {F : Nat → Nat → Value} {I : Nat → Nat → Int32} {J : Nat → Nat → Int64} {b : ip_B} {post : Option Value → ip_H → Prop} {px : String → ip_H → Prop}
theorem ct_Nm_find2 {k a n : Nat} {x : Int32} {key : Int64} (hN : cNm G F k a n) (hs : F k 1 = .int x) (h0 : 0 ≤ x) (hx : x ≤ nI n) : ip_WP 148 0 [some (.ref k), some (.long key), none, none] [] (G, F, I, J) b post px ↔ post (some (.int (nfi (J a) key x.toNatClampNeg 0))) (G, F, I, J) :=
  ct_Nm_find hN (by rw [hs, ← cn_eq h0]) (cn_le h0 hx hN.2.2.2)
theorem ct_Nm_keyAt2 {k a n i : Nat} {x : Int32} (hN : cNm G F k a n) (hs : F k 1 = .int x) (h0 : 0 ≤ x) (hx : x ≤ nI n) (hi : i < x.toNatClampNeg) : ip_WP 147 0 [some (.ref k), some (.int (nI i))] [] (G, F, I, J) b post px ↔ post (some (.long (J a i))) (G, F, I, J) :=
  ct_Nm_keyAt hN (by rw [hs, ← cn_eq h0]) (cn_le h0 hx hN.2.2.2) hi
theorem ct_Nm_add2 {k a n : Nat} {x : Int32} {key : Int64} (hN : cNm G F k a n) (hs : F k 1 = .int x) (h0 : 0 ≤ x) (hx : x ≤ nI n) : ip_WP 146 0 [some (.ref k), some (.long key), none] [] (G, F, I, J) b post px ↔ if x < nI n then post (some (.int x)) (G, ip_up F k 1 (.int (x + 1)), I, ip_up J a x.toNatClampNeg key) else post (some (.int (-1))) (G, F, I, J) := by
  have e := cn_eq h0
  have hl := cn_le h0 hx hN.2.2.2
  have hb := cn_lt h0
  generalize x.toNatClampNeg = c at e hl hb ⊢
  subst e
  rw [ct_Nm_add hN hs hl, nI_1]
  by_cases q : c < n
  · rw [if_pos q, if_pos (nI_lt q hN.2.2.2)]
  · rw [if_neg q, if_neg (nI_nlt (by omega) hb)]
theorem ct_By_at2 {k a : Nat} {x i : Int32} (hB : cBy G F k a) (hs : F k 1 = .int x) (h0 : 0 ≤ x) (hx : x ≤ 4160) : ip_WP 89 0 [some (.ref k), some (.int i)] [] (G, F, I, J) b post px ↔ post (some (.int (bget (I a) x.toNatClampNeg i))) (G, F, I, J) :=
  ct_By_at hB (by rw [hs, ← cn_eq h0]) (cn_le (n := 4160) h0 hx (by decide))
theorem ct_By_add2 {k a n : Nat} {v : Int32} (hB : cBy G F k a) (hs : F k 1 = .int (nI n)) (hn : n < 4160) : ip_WP 91 0 [some (.ref k), some (.int v)] [] (G, F, I, J) b post px ↔ post none (G, ip_up F k 1 (.int (nI (n + 1))), ip_up I a n v.toInt8.toInt32, J) := by
  rw [ct_By_add hB hs (by omega)]
  unfold addB
  rw [if_pos hn]
end
