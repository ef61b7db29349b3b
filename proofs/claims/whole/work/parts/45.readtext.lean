/-! Reader.readText: the whole reading as a function of the state -/
theorem inc_bd {x : Int32} {n : Nat} (hn : n < 2 ^ 31) (h0 : 0 ≤ x) (h : ¬ nI n ≤ x) : 0 ≤ x + 1 ∧ x + 1 ≤ nI n := by
  have e := cn_eq h0
  have hb := cn_lt h0
  generalize x.toNatClampNeg = c at e hb
  subst e
  have : c < n := by
    apply Nat.not_le.mp
    intro q
    exact h (nI_le q hb)
  rw [nI_1]
  exact ⟨nI_pos' (by omega), nI_le (by omega) hn⟩
/-- what a step leaves alone, and the bounds -/
abbrev Ok (X : Nat → Nat → Int32) (I : Nat → Nat → Int32) (J : Nat → Nat → Int64) (r : RS) : Prop := (∀ k, k ≠ 32 → k ≠ 5 → k ≠ 6 → k ≠ 8 → k ≠ 10 → k ≠ 12 → r.2.1 k = X k) ∧ (Bd X → Bd r.2.1) ∧ (∀ a, (a < 15 ∨ 31 < a) → r.2.2.1 a = I a) ∧ (∀ a, a ≠ 7 → a ≠ 9 → a ≠ 11 → a ≠ 13 → r.2.2.2 a = J a)
theorem Ok.x {X : Nat → Nat → Int32} {I : Nat → Nat → Int32} {J : Nat → Nat → Int64} {r : RS} (h : Ok X I J r) : ∀ k, k ≠ 32 → k ≠ 5 → k ≠ 6 → k ≠ 8 → k ≠ 10 → k ≠ 12 → r.2.1 k = X k := h.1
theorem Ok.b {X : Nat → Nat → Int32} {I : Nat → Nat → Int32} {J : Nat → Nat → Int64} {r : RS} (h : Ok X I J r) : Bd X → Bd r.2.1 := h.2.1
theorem Ok.i {X : Nat → Nat → Int32} {I : Nat → Nat → Int32} {J : Nat → Nat → Int64} {r : RS} (h : Ok X I J r) : ∀ a, (a < 15 ∨ 31 < a) → r.2.2.1 a = I a := h.2.2.1
theorem Ok.j {X : Nat → Nat → Int32} {I : Nat → Nat → Int32} {J : Nat → Nat → Int64} {r : RS} (h : Ok X I J r) : ∀ a, a ≠ 7 → a ≠ 9 → a ≠ 11 → a ≠ 13 → r.2.2.2 a = J a := h.2.2.2
theorem rset_ne {I : Nat → Nat → Int32} {a n c : Nat} {i v : Int32} (h : c ≠ a) : rset I a n i v c = I c := by
  unfold rset
  split
  · rw [up1, if_neg h]
  · rfl
section
variable {X : Nat → Nat → Int32} {y : Int64} {I : Nat → Nat → Int32} {J : Nat → Nat → Int64}
theorem Ok.refl {r : Int32} : Ok X I J (r, X, I, J) := ⟨fun _ _ _ _ _ _ _ => rfl, fun h => h, fun _ _ => rfl, fun _ _ _ _ _ => rfl⟩
theorem Ok.u32 {r : Int32} (j : Nat) (v : Int32) : Ok X I J (r, ip_up X 32 j v, I, J) := ⟨fun k h _ _ _ _ _ => by show ip_up X 32 j v k = X k; rw [up1, if_neg h], fun h => h.u32 j v, fun _ _ => rfl, fun _ _ _ _ _ => rfl⟩
theorem Ok.set {r r' : Int32} {X' : Nat → Nat → Int32} {a n : Nat} {i v : Int32} (h : Ok X I J (r, X', I, J)) (h1 : 15 ≤ a) (h2 : a ≤ 31) : Ok X I J (r', X', rset I a n i v, J) := ⟨h.x, h.b, fun c hc => by show rset I a n i v c = I c; exact rset_ne (by omega), fun _ _ _ _ _ => rfl⟩
theorem Ok.num {r r' : Int32} {X' : Nat → Nat → Int32} {I' : Nat → Nat → Int32} {J' : Nat → Nat → Int64} (h : Ok X I J (r, X', I', J')) : Ok X I J (r', X', I', J') := ⟨h.x, h.b, h.i, h.j⟩
theorem Ok.then32 {r r' : Int32} {X' : Nat → Nat → Int32} {I' : Nat → Nat → Int32} {J' : Nat → Nat → Int64} (h : Ok X I J (r, X', I', J')) (j : Nat) (v : Int32) : Ok X I J (r', ip_up X' 32 j v, I', J') := ⟨fun k h1 h2 h3 h4 h5 h6 => by show ip_up X' 32 j v k = X k; rw [up1, if_neg h1]; exact h.x k h1 h2 h3 h4 h5 h6, fun hb => (h.b hb).u32 j v, h.i, h.j⟩
theorem Ok.from32 {r : RS} {j : Nat} {v : Int32} (h : Ok (ip_up X 32 j v) I J r) : Ok X I J r := ⟨fun k h1 h2 h3 h4 h5 h6 => by rw [h.x k h1 h2 h3 h4 h5 h6, up1, if_neg h1], fun hb => h.b (hb.u32 j v), h.i, h.j⟩
theorem Bd.u514 (h : Bd X) (v : Int32) : Bd (ip_up X 5 14 v) := by
  and_intros <;> simp only [up1, updF_ap, Nat.reduceEqDiff, if_false, if_true, h.a1, h.b1, h.a3, h.b3, h.a6, h.b6, h.a8, h.b8, h.a10, h.b10, h.a12, h.b12, h.ap, h.bp]
theorem ok_sign {c : Int32} : Ok X I J (rSign X I J c) := by
  unfold rSign
  split <;> exact Ok.refl
theorem ok_close : Ok X I J (rClose X I J) := by
  unfold rClose
  split
  · refine ⟨fun k h1 h2 _ _ _ _ => ?_, fun h => (h.u514 _).u32 _ _, fun _ _ => rfl, fun _ _ _ _ _ => rfl⟩
    show ip_up (ip_up X 5 14 (X 5 14 + 1)) 32 5 (-1) k = X k
    rw [up1, if_neg h1, up1, if_neg h2]
  · exact Ok.refl
theorem ok_comma {e : Int32} : Ok X I J (rComma X I J e) := by
  unfold rComma
  split
  · exact Ok.u32 _ _
  · exact ok_close
theorem ok_word {w : Int32} : Ok X I J (rWord X I J w) := by
  unfold rWord
  split
  · exact Ok.refl
  · exact ok_close
theorem ok_new6 : Ok X I J (rNew X y I J 6 12) := by
  unfold rNew
  split
  · split
    · exact Ok.refl
    · split
      · exact Ok.refl
      · rename_i _ hc _
        refine ⟨fun k h1 h2 h3 h4 h5 h6 => ?_, fun h => Bd.u32 ?_ _ _, fun _ _ => rfl, fun a h1 h2 h3 h4 => ?_⟩
        · show ip_up (ip_up X 6 1 (X 6 1 + 1)) 32 7 (X 6 1) k = X k
          rw [up1, if_neg h1, up1, if_neg h3]
        · have hi := inc_bd (n := 12) (by decide) h.a6 hc
          and_intros <;> simp only [up1, updF_ap, Nat.reduceEqDiff, if_false, if_true, h.a1, h.b1, h.a3, h.b3, h.a8, h.b8, h.a10, h.b10, h.a12, h.b12, h.ap, h.bp]
          · exact hi.1
          · exact hi.2
        · show ip_up J 7 ((X 6 1).toNatClampNeg) y a = J a
          rw [up1, if_neg h1]
  · exact Ok.refl
theorem ok_new8 : Ok X I J (rNew X y I J 8 12) := by
  unfold rNew
  split
  · split
    · exact Ok.refl
    · split
      · exact Ok.refl
      · rename_i _ hc _
        refine ⟨fun k h1 h2 h3 h4 h5 h6 => ?_, fun h => Bd.u32 ?_ _ _, fun _ _ => rfl, fun a h1 h2 h3 h4 => ?_⟩
        · show ip_up (ip_up X 8 1 (X 8 1 + 1)) 32 7 (X 8 1) k = X k
          rw [up1, if_neg h1, up1, if_neg h4]
        · have hi := inc_bd (n := 12) (by decide) h.a8 hc
          and_intros <;> simp only [up1, updF_ap, Nat.reduceEqDiff, if_false, if_true, h.a1, h.b1, h.a3, h.b3, h.a6, h.b6, h.a10, h.b10, h.a12, h.b12, h.ap, h.bp]
          · exact hi.1
          · exact hi.2
        · show ip_up J 9 ((X 8 1).toNatClampNeg) y a = J a
          rw [up1, if_neg h2]
  · exact Ok.refl
theorem ok_new10 : Ok X I J (rNew X y I J 10 8) := by
  unfold rNew
  split
  · split
    · exact Ok.refl
    · split
      · exact Ok.refl
      · rename_i _ hc _
        refine ⟨fun k h1 h2 h3 h4 h5 h6 => ?_, fun h => Bd.u32 ?_ _ _, fun _ _ => rfl, fun a h1 h2 h3 h4 => ?_⟩
        · show ip_up (ip_up X 10 1 (X 10 1 + 1)) 32 7 (X 10 1) k = X k
          rw [up1, if_neg h1, up1, if_neg h5]
        · have hi := inc_bd (n := 8) (by decide) h.a10 hc
          and_intros <;> simp only [up1, updF_ap, Nat.reduceEqDiff, if_false, if_true, h.a1, h.b1, h.a3, h.b3, h.a6, h.b6, h.a8, h.b8, h.a12, h.b12, h.ap, h.bp]
          · exact hi.1
          · exact hi.2
        · show ip_up J 11 ((X 10 1).toNatClampNeg) y a = J a
          rw [up1, if_neg h3]
  · exact Ok.refl
theorem ok_new12 : Ok X I J (rNew X y I J 12 8) := by
  unfold rNew
  split
  · split
    · exact Ok.refl
    · split
      · exact Ok.refl
      · rename_i _ hc _
        refine ⟨fun k h1 h2 h3 h4 h5 h6 => ?_, fun h => Bd.u32 ?_ _ _, fun _ _ => rfl, fun a h1 h2 h3 h4 => ?_⟩
        · show ip_up (ip_up X 12 1 (X 12 1 + 1)) 32 7 (X 12 1) k = X k
          rw [up1, if_neg h1, up1, if_neg h6]
        · have hi := inc_bd (n := 8) (by decide) h.a12 hc
          and_intros <;> simp only [up1, updF_ap, Nat.reduceEqDiff, if_false, if_true, h.a1, h.b1, h.a3, h.b3, h.a6, h.b6, h.a8, h.b8, h.a10, h.b10, h.ap, h.bp]
          · exact hi.1
          · exact hi.2
        · show ip_up J 13 ((X 12 1).toNatClampNeg) y a = J a
          rw [up1, if_neg h4]
  · exact Ok.refl
theorem old_cases (c : Nat) : (rOld X y I J c = (2, X, I, J) ∧ ¬ X 33 3 = 2) ∨ (X 33 3 = 2 ∧ ∃ r, rOld X y I J c = (r, ip_up X 32 8 (nfi (J (c + 1)) y ((X c 1).toNatClampNeg) 0), I, J)) := by
  unfold rOld
  split
  · rename_i h
    right
    refine ⟨h, ?_⟩
    split
    · split <;> exact ⟨_, rfl⟩
    · exact ⟨_, rfl⟩
  · rename_i h
    exact Or.inl ⟨rfl, h⟩
theorem ok_old (c : Nat) : Ok X I J (rOld X y I J c) := by
  rcases old_cases (X := X) (y := y) (I := I) (J := J) c with ⟨e, _⟩ | ⟨_, r, e⟩
  · rw [e]; exact Ok.refl
  · rw [e]; exact Ok.u32 _ _
theorem ok_old' (c : Nat) (r : Int32) : Ok X I J (r, (rOld X y I J c).2.1, I, J) := by
  have h := ok_old (X := X) (y := y) (I := I) (J := J) c
  exact ⟨h.x, h.b, fun _ _ => rfl, fun _ _ _ _ _ => rfl⟩
theorem ok_task : Ok X I J (rTask X I J) := by
  unfold rTask
  split
  · exact Ok.refl
  · split
    · exact Ok.set (r := 0) Ok.refl (by decide) (by decide)
    · exact Ok.refl
theorem ok_wout (a : Nat) : Ok X I J (rWout X y I J a) := by
  unfold rWout
  split
  · split <;> exact Ok.then32 (ok_old' 6 0) _ _
  · exact ok_old 6
theorem ok_num {a n : Nat} {most : Int32} (h1 : 15 ≤ a) (h2 : a ≤ 31) : Ok X I J (rNum X I J a n most) := by
  unfold rNum
  split
  · split
    · exact Ok.refl
    · exact Ok.set (r := 0) Ok.refl h1 h2
  · exact Ok.refl
theorem ok_stg {a n : Nat} (h1 : 15 ≤ a) (h2 : a ≤ 31) : Ok X I J (rStg X y I J a n) := by
  unfold rStg
  split
  · exact Ok.set (r := 0) (ok_old' 8 0) h1 h2
  · exact ok_old 8
theorem ok_ps : Ok X I J (rPS X y I J) := by
  unfold rPS
  exact Ok.then32 (ok_old' 8 0) _ _
theorem ok_pe : Ok X I J (rPE X y I J) := by
  unfold rPE
  split
  · exact Ok.refl
  · rename_i hf
    split
    · rename_i h0
      split
      · exact ok_old' 8 7
      · have ho := ok_old' (X := X) (y := y) (I := I) (J := J) 8 0
        refine ⟨fun k h1 h2 h3 h4 h5 h6 => ?_, fun h => ?_, fun a ha => ?_, fun _ _ _ _ _ => rfl⟩
        · show ip_up (rOld X y I J 8).2.1 5 13 _ k = X k
          rw [up1, if_neg h2]
          exact ho.x k h1 h2 h3 h4 h5 h6
        · have hb := ho.b h
          rcases old_cases (X := X) (y := y) (I := I) (J := J) 8 with ⟨e, _⟩ | ⟨hk, r, e⟩
          · rw [e] at h0
            exact absurd (show (2 : Int32) = 0 from h0) (by decide)
          · have hc : ¬ (24 : Int32) ≤ X 5 13 := fun q => hf ⟨hk, q⟩
            rw [e] at hb ⊢
            have hi := inc_bd (n := 24) (by decide) h.ap hc
            have hb : Bd (ip_up X 32 8 (nfi (J (8 + 1)) y ((X 8 1).toNatClampNeg) 0)) := hb
            show Bd (ip_up (ip_up X 32 8 (nfi (J (8 + 1)) y ((X 8 1).toNatClampNeg) 0)) 5 13 (ip_up X 32 8 (nfi (J (8 + 1)) y ((X 8 1).toNatClampNeg) 0) 5 13 + 1))
            and_intros <;> simp only [up1, updF_ap, Nat.reduceEqDiff, if_false, if_true, h.a1, h.b1, h.a3, h.b3, h.a6, h.b6, h.a8, h.b8, h.a10, h.b10, h.a12, h.b12]
            · exact hi.1
            · exact hi.2
        · show rset (rset I 23 24 _ _) 25 24 _ _ a = I a
          rw [rset_ne (by omega), rset_ne (by omega)]
    · exact ok_old 8
theorem ok_stall : Ok X I J (rStall X y I J) := by
  unfold rStall
  split
  · split
    · exact Ok.set (r := 0) (ok_old' 6 0) (by decide) (by decide)
    · exact ok_old' 6 7
  · exact ok_old 6
theorem ok_prt : Ok X I J (rPrt X y I J) := by
  unfold rPrt
  split
  · split
    · exact ok_old' 6 7
    · exact Ok.set (r := 0) (ok_old' 6 0) (by decide) (by decide)
  · exact ok_old 6
theorem ok_open : Ok X I J (rOpen X I J) := by
  unfold rOpen
  split
  · exact Ok.then32 (r := 0) (Ok.u32 _ _) _ _
  · exact Ok.refl
theorem ok_part {st p : Int32} : Ok X I J (rPart X y I J st p) := by
  unfold rPart
  (repeat' split)
  · unfold pClass; split
    · exact ok_new6
    · exact ok_comma
  · unfold pStage; (repeat' split)
    · exact ok_new8
    · exact ok_word
    · exact ok_task
    · exact ok_comma
  · unfold pLat; (repeat' split)
    · exact ok_wout 15
    · exact ok_sign
    · exact ok_num (by decide) (by decide)
    · exact ok_close
  · unfold pRes; (repeat' split)
    · exact ok_wout 17
    · exact ok_sign
    · exact ok_stg (by decide) (by decide)
    · exact ok_close
  · unfold pPath; (repeat' split)
    · exact ok_ps
    · exact ok_sign
    · exact ok_pe
    · exact ok_close
  · unfold pStall; split
    · exact ok_stall
    · exact ok_comma
  · unfold pQue; (repeat' split)
    · exact ok_new10
    · exact ok_sign
    · exact ok_num (by decide) (by decide)
    · exact ok_word
    · exact ok_stg (by decide) (by decide)
    · exact ok_close
  · unfold pPort; (repeat' split)
    · exact ok_new12
    · exact ok_sign
    · exact ok_prt
    · exact ok_comma
  · exact ok_open
theorem ok_take : Ok X I J (rTake X y I J) := by
  unfold rTake
  split
  · exact Ok.refl
  · exact Ok.from32 ok_part
end
/-- the fault's number and place are left alone by a step -/
def K34 (X : Nat → Nat → Int32) (r : RS) : Prop := r.2.1 32 3 = X 32 3 ∧ r.2.1 32 4 = X 32 4
section
variable {X : Nat → Nat → Int32} {y : Int64} {I : Nat → Nat → Int32} {J : Nat → Nat → Int64}
theorem ko3 {c : Nat} : (rOld X y I J c).2.1 32 3 = X 32 3 := by
  unfold rOld
  (repeat' split) <;> simp [up1, updF_ap]
theorem ko4 {c : Nat} : (rOld X y I J c).2.1 32 4 = X 32 4 := by
  unfold rOld
  (repeat' split) <;> simp [up1, updF_ap]
theorem k_new {c : Nat} {m : Int32} (hc : ¬ 32 = c) : K34 X (rNew X y I J c m) := by
  unfold rNew
  (repeat' split) <;> simp [K34, up1, updF_ap, hc]
theorem k_close : K34 X (rClose X I J) := by
  unfold rClose
  (repeat' split) <;> simp [K34, up1, updF_ap]
theorem k_comma {e : Int32} : K34 X (rComma X I J e) := by
  unfold rComma
  split
  · simp [K34, up1, updF_ap]
  · exact k_close
theorem k_word {w : Int32} : K34 X (rWord X I J w) := by
  unfold rWord
  split
  · simp [K34]
  · exact k_close
theorem k_sign {c : Int32} : K34 X (rSign X I J c) := by
  unfold rSign
  (repeat' split) <;> simp [K34]
theorem k_task : K34 X (rTask X I J) := by
  unfold rTask
  (repeat' split) <;> simp [K34]
theorem k_wout {a : Nat} : K34 X (rWout X y I J a) := by
  unfold rWout
  (repeat' split) <;> simp [K34, up1, updF_ap, ko3, ko4]
theorem k_num {a n : Nat} {m : Int32} : K34 X (rNum X I J a n m) := by
  unfold rNum
  (repeat' split) <;> simp [K34]
theorem k_stg {a n : Nat} : K34 X (rStg X y I J a n) := by
  unfold rStg
  (repeat' split) <;> simp [K34, ko3, ko4]
theorem k_ps : K34 X (rPS X y I J) := by
  unfold rPS
  simp [K34, up1, updF_ap, ko3, ko4]
theorem k_pe : K34 X (rPE X y I J) := by
  unfold rPE
  (repeat' split) <;> simp [K34, up1, updF_ap, ko3, ko4]
theorem k_stall : K34 X (rStall X y I J) := by
  unfold rStall
  (repeat' split) <;> simp [K34, ko3, ko4]
theorem k_prt : K34 X (rPrt X y I J) := by
  unfold rPrt
  (repeat' split) <;> simp [K34, ko3, ko4]
theorem k_open : K34 X (rOpen X I J) := by
  unfold rOpen
  (repeat' split) <;> simp [K34, up1, updF_ap]
theorem k_part {st p : Int32} : K34 X (rPart X y I J st p) := by
  unfold rPart
  by_cases h256 : st = 256
  · rw [if_pos h256]
    unfold pClass
    by_cases q0 : p = 0
    · rw [if_pos q0]; exact k_new (by decide)
    rw [if_neg q0]
    exact k_comma
  rw [if_neg h256]
  by_cases h257 : st = 257
  · rw [if_pos h257]
    unfold pStage
    by_cases q0 : p = 0
    · rw [if_pos q0]; exact k_new (by decide)
    rw [if_neg q0]
    by_cases q1 : p = 1
    · rw [if_pos q1]; exact k_word
    rw [if_neg q1]
    by_cases q2 : p = 2
    · rw [if_pos q2]; exact k_task
    rw [if_neg q2]
    exact k_comma
  rw [if_neg h257]
  by_cases h259 : st = 259
  · rw [if_pos h259]
    unfold pLat
    by_cases q0 : p = 0
    · rw [if_pos q0]; exact k_wout
    rw [if_neg q0]
    by_cases q1 : p = 1
    · rw [if_pos q1]; exact k_sign
    rw [if_neg q1]
    by_cases q2 : p = 2
    · rw [if_pos q2]; exact k_num
    rw [if_neg q2]
    exact k_close
  rw [if_neg h259]
  by_cases h260 : st = 260
  · rw [if_pos h260]
    unfold pRes
    by_cases q0 : p = 0
    · rw [if_pos q0]; exact k_wout
    rw [if_neg q0]
    by_cases q1 : p = 1
    · rw [if_pos q1]; exact k_sign
    rw [if_neg q1]
    by_cases q2 : p = 2
    · rw [if_pos q2]; exact k_stg
    rw [if_neg q2]
    exact k_close
  rw [if_neg h260]
  by_cases h261 : st = 261
  · rw [if_pos h261]
    unfold pPath
    by_cases q0 : p = 0
    · rw [if_pos q0]; exact k_ps
    rw [if_neg q0]
    by_cases q1 : p = 1
    · rw [if_pos q1]; exact k_sign
    rw [if_neg q1]
    by_cases q2 : p = 2
    · rw [if_pos q2]; exact k_pe
    rw [if_neg q2]
    exact k_close
  rw [if_neg h261]
  by_cases h262 : st = 262
  · rw [if_pos h262]
    unfold pStall
    by_cases q0 : p = 0
    · rw [if_pos q0]; exact k_stall
    rw [if_neg q0]
    exact k_comma
  rw [if_neg h262]
  by_cases h263 : st = 263
  · rw [if_pos h263]
    unfold pQue
    by_cases q0 : p = 0
    · rw [if_pos q0]; exact k_new (by decide)
    rw [if_neg q0]
    by_cases q1 : p = 1
    · rw [if_pos q1]; exact k_sign
    rw [if_neg q1]
    by_cases q2 : p = 2
    · rw [if_pos q2]; exact k_num
    rw [if_neg q2]
    by_cases q3 : p = 3
    · rw [if_pos q3]; exact k_word
    rw [if_neg q3]
    by_cases q4 : p = 4
    · rw [if_pos q4]; exact k_stg
    rw [if_neg q4]
    exact k_close
  rw [if_neg h263]
  by_cases h265 : st = 265
  · rw [if_pos h265]
    unfold pPort
    by_cases q0 : p = 0
    · rw [if_pos q0]; exact k_new (by decide)
    rw [if_neg q0]
    by_cases q1 : p = 1
    · rw [if_pos q1]; exact k_sign
    rw [if_neg q1]
    by_cases q2 : p = 2
    · rw [if_pos q2]; exact k_prt
    rw [if_neg q2]
    exact k_comma
  rw [if_neg h265]
  exact k_open
theorem k_take : K34 X (rTake X y I J) := by
  unfold rTake
  split
  · simp [K34]
  · have h := k_part (X := ip_up X 32 6 (X 32 6 + 1)) (y := y) (I := I) (J := J) (st := X 32 5) (p := X 32 6)
    have e3 : ip_up X 32 6 (X 32 6 + 1) 32 3 = X 32 3 := by simp [up1, updF_ap]
    have e4 : ip_up X 32 6 (X 32 6 + 1) 32 4 = X 32 4 := by simp [up1, updF_ap]
    exact ⟨h.1.trans e3, h.2.trans e4⟩
end
/-- X, y, I, J -/
abbrev SS : Type := (Nat → Nat → Int32) × Int64 × (Nat → Nat → Int32) × (Nat → Nat → Int64)
def hpS (s : SS) : ip_H := (g0, fld s.1 s.2.1, s.2.2.1, s.2.2.2)
def lexS (s : SS) : Lx := lexH s.1 s.2.1 s.2.2.1 s.2.2.2
def advS (s : SS) : SS := (lxX s.1 (lexS s), (lexS s).key, s.2.2.1, s.2.2.2)
def takeS (s : SS) : RS := rTake s.1 s.2.1 s.2.2.1 s.2.2.2
/-- behind a step -/
def nexS (s : SS) : SS := ((takeS s).2.1, s.2.1, (takeS s).2.2.1, (takeS s).2.2.2)
def failS (s : SS) (r : Int32) : SS := (coX (ip_up (ip_up s.1 32 3 r) 32 4 (s.1 33 4)), s.2.1, coI s.2.2.1, s.2.2.2)
/-- the end of the reading, the lexeme in hand -/
def rn1 (f : SS → SS) (s : SS) : SS := if s.1 33 3 = 1 ∧ s.1 32 5 = -1 then s else if (takeS s).1 = 0 then f (nexS s) else failS (nexS s) (takeS s).1
def rn : Nat → SS → SS
  | 0, s => s
  | m + 1, s => rn1 (rn m) (advS s)
abbrev Rv (N : Nat) (s : SS) : Prop := (N ≤ 4160) ∧ (Bd s.1) ∧ (s.1 1 1 = nI N) ∧ (0 ≤ s.1 33 2) ∧ ((s.1 33 2).toNatClampNeg ≤ N) ∧ (s.1 32 3 = 0) ∧ (s.1 32 4 = 0)
theorem Rv.l {N : Nat} {s : SS} (h : Rv N s) : N ≤ 4160 := h.1
theorem Rv.b {N : Nat} {s : SS} (h : Rv N s) : Bd s.1 := h.2.1
theorem Rv.n {N : Nat} {s : SS} (h : Rv N s) : s.1 1 1 = nI N := h.2.2.1
theorem Rv.p {N : Nat} {s : SS} (h : Rv N s) : 0 ≤ s.1 33 2 := h.2.2.2.1
theorem Rv.q {N : Nat} {s : SS} (h : Rv N s) : (s.1 33 2).toNatClampNeg ≤ N := h.2.2.2.2.1
theorem Rv.f3 {N : Nat} {s : SS} (h : Rv N s) : s.1 32 3 = 0 := h.2.2.2.2.2.1
theorem Rv.f4 {N : Nat} {s : SS} (h : Rv N s) : s.1 32 4 = 0 := h.2.2.2.2.2.2
theorem Rv.c {N : Nat} {s : SS} (h : Rv N s) : (s.1 1 1).toNatClampNeg = N := by
  have := h.l
  rw [h.n]
  exact nI_clamp (by omega)
theorem lexT_le {T : Nat → Int32} {W : Nat → Int64} {n p : Nat} {y : Int64} {v : Int32} (h : p ≤ n) : p ≤ (lexT T W n p y v).place ∧ (lexT T W n p y v).place ≤ (lexT T W n p y v).next ∧ (lexT T W n p y v).next ≤ n := by
  have hs := sw_ge T (n - p) p false
  unfold lexT
  generalize swT T (n - p) p false = p0 at hs
  have h1 := tnm_ge T (n - p0) p0 0
  have h2 := tnb_ge T (n - p0) p0 0
  simp only []
  split
  · exact ⟨by show p ≤ p0; omega, Nat.le_refl p0, by show p0 ≤ n; omega⟩
  · split
    · exact ⟨by show p ≤ p0; omega, by show p0 ≤ (tnm T (n - p0) p0 0).1; omega, by show (tnm T (n - p0) p0 0).1 ≤ n; omega⟩
    · split
      · exact ⟨by show p ≤ p0; omega, by show p0 ≤ (tnb T (n - p0) p0 0).1; omega, by show (tnb T (n - p0) p0 0).1 ≤ n; omega⟩
      · split
        · exact ⟨by show p ≤ p0; omega, by show p0 ≤ p0 + 1; omega, by show p0 + 1 ≤ n; omega⟩
        · exact ⟨by show p ≤ p0; omega, by show p0 ≤ p0; omega, by show p0 ≤ n; omega⟩
theorem lxX_ne {X : Nat → Nat → Int32} {l : Lx} {k : Nat} (h : k ≠ 33) : lxX X l k = X k := by
  simp only [lxX, up1, h, if_false]
theorem lxX_2 {X : Nat → Nat → Int32} {l : Lx} : lxX X l 33 2 = nI l.next := by simp [lxX, up1, updF_ap]
theorem lxX_3 {X : Nat → Nat → Int32} {l : Lx} : lxX X l 33 3 = l.kind := by simp [lxX, up1, updF_ap]
theorem lxX_4 {X : Nat → Nat → Int32} {l : Lx} : lxX X l 33 4 = nI l.place := by simp [lxX, up1, updF_ap]
theorem lxX_6 {X : Nat → Nat → Int32} {l : Lx} : lxX X l 33 6 = l.num := by simp [lxX, up1, updF_ap]
theorem Bd.of {X X' : Nat → Nat → Int32} (h : Bd X) (e : ∀ k, k = 1 ∨ k = 3 ∨ k = 5 ∨ k = 6 ∨ k = 8 ∨ k = 10 ∨ k = 12 → X' k = X k) : Bd X' := by
  and_intros
  · rw [e 1 (by omega)]; exact h.a1
  · rw [e 1 (by omega)]; exact h.b1
  · rw [e 3 (by omega)]; exact h.a3
  · rw [e 3 (by omega)]; exact h.b3
  · rw [e 6 (by omega)]; exact h.a6
  · rw [e 6 (by omega)]; exact h.b6
  · rw [e 8 (by omega)]; exact h.a8
  · rw [e 8 (by omega)]; exact h.b8
  · rw [e 10 (by omega)]; exact h.a10
  · rw [e 10 (by omega)]; exact h.b10
  · rw [e 12 (by omega)]; exact h.a12
  · rw [e 12 (by omega)]; exact h.b12
  · rw [e 5 (by omega)]; exact h.ap
  · rw [e 5 (by omega)]; exact h.bp
theorem Bd.lx {X : Nat → Nat → Int32} (h : Bd X) (l : Lx) : Bd (lxX X l) := h.of (fun k hk => lxX_ne (by omega))
theorem lexS_le {N : Nat} {s : SS} (h : Rv N s) : (s.1 33 2).toNatClampNeg ≤ (lexS s).place ∧ (lexS s).place ≤ (lexS s).next ∧ (lexS s).next ≤ N := by
  have := lexT_le (T := txt s.2.2.1) (W := s.2.2.2 35) (n := (s.1 1 1).toNatClampNeg) (p := (s.1 33 2).toNatClampNeg) (y := s.2.1) (v := s.1 33 6) (by rw [h.c]; exact h.q)
  rw [h.c] at this
  unfold lexS lexH
  rw [h.c]
  exact this
theorem Rv.adv {N : Nat} {s : SS} (h : Rv N s) : Rv N (advS s) := by
  have hl := lexS_le h
  have hN := h.l
  refine ⟨h.l, h.b.lx _, ?_, ?_, ?_, (by show lxX s.1 (lexS s) 32 3 = 0; rw [lxX_ne (by decide)]; exact h.f3), (by show lxX s.1 (lexS s) 32 4 = 0; rw [lxX_ne (by decide)]; exact h.f4)⟩
  · show lxX s.1 (lexS s) 1 1 = nI N
    rw [lxX_ne (by decide)]; exact h.n
  · show 0 ≤ lxX s.1 (lexS s) 33 2
    rw [lxX_2]; exact nI_pos' (by omega)
  · show (lxX s.1 (lexS s) 33 2).toNatClampNeg ≤ N
    rw [lxX_2, nI_clamp (by omega)]; exact hl.2.2
theorem Rv.nex {N : Nat} {s : SS} (h : Rv N s) : Rv N (nexS s) := by
  have ho : Ok s.1 s.2.2.1 s.2.2.2 (takeS s) := ok_take
  have hk : K34 s.1 (takeS s) := k_take
  refine ⟨h.l, ho.b h.b, ?_, ?_, ?_, hk.1.trans h.f3, hk.2.trans h.f4⟩
  · show (takeS s).2.1 1 1 = nI N
    rw [ho.x 1 (by decide) (by decide) (by decide) (by decide) (by decide) (by decide)]; exact h.n
  · show 0 ≤ (takeS s).2.1 33 2
    rw [ho.x 33 (by decide) (by decide) (by decide) (by decide) (by decide) (by decide)]; exact h.p
  · show ((takeS s).2.1 33 2).toNatClampNeg ≤ N
    rw [ho.x 33 (by decide) (by decide) (by decide) (by decide) (by decide) (by decide)]; exact h.q
section
variable {b : ip_B} {post : Option Value → ip_H → Prop} {px : String → ip_H → Prop}
theorem rd_loop {N : Nat} : ∀ (m i : Nat) (s : SS) (x2 : Option Value), i + m = N + 1 → Rv N s → (ip_WP 163 13 [some (.ref 32), some (.int (nI i)), x2] [] (hpS s) b post px ↔ post none (hpS (rn m s))) := by
  intro m
  induction m with
  | zero =>
    intro i s x2 hi hR
    have hN := hR.l
    obtain ⟨X, y, I, J⟩ := s
    have c1 : X 1 1 < nI i := by rw [show X 1 1 = nI N from hR.n]; exact nI_lt (by omega) (by omega)
    show ip_WP _ _ _ _ (g0, fld X y, I, J) _ _ _ ↔ post none (g0, fld X y, I, J)
    rw [s163_13]
    simp only [s163_0, s163_1, s163_4, s163_7, s163_8, s163_11, s163_12, s163_14, s163_15, s163_18, s163_21, s163_24, s163_25, s163_28, s163_31, s163_32, s163_35, s163_38, s163_39, s163_42, s163_43, s163_46, s163_47, s163_50, s163_51, s163_52, s163_55, s163_56, s163_57, s163_60, s163_61, s163_62, s163_65, s163_66, s163_67, s163_70, s163_73, s163_76, s163_77, s163_80, s163_83, s163_84, s163_87, s163_90, f_1_0, f_1_1, u_1_1, f_32_0, f_32_1, f_32_2, f_32_3, u_32_3, f_32_4, u_32_4, f_32_5, u_32_5, f_32_6, u_32_6, f_32_7, u_32_7, f_32_8, u_32_8, o_1, o_32, bs_1, c1, Option.toList_some, Option.toList_none, List.cons_append, List.nil_append, List.append_nil, ip_on_some, true_and, and_true, if_true, if_false, not_true_eq_false, not_false_eq_true, decide_true, true_or, or_true, or_self, Bool.false_eq_true]
  | succ m ih =>
    intro i s x2 hi hR
    have hN := hR.l
    have hc := hR.c
    have hA := hR.adv
    have hT := hA.nex
    have ih' := fun x2 => ih (i + 1) (nexS (advS s)) x2 (by omega) hT
    obtain ⟨X, y, I, J⟩ := s
    have c1 : ¬ X 1 1 < nI i := by rw [show X 1 1 = nI N from hR.n]; exact nI_nlt (by omega) (by omega)
    have hb : Bd (lxX X (lexH X y I J)) := hA.b
    show ip_WP _ _ _ _ (g0, fld X y, I, J) _ _ _ ↔ post none (hpS (rn1 (rn m) (lxX X (lexH X y I J), (lexH X y I J).key, I, J)))
    have ih'' : ∀ x2, (ip_WP 163 13 [some (.ref 32), some (.int (nI (i + 1))), x2] [] (g0, fld (rTake (lxX X (lexH X y I J)) (lexH X y I J).key I J).2.1 (lexH X y I J).key, (rTake (lxX X (lexH X y I J)) (lexH X y I J).key I J).2.2.1, (rTake (lxX X (lexH X y I J)) (lexH X y I J).key I J).2.2.2) b post px ↔ post none (hpS (rn m (nexS (lxX X (lexH X y I J), (lexH X y I J).key, I, J))))) := ih'
    rw [s163_13]
    simp only [s163_0, s163_1, s163_4, s163_7, s163_8, s163_11, s163_12, s163_14, s163_15, s163_18, s163_21, s163_24, s163_25, s163_28, s163_31, s163_32, s163_35, s163_38, s163_39, s163_42, s163_43, s163_46, s163_47, s163_50, s163_51, s163_52, s163_55, s163_56, s163_57, s163_60, s163_61, s163_62, s163_65, s163_66, s163_67, s163_70, s163_73, s163_76, s163_77, s163_80, s163_83, s163_84, s163_87, s163_90, f_1_0, f_1_1, u_1_1, f_5_0, f_5_1, f_5_2, f_5_3, f_5_4, f_5_5, f_5_6, f_5_7, f_5_8, f_5_9, f_5_10, f_5_11, f_5_12, f_5_13, u_5_13, f_5_14, u_5_14, f_32_0, f_32_1, f_32_2, f_32_3, u_32_3, f_32_4, u_32_4, f_32_5, u_32_5, f_32_6, u_32_6, f_32_7, u_32_7, f_32_8, u_32_8, f_33_0, f_33_1, f_33_2, u_33_2, f_33_3, u_33_3, f_33_4, u_33_4, f_33_5, u_33_5, f_33_6, u_33_6, o_1, o_5, o_32, o_33, bs_1, c1, lx_adv hR.b.a1 hR.b.b1 hR.p (by rw [hc]; exact hR.q : (X 33 2).toNatClampNeg ≤ (X 1 1).toNatClampNeg), lx_kind, lx_place, rd_take hb, co_clear, nI_1, ih'', Option.toList_some, Option.toList_none, List.cons_append, List.nil_append, List.append_nil, ip_on_some, true_and, and_true, if_true, if_false, not_true_eq_false, not_false_eq_true, decide_true, true_or, or_true, or_self, Bool.false_eq_true]
    unfold rn1
    by_cases k1 : lxX X (lexH X y I J) 33 3 = 1
    · by_cases k2 : lxX X (lexH X y I J) 32 5 = -1
      · simp only [k1, k2, Option.toList_some, Option.toList_none, List.cons_append, List.nil_append, List.append_nil, ip_on_some, true_and, and_true, if_true, if_false, not_true_eq_false, not_false_eq_true, decide_true, true_or, or_true, or_self, Bool.false_eq_true, and_self]
        exact Iff.rfl
      · by_cases k3 : (rTake (lxX X (lexH X y I J)) (lexH X y I J).key I J).1 = 0
        · simp only [k1, k2, k3, takeS, Option.toList_some, Option.toList_none, List.cons_append, List.nil_append, List.append_nil, ip_on_some, true_and, and_true, if_true, if_false, not_true_eq_false, not_false_eq_true, decide_true, true_or, or_true, or_self, Bool.false_eq_true, and_false]
        · simp only [k1, k2, k3, takeS, Option.toList_some, Option.toList_none, List.cons_append, List.nil_append, List.append_nil, ip_on_some, true_and, and_true, if_true, if_false, not_true_eq_false, not_false_eq_true, decide_true, true_or, or_true, or_self, Bool.false_eq_true, and_false]
          exact Iff.rfl
    · by_cases k3 : (rTake (lxX X (lexH X y I J)) (lexH X y I J).key I J).1 = 0
      · simp only [k1, k3, takeS, Option.toList_some, Option.toList_none, List.cons_append, List.nil_append, List.append_nil, ip_on_some, true_and, and_true, if_true, if_false, not_true_eq_false, not_false_eq_true, decide_true, true_or, or_true, or_self, Bool.false_eq_true, false_and]
      · simp only [k1, k3, takeS, Option.toList_some, Option.toList_none, List.cons_append, List.nil_append, List.append_nil, ip_on_some, true_and, and_true, if_true, if_false, not_true_eq_false, not_false_eq_true, decide_true, true_or, or_true, or_self, Bool.false_eq_true, false_and]
        exact Iff.rfl
theorem rbX_ne {X : Nat → Nat → Int32} {k : Nat} (h1 : k ≠ 32) (h2 : k ≠ 33) : rbX X k = X k := by
  simp only [rbX, bgX, up1, h1, h2, if_false]
theorem coX_ne {X : Nat → Nat → Int32} {k : Nat} (h1 : k ≠ 5) (h2 : k ≠ 6) (h3 : k ≠ 8) (h4 : k ≠ 10) (h5 : k ≠ 12) : coX X k = X k := by
  simp only [coX, up1, h1, h2, h3, h4, h5, if_false]
theorem Bd.co {X : Nat → Nat → Int32} (h : Bd X) : Bd (coX X) := by
  and_intros <;> simp only [coX, up1, updF_ap, Nat.reduceEqDiff, if_false, if_true, h.a1, h.b1, h.a3, h.b3] <;> decide
theorem Bd.rb {X : Nat → Nat → Int32} (h : Bd X) : Bd (rbX X) := h.of (fun k hk => rbX_ne (by omega) (by omega))
/-- where the reading begins -/
def beg (X : Nat → Nat → Int32) (I : Nat → Nat → Int32) (J : Nat → Nat → Int64) : SS := (rbX (coX X), 0, coI I, J)
theorem Rv.beg {N : Nat} {X : Nat → Nat → Int32} (I : Nat → Nat → Int32) (J : Nat → Nat → Int64) (hb : Bd X) (hl : N ≤ 4160) (hn : X 1 1 = nI N) : Rv N (beg X I J) := by
  refine ⟨hl, hb.co.rb, ?_, ?_, ?_, (by show rbX (coX X) 32 3 = 0; simp [rbX, up1, updF_ap]), (by show rbX (coX X) 32 4 = 0; simp [rbX, up1, updF_ap])⟩
  · show rbX (coX X) 1 1 = nI N
    rw [rbX_ne (by decide) (by decide), coX_ne (by decide) (by decide) (by decide) (by decide) (by decide)]; exact hn
  · show 0 ≤ rbX (coX X) 33 2
    simp [rbX, bgX, up1, updF_ap]
  · show (rbX (coX X) 33 2).toNatClampNeg ≤ N
    simp [rbX, bgX, up1, updF_ap]
theorem rd_read {X : Nat → Nat → Int32} {y : Int64} {I : Nat → Nat → Int32} {J : Nat → Nat → Int64} {N : Nat} (hb : Bd X) (hl : N ≤ 4160) (hn : X 1 1 = nI N) : ip_WP 163 0 [some (.ref 32), none, none] [] (g0, fld X y, I, J) b post px ↔ post none (hpS (rn (N + 1) (beg X I J))) := by
  have h := rd_loop (b := b) (post := post) (px := px) (N + 1) 0 (beg X I J) none (Nat.zero_add _) (Rv.beg I J hb hl hn)
  rw [nI_0] at h
  have h' : ip_WP 163 13 [some (.ref 32), some (.int 0), none] [] (g0, fld (rbX (coX X)) 0, coI I, J) b post px ↔ post none (hpS (rn (N + 1) (beg X I J))) := h
  simp only [s163_0, s163_1, s163_4, s163_7, s163_8, s163_11, s163_12, f_5_0, f_5_1, f_5_2, f_5_3, f_5_4, f_5_5, f_5_6, f_5_7, f_5_8, f_5_9, f_5_10, f_5_11, f_5_12, f_5_13, u_5_13, f_5_14, u_5_14, f_32_0, f_32_1, f_32_2, f_32_3, u_32_3, f_32_4, u_32_4, f_32_5, u_32_5, f_32_6, u_32_6, f_32_7, u_32_7, f_32_8, u_32_8, o_5, o_32, co_clear, rd_begin, Option.toList_some, Option.toList_none, List.cons_append, List.nil_append, List.append_nil, ip_on_some, true_and, and_true, if_true, if_false, not_true_eq_false, not_false_eq_true, decide_true, true_or, or_true, or_self, Bool.false_eq_true]
  exact h'
end
