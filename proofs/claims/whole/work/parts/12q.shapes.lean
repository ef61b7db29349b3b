/-! one instruction at a time, the shapes that the printed rows use -/
section IPSH
variable {mi pc len : Nat} {L : ip_Lo} {S : List Value} {h : ip_H} {b : ip_B} {post : Option Value → ip_H → Prop} {px : String → ip_H → Prop}
variable {G : List ip_K} {F : Nat → Nat → Value} {I : Nat → Nat → Int32} {J : Nat → Nat → Int64}
def ip_on {α : Type} (o : Option α) (f : α → Prop) : Prop := match o with
  | some x => f x
  | none => False
theorem ip_on_some {α : Type} {x : α} {f : α → Prop} : ip_on (some x) f ↔ f x := Iff.rfl
theorem ip_s_iconst {n : Int} {v : Int32} (hf : ip_fetch mi pc = some (.iconst n, len)) (hv : Int32.ofInt n = v) : ip_WP mi pc L S h b post px ↔ ip_WP mi (pc + 1) L (.int v :: S) h b post px := by
  subst hv; exact ip_nx_iff ((ip_st_of hf).trans rfl)
theorem ip_s_bipush {n : Int} {v : Int32} (hf : ip_fetch mi pc = some (.bipush n, len)) (hv : (Int8.ofInt n).toInt32 = v) : ip_WP mi pc L S h b post px ↔ ip_WP mi (pc + 2) L (.int v :: S) h b post px := by
  subst hv; exact ip_nx_iff ((ip_st_of hf).trans rfl)
theorem ip_s_sipush {n : Int} {v : Int32} (hf : ip_fetch mi pc = some (.sipush n, len)) (hv : (Int16.ofInt n).toInt32 = v) : ip_WP mi pc L S h b post px ↔ ip_WP mi (pc + 3) L (.int v :: S) h b post px := by
  subst hv; exact ip_nx_iff ((ip_st_of hf).trans rfl)
theorem ip_s_lconst {n : Fin 2} {v : Int64} (hf : ip_fetch mi pc = some (.lconst n, len)) (hv : Int64.ofNat n.val = v) : ip_WP mi pc L S h b post px ↔ ip_WP mi (pc + 1) L (.long v :: S) h b post px := by
  subst hv; exact ip_nx_iff ((ip_st_of hf).trans rfl)
theorem ip_s_iinc {i : Nat} {n : Int} {x v : Int32} (hf : ip_fetch mi pc = some (.iinc i n, len)) (hl : L[i]? = some (some (.int x))) (hv : Int32.ofInt n = v) : ip_WP mi pc L S h b post px ↔ ip_WP mi (pc + 3) (ip_stI mi L i (some (.int (x + v)))) S h b post px := by
  subst hv
  refine ip_nx_iff ((ip_st_of hf).trans ?_)
  show (match L[i]? with
    | some (some (.int x)) => ip_nx (pc + 3) (ip_stI mi L i (some (.int (x + Int32.ofInt n)))) S h b
    | _ => none) = _
  rw [hl]
theorem ip_s_div {c : Prop} {dc : Decidable c} {pc' : Nat} {L' : ip_Lo} {S' : List Value} {h' : ip_H} {b' : ip_B} (hs : ip_st mi pc L S h b = ite c none (ip_nx pc' L' S' h' b')) : ip_WP mi pc L S h b post px ↔ (¬ c ∧ ip_WP mi pc' L' S' h' b' post px) := by
  by_cases hc : c
  · rw [if_pos hc] at hs
    rw [ip_no_iff hs]
    exact ⟨fun q => q.elim, fun q => q.1 hc⟩
  · rw [if_neg hc] at hs
    rw [ip_nx_iff hs]
    exact ⟨fun q => ⟨hc, q⟩, fun q => q.2⟩
theorem ip_s_if_eq {off : Int} {t : Nat} {x : Int32} (hf : ip_fetch mi pc = some (.ifCond .eq off, len)) (ht : ip_to pc off = some t) : ip_WP mi pc L (.int x :: S) h b post px ↔ if x = 0 then ip_WP mi t L S h b post px else ip_WP mi (pc + 3) L S h b post px := by
  have hs : ip_st mi pc L (.int x :: S) h b = ip_nx (if ip_cnd .eq x 0 = true then t else pc + 3) L S h b := by
    refine (ip_st_of hf).trans ?_
    show (match ip_to pc off with
      | some t => ip_nx (if ip_cnd .eq x 0 = true then t else pc + 3) L S h b
      | none => none) = _
    rw [ht]
  rw [ip_nx_iff hs]
  by_cases hc : x = 0
  · rw [if_pos hc, if_pos (by simpa [ip_cnd] using hc)]
  · rw [if_neg hc, if_neg (by simpa [ip_cnd] using hc)]
theorem ip_s_if_ne {off : Int} {t : Nat} {x : Int32} (hf : ip_fetch mi pc = some (.ifCond .ne off, len)) (ht : ip_to pc off = some t) : ip_WP mi pc L (.int x :: S) h b post px ↔ if ¬ x = 0 then ip_WP mi t L S h b post px else ip_WP mi (pc + 3) L S h b post px := by
  have hs : ip_st mi pc L (.int x :: S) h b = ip_nx (if ip_cnd .ne x 0 = true then t else pc + 3) L S h b := by
    refine (ip_st_of hf).trans ?_
    show (match ip_to pc off with
      | some t => ip_nx (if ip_cnd .ne x 0 = true then t else pc + 3) L S h b
      | none => none) = _
    rw [ht]
  rw [ip_nx_iff hs]
  by_cases hc : ¬ x = 0
  · rw [if_pos hc, if_pos (by simpa [ip_cnd] using hc)]
  · rw [if_neg hc, if_neg (by simpa [ip_cnd] using hc)]
theorem ip_s_if_lt {off : Int} {t : Nat} {x : Int32} (hf : ip_fetch mi pc = some (.ifCond .lt off, len)) (ht : ip_to pc off = some t) : ip_WP mi pc L (.int x :: S) h b post px ↔ if x < 0 then ip_WP mi t L S h b post px else ip_WP mi (pc + 3) L S h b post px := by
  have hs : ip_st mi pc L (.int x :: S) h b = ip_nx (if ip_cnd .lt x 0 = true then t else pc + 3) L S h b := by
    refine (ip_st_of hf).trans ?_
    show (match ip_to pc off with
      | some t => ip_nx (if ip_cnd .lt x 0 = true then t else pc + 3) L S h b
      | none => none) = _
    rw [ht]
  rw [ip_nx_iff hs]
  by_cases hc : x < 0
  · rw [if_pos hc, if_pos (by simpa [ip_cnd] using hc)]
  · rw [if_neg hc, if_neg (by simpa [ip_cnd] using hc)]
theorem ip_s_if_ge {off : Int} {t : Nat} {x : Int32} (hf : ip_fetch mi pc = some (.ifCond .ge off, len)) (ht : ip_to pc off = some t) : ip_WP mi pc L (.int x :: S) h b post px ↔ if 0 ≤ x then ip_WP mi t L S h b post px else ip_WP mi (pc + 3) L S h b post px := by
  have hs : ip_st mi pc L (.int x :: S) h b = ip_nx (if ip_cnd .ge x 0 = true then t else pc + 3) L S h b := by
    refine (ip_st_of hf).trans ?_
    show (match ip_to pc off with
      | some t => ip_nx (if ip_cnd .ge x 0 = true then t else pc + 3) L S h b
      | none => none) = _
    rw [ht]
  rw [ip_nx_iff hs]
  by_cases hc : 0 ≤ x
  · rw [if_pos hc, if_pos (by simpa [ip_cnd] using hc)]
  · rw [if_neg hc, if_neg (by simpa [ip_cnd] using hc)]
theorem ip_s_if_gt {off : Int} {t : Nat} {x : Int32} (hf : ip_fetch mi pc = some (.ifCond .gt off, len)) (ht : ip_to pc off = some t) : ip_WP mi pc L (.int x :: S) h b post px ↔ if 0 < x then ip_WP mi t L S h b post px else ip_WP mi (pc + 3) L S h b post px := by
  have hs : ip_st mi pc L (.int x :: S) h b = ip_nx (if ip_cnd .gt x 0 = true then t else pc + 3) L S h b := by
    refine (ip_st_of hf).trans ?_
    show (match ip_to pc off with
      | some t => ip_nx (if ip_cnd .gt x 0 = true then t else pc + 3) L S h b
      | none => none) = _
    rw [ht]
  rw [ip_nx_iff hs]
  by_cases hc : 0 < x
  · rw [if_pos hc, if_pos (by simpa [ip_cnd] using hc)]
  · rw [if_neg hc, if_neg (by simpa [ip_cnd] using hc)]
theorem ip_s_if_le {off : Int} {t : Nat} {x : Int32} (hf : ip_fetch mi pc = some (.ifCond .le off, len)) (ht : ip_to pc off = some t) : ip_WP mi pc L (.int x :: S) h b post px ↔ if x ≤ 0 then ip_WP mi t L S h b post px else ip_WP mi (pc + 3) L S h b post px := by
  have hs : ip_st mi pc L (.int x :: S) h b = ip_nx (if ip_cnd .le x 0 = true then t else pc + 3) L S h b := by
    refine (ip_st_of hf).trans ?_
    show (match ip_to pc off with
      | some t => ip_nx (if ip_cnd .le x 0 = true then t else pc + 3) L S h b
      | none => none) = _
    rw [ht]
  rw [ip_nx_iff hs]
  by_cases hc : x ≤ 0
  · rw [if_pos hc, if_pos (by simpa [ip_cnd] using hc)]
  · rw [if_neg hc, if_neg (by simpa [ip_cnd] using hc)]
theorem ip_s_ic_eq {off : Int} {t : Nat} {x y : Int32} (hf : ip_fetch mi pc = some (.if_icmp .eq off, len)) (ht : ip_to pc off = some t) : ip_WP mi pc L (.int y :: .int x :: S) h b post px ↔ if x = y then ip_WP mi t L S h b post px else ip_WP mi (pc + 3) L S h b post px := by
  have hs : ip_st mi pc L (.int y :: .int x :: S) h b = ip_nx (if ip_cnd .eq x y = true then t else pc + 3) L S h b := by
    refine (ip_st_of hf).trans ?_
    show (match ip_to pc off with
      | some t => ip_nx (if ip_cnd .eq x y = true then t else pc + 3) L S h b
      | none => none) = _
    rw [ht]
  rw [ip_nx_iff hs]
  by_cases hc : x = y
  · rw [if_pos hc, if_pos (by simpa [ip_cnd] using hc)]
  · rw [if_neg hc, if_neg (by simpa [ip_cnd] using hc)]
theorem ip_s_ic_ne {off : Int} {t : Nat} {x y : Int32} (hf : ip_fetch mi pc = some (.if_icmp .ne off, len)) (ht : ip_to pc off = some t) : ip_WP mi pc L (.int y :: .int x :: S) h b post px ↔ if ¬ x = y then ip_WP mi t L S h b post px else ip_WP mi (pc + 3) L S h b post px := by
  have hs : ip_st mi pc L (.int y :: .int x :: S) h b = ip_nx (if ip_cnd .ne x y = true then t else pc + 3) L S h b := by
    refine (ip_st_of hf).trans ?_
    show (match ip_to pc off with
      | some t => ip_nx (if ip_cnd .ne x y = true then t else pc + 3) L S h b
      | none => none) = _
    rw [ht]
  rw [ip_nx_iff hs]
  by_cases hc : ¬ x = y
  · rw [if_pos hc, if_pos (by simpa [ip_cnd] using hc)]
  · rw [if_neg hc, if_neg (by simpa [ip_cnd] using hc)]
theorem ip_s_ic_lt {off : Int} {t : Nat} {x y : Int32} (hf : ip_fetch mi pc = some (.if_icmp .lt off, len)) (ht : ip_to pc off = some t) : ip_WP mi pc L (.int y :: .int x :: S) h b post px ↔ if x < y then ip_WP mi t L S h b post px else ip_WP mi (pc + 3) L S h b post px := by
  have hs : ip_st mi pc L (.int y :: .int x :: S) h b = ip_nx (if ip_cnd .lt x y = true then t else pc + 3) L S h b := by
    refine (ip_st_of hf).trans ?_
    show (match ip_to pc off with
      | some t => ip_nx (if ip_cnd .lt x y = true then t else pc + 3) L S h b
      | none => none) = _
    rw [ht]
  rw [ip_nx_iff hs]
  by_cases hc : x < y
  · rw [if_pos hc, if_pos (by simpa [ip_cnd] using hc)]
  · rw [if_neg hc, if_neg (by simpa [ip_cnd] using hc)]
theorem ip_s_ic_ge {off : Int} {t : Nat} {x y : Int32} (hf : ip_fetch mi pc = some (.if_icmp .ge off, len)) (ht : ip_to pc off = some t) : ip_WP mi pc L (.int y :: .int x :: S) h b post px ↔ if y ≤ x then ip_WP mi t L S h b post px else ip_WP mi (pc + 3) L S h b post px := by
  have hs : ip_st mi pc L (.int y :: .int x :: S) h b = ip_nx (if ip_cnd .ge x y = true then t else pc + 3) L S h b := by
    refine (ip_st_of hf).trans ?_
    show (match ip_to pc off with
      | some t => ip_nx (if ip_cnd .ge x y = true then t else pc + 3) L S h b
      | none => none) = _
    rw [ht]
  rw [ip_nx_iff hs]
  by_cases hc : y ≤ x
  · rw [if_pos hc, if_pos (by simpa [ip_cnd] using hc)]
  · rw [if_neg hc, if_neg (by simpa [ip_cnd] using hc)]
theorem ip_s_ic_gt {off : Int} {t : Nat} {x y : Int32} (hf : ip_fetch mi pc = some (.if_icmp .gt off, len)) (ht : ip_to pc off = some t) : ip_WP mi pc L (.int y :: .int x :: S) h b post px ↔ if y < x then ip_WP mi t L S h b post px else ip_WP mi (pc + 3) L S h b post px := by
  have hs : ip_st mi pc L (.int y :: .int x :: S) h b = ip_nx (if ip_cnd .gt x y = true then t else pc + 3) L S h b := by
    refine (ip_st_of hf).trans ?_
    show (match ip_to pc off with
      | some t => ip_nx (if ip_cnd .gt x y = true then t else pc + 3) L S h b
      | none => none) = _
    rw [ht]
  rw [ip_nx_iff hs]
  by_cases hc : y < x
  · rw [if_pos hc, if_pos (by simpa [ip_cnd] using hc)]
  · rw [if_neg hc, if_neg (by simpa [ip_cnd] using hc)]
theorem ip_s_ic_le {off : Int} {t : Nat} {x y : Int32} (hf : ip_fetch mi pc = some (.if_icmp .le off, len)) (ht : ip_to pc off = some t) : ip_WP mi pc L (.int y :: .int x :: S) h b post px ↔ if x ≤ y then ip_WP mi t L S h b post px else ip_WP mi (pc + 3) L S h b post px := by
  have hs : ip_st mi pc L (.int y :: .int x :: S) h b = ip_nx (if ip_cnd .le x y = true then t else pc + 3) L S h b := by
    refine (ip_st_of hf).trans ?_
    show (match ip_to pc off with
      | some t => ip_nx (if ip_cnd .le x y = true then t else pc + 3) L S h b
      | none => none) = _
    rw [ht]
  rw [ip_nx_iff hs]
  by_cases hc : x ≤ y
  · rw [if_pos hc, if_pos (by simpa [ip_cnd] using hc)]
  · rw [if_neg hc, if_neg (by simpa [ip_cnd] using hc)]
theorem ip_s_tsd {d lo hi : Int} {offs : Array Int} {t : Nat} {x : Int32} (hf : ip_fetch mi pc = some (.tableswitch d lo hi offs, len)) (hq : x.toInt < lo ∨ hi < x.toInt) (ht : ip_to pc d = some t) (hz : offs.size = (hi - lo + 1).toNat) : ip_WP mi pc L (.int x :: S) h b post px ↔ ip_WP mi t L S h b post px := by
  refine ip_nx_iff ((ip_st_of hf).trans ?_)
  show (match ip_to pc (if x.toInt < lo ∨ hi < x.toInt then d else offs.getD (x.toInt - lo).toNat d) with
      | some t => if offs.size = (hi - lo + 1).toNat then ip_nx t L S h b else none
      | none => none) = _
  rw [if_pos hq, ht]
  exact if_pos hz
theorem ip_s_lsd {d : Int} {ps : Array (Int × Int)} {t : Nat} {x : Int32} (hf : ip_fetch mi pc = some (.lookupswitch d ps, len)) (ho : Op.lookupswitch.offset ps.toList d x.toInt = d) (ht : ip_to pc d = some t) (hz : (ps.toList.zip (ps.toList.drop 1)).all (fun (a, next) => a.1 < next.1) = true) : ip_WP mi pc L (.int x :: S) h b post px ↔ ip_WP mi t L S h b post px := by
  refine ip_nx_iff ((ip_st_of hf).trans ?_)
  show (match ip_to pc (Op.lookupswitch.offset ps.toList d x.toInt) with
      | some t => if (ps.toList.zip (ps.toList.drop 1)).all (fun (a, next) => a.1 < next.1) = true then ip_nx t L S h b else none
      | none => none) = _
  rw [ho, ht]
  exact if_pos hz
theorem ip_s_alen {k : Nat} (hmi : ¬ mi = 209) (hf : ip_fetch mi pc = some (.arraylength, len)) : ip_WP mi pc L (.ref k :: S) h b post px ↔ ip_on (ip_lenA h.1 k) (fun n => ip_WP mi (pc + 1) L (.int (Int32.ofNat n) :: S) h b post px) := by
  have hs : ip_st mi pc L (.ref k :: S) h b = match ip_lenA h.1 k with
      | some n => ip_nx (pc + 1) L (.int (Int32.ofNat n) :: S) h b
      | none => none := (ip_st_of hf).trans (if_neg hmi)
  cases hn : ip_lenA h.1 k with
  | none => rw [hn] at hs; exact ip_no_iff hs
  | some n => rw [hn] at hs; exact ip_nx_iff hs
theorem ip_s_getf {ix ci j k : Nat} (hf : ip_fetch mi pc = some (.getfield ix, len)) (hr : ip_fld mi ix = some (ci, j)) : ip_WP mi pc L (.ref k :: S) (G, F, I, J) b post px ↔ (ip_isO G k ci = true ∧ ip_WP mi (pc + 3) L (F k j :: S) (G, F, I, J) b post px) := by
  have hs : ip_st mi pc L (.ref k :: S) (G, F, I, J) b = match ip_fld mi ix with
      | some (ci, j) => if ip_isO G k ci = true then ip_nx (pc + 3) L (F k j :: S) (G, F, I, J) b else none
      | none => none := (ip_st_of hf).trans rfl
  rw [hr] at hs
  exact ip_ck_iff hs ip_nx_iff
/-- a field of a number -/
theorem ip_s_put {ix ci j k : Nat} {v : Value} (hf : ip_fetch mi pc = some (.putfield ix, len)) (hr : ip_fld mi ix = some (ci, j)) (hv : ip_fit G.length ci j v = true) : ip_WP mi pc L (v :: .ref k :: S) (G, F, I, J) b post px ↔ (ip_isO G k ci = true ∧ ip_WP mi (pc + 3) L S (G, ip_up F k j v, I, J) b post px) := by
  have hs : ip_st mi pc L (v :: .ref k :: S) (G, F, I, J) b = match ip_fld mi ix with
      | some (ci, j) => if (ip_isO G k ci && ip_fit G.length ci j v) = true then ip_nx (pc + 3) L S (G, ip_up F k j v, I, J) b else none
      | none => none := (ip_st_of hf).trans rfl
  rw [hr] at hs
  dsimp only at hs
  rw [hv, Bool.and_true] at hs
  exact ip_ck_iff hs ip_nx_iff
theorem ip_s_putR {ix ci j k a : Nat} (hf : ip_fetch mi pc = some (.putfield ix, len)) (hr : ip_fld mi ix = some (ci, j)) (hv : ip_fit G.length ci j (.ref a) = decide (a < G.length)) : ip_WP mi pc L (.ref a :: .ref k :: S) (G, F, I, J) b post px ↔ (ip_isO G k ci = true ∧ a < G.length ∧ ip_WP mi (pc + 3) L S (G, ip_up F k j (.ref a), I, J) b post px) := by
  have hs : ip_st mi pc L (.ref a :: .ref k :: S) (G, F, I, J) b = match ip_fld mi ix with
      | some (ci, j) => if (ip_isO G k ci && ip_fit G.length ci j (.ref a)) = true then ip_nx (pc + 3) L S (G, ip_up F k j (.ref a), I, J) b else none
      | none => none := (ip_st_of hf).trans rfl
  rw [hr] at hs
  dsimp only at hs
  rw [hv] at hs
  rw [ip_ck_iff hs ip_nx_iff, Bool.and_eq_true, decide_eq_true_eq, and_assoc]
theorem ip_s_obj {ix k : Nat} (hf : ip_fetch mi pc = some (.invokespecial ix, len)) (hb : ip_bi mi ix = 1) (hc : (S.map fun v => v.category).sum ≤ 8) : ip_WP mi pc L (.ref k :: S) h b post px ↔ ip_WP mi (pc + 3) L S h b post px := by
  refine ip_nx_iff ((ip_st_of hf).trans ?_)
  simp only [ip_ex, hb]
  exact if_pos hc
theorem ip_s_slen {ix k : Nat} (hf : ip_fetch mi pc = some (.invokevirtual ix, len)) (hb : ip_bi mi ix = 3) (hc : (S.map fun v => v.category).sum ≤ 8) : ip_WP mi pc L (.ref k :: S) h b post px ↔ ip_on (ip_slen k) (fun n => ip_WP mi (pc + 3) L (.int (Int32.ofNat n) :: S) h b post px) := by
  have hs : ip_st mi pc L (.ref k :: S) h b = match ip_slen k with
      | some n => ip_nx (pc + 3) L (.int (Int32.ofNat n) :: S) h b
      | none => none := by
    refine (ip_st_of hf).trans ?_
    simp only [ip_ex, hb]
    rw [if_pos hc]
    rfl
  cases hn : ip_slen k with
  | none => rw [hn] at hs; exact ip_no_iff hs
  | some n => rw [hn] at hs; exact ip_nx_iff hs
theorem ip_s_sch {ix k : Nat} {i : Int32} (hf : ip_fetch mi pc = some (.invokevirtual ix, len)) (hb : ip_bi mi ix = 4) (hc : (S.map fun v => v.category).sum ≤ 8) : ip_WP mi pc L (.int i :: .ref k :: S) h b post px ↔ ip_on (ip_sch k i) (fun c => ip_WP mi (pc + 3) L (.int c :: S) h b post px) := by
  have hs : ip_st mi pc L (.int i :: .ref k :: S) h b = match ip_sch k i with
      | some c => ip_nx (pc + 3) L (.int c :: S) h b
      | none => none := by
    refine (ip_st_of hf).trans ?_
    simp only [ip_ex, hb]
    rw [if_pos hc]
    rfl
  cases hn : ip_sch k i with
  | none => rw [hn] at hs; exact ip_no_iff hs
  | some n => rw [hn] at hs; exact ip_nx_iff hs
theorem ip_s_copy {ix k0 k1 : Nat} {sp dp n : Int32} (hf : ip_fetch mi pc = some (.invokestatic ix, len)) (hb : ip_bi mi ix = 2) (hc : (S.map fun v => v.category).sum ≤ 8) : ip_WP mi pc L (.int n :: .int dp :: .ref k1 :: .int sp :: .ref k0 :: S) (G, F, I, J) b post px ↔ (ip_cpok G I k0 sp k1 dp n ∧ ip_WP mi (pc + 3) L S (G, F, ip_cpI I k0 sp k1 dp n, J) b post px) := by
  have hs : ip_st mi pc L (.int n :: .int dp :: .ref k1 :: .int sp :: .ref k0 :: S) (G, F, I, J) b = ip_copy pc L S (G, F, I, J) b k0 sp k1 dp n := by
    refine (ip_st_of hf).trans ?_
    simp only [ip_ex, hb]
  unfold ip_copy at hs
  by_cases hq : ip_cpok G I k0 sp k1 dp n
  · rw [if_pos ⟨hq, hc⟩] at hs
    rw [ip_nx_iff hs]
    exact ⟨fun x => ⟨hq, x⟩, fun x => x.2⟩
  · rw [if_neg (fun x => hq x.1)] at hs
    rw [ip_no_iff hs]
    exact ⟨fun x => x.elim, fun x => hq x.1⟩
theorem ip_s_thr {ix : Nat} {E : String} (hf : ip_fetch mi pc = some (.new ix, len)) (he : ip_exc mi pc = some E) (hc : (S.map fun v => v.category).sum ≤ 8) : ip_WP mi pc L S h b post px ↔ ((1 ≤ b.1 ∧ 6 ≤ b.2) ∧ px E h) := by
  have hs : ip_st mi pc L S h b = if ((S.map fun v => v.category).sum ≤ 8 ∧ 1 ≤ b.1 ∧ 6 ≤ b.2) then ip_th E else none := by
    refine (ip_st_of hf).trans ?_
    simp only [ip_ex, he]
  by_cases hq : 1 ≤ b.1 ∧ 6 ≤ b.2
  · rw [if_pos ⟨hc, hq⟩] at hs
    rw [ip_th_iff hs]
    exact ⟨fun x => ⟨hq, x⟩, fun x => x.2⟩
  · rw [if_neg (fun x => hq x.2)] at hs
    rw [ip_no_iff hs]
    exact ⟨fun x => x.elim, fun x => hq x.1⟩
theorem ip_s_new {ix ci nf : Nat} (hf : ip_fetch mi pc = some (.new ix, len)) (he : ip_exc mi pc = none) (hn : ip_newc mi ix = some ci) (hnf : ip_nf ci = nf) (ha : ip_al mi = true) : ip_WP mi pc L S (G, F, I, J) b post px ↔ (ip_wfc G.length L S = true ∧ (1 ≤ b.1 ∧ nf ≤ b.2 ∧ G.length < ip_SC) ∧ ip_WP mi (pc + 3) L (.ref G.length :: S) (G ++ [.inr (ci, nf)], fun a j => if a = G.length then ip_dfl (ip_fty ci j) else F a j, I, J) (b.1 - 1, b.2 - nf) post px) := by
  subst hnf
  have hs : ip_st mi pc L S (G, F, I, J) b = if ip_wfc G.length L S = true then if 1 ≤ b.1 ∧ ip_nf ci ≤ b.2 ∧ G.length < ip_SC then
          ip_nx (pc + 3) L (.ref G.length :: S) (G ++ [.inr (ci, ip_nf ci)], fun a j => if a = G.length then ip_dfl (ip_fty ci j) else F a j, I, J) (b.1 - 1, b.2 - ip_nf ci) else none else none := by
    refine (ip_st_of hf).trans ?_
    simp only [ip_ex, he, hn, ha, Bool.true_and]
  refine ip_ck_iff hs (fun hs => ?_)
  by_cases hq : 1 ≤ b.1 ∧ ip_nf ci ≤ b.2 ∧ G.length < ip_SC
  · rw [if_pos hq] at hs
    rw [ip_nx_iff hs]
    exact ⟨fun x => ⟨hq, x⟩, fun x => x.2⟩
  · rw [if_neg hq] at hs
    rw [ip_no_iff hs]
    exact ⟨fun x => x.elim, fun x => hq x.1⟩
theorem ip_s_newa {t : ArrayType} {u : Nat} {n : Int32} (hf : ip_fetch mi pc = some (.newarray t, len)) (hu : ip_tag t = some u) (ha : ip_al mi = true) : ip_WP mi pc L (.int n :: S) (G, F, I, J) b post px ↔ (ip_wfc G.length L S = true ∧ (1 ≤ b.1 ∧ n.toNatClampNeg ≤ b.2 ∧ G.length < ip_SC ∧ ¬ n < 0 ∧ n.toNatClampNeg ≤ 60000000) ∧ ip_WP mi (pc + 2) L (.ref G.length :: S) (G ++ [.inl (u, n.toNatClampNeg)], F, fun a j => if a = G.length then 0 else I a j, fun a j => if a = G.length then 0 else J a j) (b.1 - 1, b.2 - n.toNatClampNeg) post px) := by
  have hs : ip_st mi pc L (.int n :: S) (G, F, I, J) b = if ip_wfc G.length L S = true then if 1 ≤ b.1 ∧ n.toNatClampNeg ≤ b.2 ∧ G.length < ip_SC ∧ ¬ n < 0 ∧ n.toNatClampNeg ≤ 60000000 then
          ip_nx (pc + 2) L (.ref G.length :: S) (G ++ [.inl (u, n.toNatClampNeg)], F, fun a j => if a = G.length then 0 else I a j, fun a j => if a = G.length then 0 else J a j) (b.1 - 1, b.2 - n.toNatClampNeg) else none else none := by
    refine (ip_st_of hf).trans ?_
    simp only [ip_ex, hu, ha, Bool.true_and]
  refine ip_ck_iff hs (fun hs => ?_)
  by_cases hq : 1 ≤ b.1 ∧ n.toNatClampNeg ≤ b.2 ∧ G.length < ip_SC ∧ ¬ n < 0 ∧ n.toNatClampNeg ≤ 60000000
  · rw [if_pos hq] at hs
    rw [ip_nx_iff hs]
    exact ⟨fun x => ⟨hq, x⟩, fun x => x.2⟩
  · rw [if_neg hq] at hs
    rw [ip_no_iff hs]
    exact ⟨fun x => x.elim, fun x => hq x.1⟩
theorem ip_s_zret {c : Prop} {dc : Decidable c} {r : Option Value} (hs : ip_st mi pc L S h b = ite c (ip_rt r) none) : ip_WP mi pc L S h b post px ↔ (c ∧ post r h) := by
  by_cases hc : c
  · rw [if_pos hc] at hs
    rw [ip_rt_iff hs]
    exact ⟨fun x => ⟨hc, x⟩, fun x => x.2⟩
  · rw [if_neg hc] at hs
    rw [ip_no_iff hs]
    exact ⟨fun x => x.elim, fun x => hc x.1⟩
end IPSH
