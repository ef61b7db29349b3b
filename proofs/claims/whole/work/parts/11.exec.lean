/-- one instruction that neither calls nor makes nor throws -/
def ip_ex0 (mi pc : Nat) (ins : Instr) (L : ip_Lo) (S : List Value) (h : ip_H) (b : ip_B) : ip_R :=
  match ins with
  | .aload i => match L[i]? with
    | some (some (.ref x)) => ip_nx (pc + 2) L (.ref x :: S) h b
    | _ => none
  | .aload_n i => match L[i.val]? with
    | some (some (.ref x)) => ip_nx (pc + 1) L (.ref x :: S) h b
    | _ => none
  | .arraylength => match S with
    | .ref k :: S => match ip_lenA h.1 k with
      | some n => ip_nx (pc + 1) L (.int (Int32.ofNat n) :: S) h b
      | none => none
    | _ => none
  | .astore i => match S with
    | .ref x :: S => if i < L.length then ip_nx (pc + 2) (ip_stI mi L i (some (.ref x))) S h b else none
    | _ => none
  | .astore_n i => match S with
    | .ref x :: S => if i.val < L.length then ip_nx (pc + 1) (ip_stI mi L i.val (some (.ref x))) S h b else none
    | _ => none
  | .baload => match S with
    | .int i :: .ref k :: S => if (ip_inA h.1 k 1 i || ip_inA h.1 k 3 i) = true then ip_nx (pc + 1) L (.int (h.2.2.1 k i.toNatClampNeg) :: S) h b else none
    | _ => none
  | .bastore => match S with
    | .int x :: .int i :: .ref k :: S => if ip_inA h.1 k 1 i = true then ip_nx (pc + 1) L S (h.1, h.2.1, ip_up h.2.2.1 k i.toNatClampNeg (vp_nar .byte x), h.2.2.2) b else if ip_inA h.1 k 3 i = true then ip_nx (pc + 1) L S (h.1, h.2.1, ip_up h.2.2.1 k i.toNatClampNeg (vp_nar .boolean x), h.2.2.2) b else none
    | _ => none
  | .bipush n => ip_nx (pc + 2) L (.int (Int8.ofInt n).toInt32 :: S) h b
  | .dup => match S with
    | .int x :: S => ip_nx (pc + 1) L (.int x :: .int x :: S) h b
    | .ref x :: S => ip_nx (pc + 1) L (.ref x :: .ref x :: S) h b
    | _ => none
  | .dup_x1 => match S with
    | .int x :: .ref y :: S => ip_nx (pc + 1) L (.int x :: .ref y :: .int x :: S) h b
    | _ => none
  | .dup2 => match S with
    | .int x :: .ref y :: S => ip_nx (pc + 1) L (.int x :: .ref y :: .int x :: .ref y :: S) h b
    | _ => none
  | .getfield ix => match S with
    | .ref k :: S => match ip_fld mi ix with
      | some (ci, j) => if ip_isO h.1 k ci = true then ip_nx (pc + 3) L (h.2.1 k j :: S) h b else none
      | none => none
    | _ => none
  | .goto off => match ip_to pc off with
    | some t => ip_nx t L S h b
    | none => none
  | .i2b => match S with
    | .int x :: S => ip_nx (pc + 1) L (.int x.toInt8.toInt32 :: S) h b
    | _ => none
  | .i2c => match S with
    | .int x :: S => ip_nx (pc + 1) L (.int (x.toUInt32 % 65536).toInt32 :: S) h b
    | _ => none
  | .i2l => match S with
    | .int x :: S => ip_nx (pc + 1) L (.long x.toInt64 :: S) h b
    | _ => none
  | .iadd => match S with
    | .int y :: .int x :: S => ip_nx (pc + 1) L (.int (x + y) :: S) h b
    | _ => none
  | .iaload => match S with
    | .int i :: .ref k :: S => if ip_inA h.1 k 0 i = true then ip_nx (pc + 1) L (.int (h.2.2.1 k i.toNatClampNeg) :: S) h b else none
    | _ => none
  | .iand => match S with
    | .int y :: .int x :: S => ip_nx (pc + 1) L (.int (x &&& y) :: S) h b
    | _ => none
  | .iastore => match S with
    | .int x :: .int i :: .ref k :: S => if ip_inA h.1 k 0 i = true then ip_nx (pc + 1) L S (h.1, h.2.1, ip_up h.2.2.1 k i.toNatClampNeg x, h.2.2.2) b else none
    | _ => none
  | .iconst n => ip_nx (pc + 1) L (.int (Int32.ofInt n) :: S) h b
  | .idiv => match S with
    | .int y :: .int x :: S => if y = 0 then none else ip_nx (pc + 1) L (.int (x / y) :: S) h b
    | _ => none
  | .if_icmp c off => match S with
    | .int y :: .int x :: S => match ip_to pc off with
      | some t => ip_nx (if ip_cnd c x y = true then t else pc + 3) L S h b
      | none => none
    | _ => none
  | .ifCond c off => match S with
    | .int x :: S => match ip_to pc off with
      | some t => ip_nx (if ip_cnd c x 0 = true then t else pc + 3) L S h b
      | none => none
    | _ => none
  | .iinc i n => match L[i]? with
    | some (some (.int x)) => ip_nx (pc + 3) (ip_stI mi L i (some (.int (x + Int32.ofInt n)))) S h b
    | _ => none
  | .iload i => match L[i]? with
    | some (some (.int x)) => ip_nx (pc + 2) L (.int x :: S) h b
    | _ => none
  | .iload_n i => match L[i.val]? with
    | some (some (.int x)) => ip_nx (pc + 1) L (.int x :: S) h b
    | _ => none
  | .imul => match S with
    | .int y :: .int x :: S => ip_nx (pc + 1) L (.int (x * y) :: S) h b
    | _ => none
  | .ineg => match S with
    | .int x :: S => ip_nx (pc + 1) L (.int (-x) :: S) h b
    | _ => none
  | .ior => match S with
    | .int y :: .int x :: S => ip_nx (pc + 1) L (.int (x ||| y) :: S) h b
    | _ => none
  | .irem => match S with
    | .int y :: .int x :: S => if y = 0 then none else ip_nx (pc + 1) L (.int (x - x / y * y) :: S) h b
    | _ => none
  | .ishl => match S with
    | .int y :: .int x :: S => ip_nx (pc + 1) L (.int (x <<< (y &&& 31)) :: S) h b
    | _ => none
  | .ishr => match S with
    | .int y :: .int x :: S => ip_nx (pc + 1) L (.int (x >>> (y &&& 31)) :: S) h b
    | _ => none
  | .istore i => match S with
    | .int x :: S => if i < L.length then ip_nx (pc + 2) (ip_stI mi L i (some (.int x))) S h b else none
    | _ => none
  | .istore_n i => match S with
    | .int x :: S => if i.val < L.length then ip_nx (pc + 1) (ip_stI mi L i.val (some (.int x))) S h b else none
    | _ => none
  | .isub => match S with
    | .int y :: .int x :: S => ip_nx (pc + 1) L (.int (x - y) :: S) h b
    | _ => none
  | .iushr => match S with
    | .int y :: .int x :: S => ip_nx (pc + 1) L (.int (x.toUInt32 >>> (y.toUInt32 &&& Int32.toUInt32 31)).toInt32 :: S) h b
    | _ => none
  | .ixor => match S with
    | .int y :: .int x :: S => ip_nx (pc + 1) L (.int (x ^^^ y) :: S) h b
    | _ => none
  | .l2i => match S with
    | .long x :: S => ip_nx (pc + 1) L (.int x.toInt32 :: S) h b
    | _ => none
  | .ladd => match S with
    | .long y :: .long x :: S => ip_nx (pc + 1) L (.long (x + y) :: S) h b
    | _ => none
  | .laload => match S with
    | .int i :: .ref k :: S => if ip_inA h.1 k 2 i = true then ip_nx (pc + 1) L (.long (h.2.2.2 k i.toNatClampNeg) :: S) h b else none
    | _ => none
  | .lastore => match S with
    | .long x :: .int i :: .ref k :: S => if ip_inA h.1 k 2 i = true then ip_nx (pc + 1) L S (h.1, h.2.1, h.2.2.1, ip_up h.2.2.2 k i.toNatClampNeg x) b else none
    | _ => none
  | .lcmp => match S with
    | .long y :: .long x :: S => ip_nx (pc + 1) L (.int (lg_cmp x y) :: S) h b
    | _ => none
  | .lconst n => ip_nx (pc + 1) L (.long (Int64.ofNat n.val) :: S) h b
  | .ldc ix => match ip_cst mi ix with
    | some (.ref x) => ip_nx (pc + 2) L (.ref x :: S) h b
    | _ => none
  | .ldc2_w ix => match ip_cst mi ix with
    | some (.long x) => ip_nx (pc + 3) L (.long x :: S) h b
    | _ => none
  | .ldiv => match S with
    | .long y :: .long x :: S => if y = 0 then none else ip_nx (pc + 1) L (.long (x / y) :: S) h b
    | _ => none
  | .lload i => match L[i]? with
    | some (some (.long x)) => ip_nx (pc + 2) L (.long x :: S) h b
    | _ => none
  | .lload_n i => match L[i.val]? with
    | some (some (.long x)) => ip_nx (pc + 1) L (.long x :: S) h b
    | _ => none
  | .lmul => match S with
    | .long y :: .long x :: S => ip_nx (pc + 1) L (.long (x * y) :: S) h b
    | _ => none
  | .lookupswitch d ps => match S with
    | .int x :: S => match ip_to pc (Op.lookupswitch.offset ps.toList d x.toInt) with
      | some t => if (ps.toList.zip (ps.toList.drop 1)).all (fun (a, next) => a.1 < next.1) = true then ip_nx t L S h b else none
      | none => none
    | _ => none
  | .lrem => match S with
    | .long y :: .long x :: S => if y = 0 then none else ip_nx (pc + 1) L (.long (x - x / y * y) :: S) h b
    | _ => none
  | .lstore i => match S with
    | .long x :: S => if i + 1 < L.length ∧ i ∈ ip_lng mi then ip_nx (pc + 2) (ip_stL mi L i x) S h b else none
    | _ => none
  | .lstore_n i => match S with
    | .long x :: S => if i.val + 1 < L.length ∧ i.val ∈ ip_lng mi then ip_nx (pc + 1) (ip_stL mi L i.val x) S h b else none
    | _ => none
  | .lsub => match S with
    | .long y :: .long x :: S => ip_nx (pc + 1) L (.long (x - y) :: S) h b
    | _ => none
  | .pop => match S with
    | .int _ :: S => ip_nx (pc + 1) L S h b
    | .ref _ :: S => ip_nx (pc + 1) L S h b
    | _ => none
  | .putfield ix => match S with
    | v :: .ref k :: S => match ip_fld mi ix with
      | some (ci, j) => if (ip_isO h.1 k ci && ip_fit h.1.length ci j v) = true then ip_nx (pc + 3) L S (h.1, ip_up h.2.1 k j v, h.2.2) b else none
      | none => none
    | _ => none
  | .sipush n => ip_nx (pc + 3) L (.int (Int16.ofInt n).toInt32 :: S) h b
  | .tableswitch d lo hi offs => match S with
    | .int x :: S => match ip_to pc (if x.toInt < lo ∨ hi < x.toInt then d else offs.getD (x.toInt - lo).toNat d) with
      | some t => if offs.size = (hi - lo + 1).toNat then ip_nx t L S h b else none
      | none => none
    | _ => none
  | _ => none
/-- System.arraycopy of bytes -/
def ip_cpok (G : List ip_K) (I : Nat → Nat → Int32) (k0 : Nat) (sp : Int32) (k1 : Nat) (dp n : Int32) : Prop := (¬ sp < 0 ∧ ¬ dp < 0 ∧ ¬ n < 0) ∧ (match G[k0]?, G[k1]? with
  | some (.inl (1, n0)), some (.inl (1, n1)) => sp.toNatClampNeg + n.toNatClampNeg ≤ n0 ∧ dp.toNatClampNeg + n.toNatClampNeg ≤ n1
  | _, _ => False) ∧ ∀ i, i < n.toNatClampNeg → fits .byte (.int (I k0 (sp.toNatClampNeg + i))) = true
def ip_cpI (I : Nat → Nat → Int32) (k0 : Nat) (sp : Int32) (k1 : Nat) (dp n : Int32) : Nat → Nat → Int32 := fun a j => if a = k1 then va_cpy (I k0) (I k1) sp.toNatClampNeg dp.toNatClampNeg n.toNatClampNeg j else I a j
noncomputable def ip_copy (pc : Nat) (L : ip_Lo) (S : List Value) (h : ip_H) (b : ip_B) (k0 : Nat) (sp : Int32) (k1 : Nat) (dp n : Int32) : ip_R :=
  @ite _ (ip_cpok h.1 h.2.2.1 k0 sp k1 dp n ∧ (S.map fun v => v.category).sum ≤ 8) (Classical.propDecidable _) (ip_nx (pc + 3) L S (h.1, h.2.1, ip_cpI h.2.2.1 k0 sp k1 dp n, h.2.2.2) b) none
/-- what a call looks at beside its receiver -/
def ip_ckc (mi n ci na : Nat) (L L0 : ip_Lo) (S rest : List Value) : Bool := decide (na ≤ S.length) && (decide ((rest.map fun v => v.category).sum ≤ 8) && (ip_entok ci L0 && (decide (L0.length = ip_maxL ci) && (!ip_al ci || (ip_al mi && ip_wfc n L rest)))))
def ip_inv (mi ci na : Nat) (L0 : ip_Lo) (L : ip_Lo) (S rest : List Value) (h : ip_H) (b : ip_B) : ip_R :=
  if ip_ckc mi h.1.length ci na L L0 S rest = true then if ip_bud ci b = true then ip_cl ci L0 rest (ip_cost ci) (ip_rst ci b) else none else none
/-- the script: reference ip_SC; its ints stand behind J ip_SC, its length first -/
def ip_scL (h : ip_H) : Nat := (h.2.2.2 ip_SC 0).toNatClampNeg
def ip_scV (h : ip_H) (j : Nat) : Int32 := (h.2.2.2 ip_SC (j + 1)).toInt32
/-- what a method returns: 0 nothing, 1 int, 2 long, 3 boolean, 4 an object -/
def ip_rt1 (mi : Nat) : Nat := match ip_ret mi with
  | none => 0
  | some .int => 1
  | some .long => 2
  | some .boolean => 3
  | some (.object _) => 4
  | _ => 9
noncomputable def ip_ex (mi pc : Nat) (ins : Instr) (L : ip_Lo) (S : List Value) (h : ip_H) (b : ip_B) : ip_R :=
  match ins with
  | .invokevirtual ix => match ip_bi mi ix with
    | 3 => match S with
      | .ref k :: S => if (S.map fun v => v.category).sum ≤ 8 then match ip_slen k with
        | some n => ip_nx (pc + 3) L (.int (Int32.ofNat n) :: S) h b
        | none => none
        else none
      | _ => none
    | 4 => match S with
      | .int i :: .ref k :: S => if (S.map fun v => v.category).sum ≤ 8 then match ip_sch k i with
        | some x => ip_nx (pc + 3) L (.int x :: S) h b
        | none => none
        else none
      | _ => none
    | _ => match ip_call mi ix with
      | some (ci, na) => match S.drop na with
        | .ref k :: rest => if ip_isO h.1 k (ip_oc ci) = true then ip_inv mi ci na (ip_ent (.ref k :: (S.take na).reverse) (ip_maxL ci)) L S rest h b else none
        | _ => none
      | none => none
  | .invokespecial ix => match ip_bi mi ix with
    | 1 => match S with
      | .ref _ :: S => if (S.map fun v => v.category).sum ≤ 8 then ip_nx (pc + 3) L S h b else none
      | _ => none
    | _ => match ip_call mi ix with
      | some (ci, na) => match S.drop na with
        | .ref k :: rest => ip_inv mi ci na (ip_ent (.ref k :: (S.take na).reverse) (ip_maxL ci)) L S rest h b
        | _ => none
      | none => none
  | .invokestatic ix => match ip_bi mi ix with
    | 2 => match S with
      | .int n :: .int dp :: .ref k1 :: .int sp :: .ref k0 :: S => ip_copy pc L S h b k0 sp k1 dp n
      | _ => none
    | _ => match ip_call mi ix with
      | some (ci, na) => ip_inv mi ci na (ip_ent (S.take na).reverse (ip_maxL ci)) L S (S.drop na) h b
      | none => none
  | .new ix => match ip_exc mi pc with
    | some E => if ((S.map fun v => v.category).sum ≤ 8 ∧ 1 ≤ b.1 ∧ 6 ≤ b.2) then ip_th E else none
    | none => match ip_newc mi ix with
      | some ci => if (ip_al mi && ip_wfc h.1.length L S) = true then if 1 ≤ b.1 ∧ ip_nf ci ≤ b.2 ∧ h.1.length < ip_SC then
          ip_nx (pc + 3) L (.ref h.1.length :: S) (h.1 ++ [.inr (ci, ip_nf ci)], fun a j => if a = h.1.length then ip_dfl (ip_fty ci j) else h.2.1 a j, h.2.2) (b.1 - 1, b.2 - ip_nf ci) else none else none
      | none => none
  | .newarray t => match S with
    | .int n :: S => match ip_tag t with
      | some u => if (ip_al mi && ip_wfc h.1.length L S) = true then if 1 ≤ b.1 ∧ n.toNatClampNeg ≤ b.2 ∧ h.1.length < ip_SC ∧ ¬ n < 0 ∧ n.toNatClampNeg ≤ 60000000 then
          ip_nx (pc + 2) L (.ref h.1.length :: S) (h.1 ++ [.inl (u, n.toNatClampNeg)], h.2.1, fun a j => if a = h.1.length then 0 else h.2.2.1 a j, fun a j => if a = h.1.length then 0 else h.2.2.2 a j) (b.1 - 1, b.2 - n.toNatClampNeg) else none else none
      | none => none
    | _ => none
  | .ireturn => match S with
    | [.int x] => if ip_rt1 mi = 1 then ip_rt (some (.int x)) else if ip_rt1 mi = 3 then if x = 0 ∨ x = 1 then ip_rt (some (.int x)) else none else none
    | _ => none
  | .lreturn => match S with
    | [.long x] => if ip_rt1 mi = 2 then ip_rt (some (.long x)) else none
    | _ => none
  | .areturn => match S with
    | [.ref x] => if ip_rt1 mi = 4 then ip_rt (some (.ref x)) else none
    | _ => none
  | .return_ => match S with
    | [] => if ip_rt1 mi = 0 then ip_rt none else none
    | _ => none
  | .iaload => if mi = 209 then match S with
      | .int i :: .ref k :: S => if (decide (k = ip_SC) && decide (¬ (i < 0 ∨ ip_scL h ≤ i.toNatClampNeg))) = true then ip_nx (pc + 1) L (.int (ip_scV h i.toNatClampNeg) :: S) h b else none
      | _ => none
    else ip_ex0 mi pc .iaload L S h b
  | .arraylength => if mi = 209 then match S with
      | .ref k :: S => if decide (k = ip_SC) = true then ip_nx (pc + 1) L (.int (Int32.ofNat (ip_scL h)) :: S) h b else none
      | _ => none
    else ip_ex0 mi pc .arraylength L S h b
  | i => ip_ex0 mi pc i L S h b
noncomputable def ip_st (mi pc : Nat) (L : ip_Lo) (S : List Value) (h : ip_H) (b : ip_B) : ip_R := match ip_fetch mi pc with
  | none => none
  | some q => ip_ex mi pc q.1 L S h b
theorem ip_st_of {mi pc len : Nat} {ins : Instr} {L : ip_Lo} {S : List Value} {h : ip_H} {b : ip_B} (hf : ip_fetch mi pc = some (ins, len)) : ip_st mi pc L S h b = ip_ex mi pc ins L S h b := by
  unfold ip_st
  rw [hf]
