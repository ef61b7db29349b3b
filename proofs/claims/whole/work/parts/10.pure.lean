/-! A PURE MACHINE over the tables of 02: cells by numbers, no addresses. ip_wp runs it (fuel n), ip_WP is "for some fuel"; ip_WP_iff unfolds one instruction. -/
/-- kinds of cells: .inl (what array, length), .inr (class, how many fields) -/
abbrev ip_K : Type := (Nat × Nat) ⊕ (Nat × Nat)
/-- a pure heap: kinds; fields; ints, bytes; longs -/
abbrev ip_H : Type := List ip_K × (Nat → Nat → Value) × (Nat → Nat → Int32) × (Nat → Nat → Int64)
abbrev ip_Lo : Type := List (Option Value)
abbrev ip_B : Type := Nat × Nat
abbrev ip_R : Type := Option ((Nat × ip_Lo × List Value × ip_H × ip_B) ⊕ ((Nat × ip_Lo × List Value × ip_B × ip_B) ⊕ (Option Value ⊕ String)))
abbrev ip_nx (pc : Nat) (L : ip_Lo) (S : List Value) (h : ip_H) (b : ip_B) : ip_R := some (.inl (pc, L, S, h, b))
abbrev ip_cl (ci : Nat) (L : ip_Lo) (S : List Value) (bc br : ip_B) : ip_R := some (.inr (.inl (ci, L, S, bc, br)))
abbrev ip_rt (r : Option Value) : ip_R := some (.inr (.inr (.inl r)))
abbrev ip_th (E : String) : ip_R := some (.inr (.inr (.inr E)))
def ip_up {α : Type} (f : Nat → Nat → α) (k j : Nat) (v : α) : Nat → Nat → α := fun a b => if a = k ∧ b = j then v else f a b
/-- object k is of class ci -/
def ip_isO (G : List ip_K) (k ci : Nat) : Bool := match G[k]? with
  | some (.inr (c, _)) => c == ci
  | _ => false
/-- array k is of type t, and i is a place of it -/
def ip_inA (G : List ip_K) (k t : Nat) (i : Int32) : Bool := match G[k]? with
  | some (.inl (u, n)) => u == t && decide (¬ (i < 0 ∨ n ≤ i.toNatClampNeg))
  | _ => false
def ip_lenA (G : List ip_K) (k : Nat) : Option Nat := match G[k]? with
  | some (.inl (_, n)) => some n
  | _ => none
def ip_to (pc : Nat) (off : Int) : Option Nat := match (pc : Int) + off with
  | .ofNat t => some t
  | .negSucc _ => none
/-- the default contents of a new object -/
def ip_dfl : FieldType → Value
  | .int => .int 0
  | .byte => .int 0
  | .char => .int 0
  | .short => .int 0
  | .boolean => .int 0
  | .long => .long 0
  | .float => .float 0
  | .double => .double 0
  | _ => .null
/-- a store of one word; the slots that ever hold a long in method mi are ip_lng mi -/
def ip_stI (mi : Nat) (L : ip_Lo) (i : Nat) (v : Option Value) : ip_Lo := if i ≠ 0 ∧ (i - 1) ∈ ip_lng mi then (L.set (i - 1) none).set i v else L.set i v
def ip_stL (mi : Nat) (L : ip_Lo) (i : Nat) (x : Int64) : ip_Lo := (ip_stI mi L i (some (.long x))).set (i + 1) none
def ip_cnd (c : ClassFile.Cond) (x y : Int32) : Bool := match c with
  | .eq => decide (x = y)
  | .ne => !decide (x = y)
  | .lt => decide (x < y)
  | .ge => decide (y ≤ x)
  | .gt => decide (y < x)
  | .le => decide (x ≤ y)
/-- a method's arguments as its first locals -/
def ip_spread : List Value → ip_Lo
  | [] => []
  | v :: l => if v.category = 2 then some v :: none :: ip_spread l else some v :: ip_spread l
def ip_ent (vs : List Value) (n : Nat) : ip_Lo := ip_spread vs ++ List.replicate (n - (ip_spread vs).length) none
def ip_entok (mi : Nat) (L : ip_Lo) : Bool := (List.range L.length).all (fun j => match L[j]? with
  | some (some v) => v.category != 2 || (ip_lng mi).contains j
  | _ => true)
/-- references that stand: cells, or the given ones -/
def ip_okr (n : Nat) (v : Value) : Bool := match v with
  | .ref k => decide (k < n) || decide (ip_SC ≤ k)
  | _ => true
def ip_wfc (n : Nat) (L : ip_Lo) (S : List Value) : Bool := (L.all fun o => match o with
  | some v => ip_okr n v
  | none => true) && S.all (ip_okr n)
/-- a field's type takes the value -/
def ip_fit (n ci j : Nat) (v : Value) : Bool := match ip_fty ci j, v with
  | .int, .int _ => true
  | .long, .long _ => true
  | .object _, .ref k => decide (k < n)
  | .array _, .ref k => decide (k < n)
  | _, _ => false
def ip_bud (ci : Nat) (b : ip_B) : Bool := ip_z ci || (decide ((ip_cost ci).1 ≤ b.1) && decide ((ip_cost ci).2 ≤ b.2))
def ip_rst (ci : Nat) (b : ip_B) : ip_B := if ip_z ci = true then b else (b.1 - (ip_cost ci).1, b.2 - (ip_cost ci).2)
/-- a method without handlers -/
def ip_noh (mi : Nat) : Bool := ((ip_lkN ip_hnds mi).getD []).isEmpty
/-- what becomes of an exception of callee ci: none: it goes on to the caller; some none: there is none (or, where there are handlers, none that no handler takes); some (some (pc, k)): the handler goes on at pc, behind its store to local k -/
def ip_hd (ci mi pc : Nat) (E : String) : Option (Option (Nat × Nat)) := if ip_nt ci = true then some none else if ip_noh mi = true then none else some (ip_hnd mi pc E)
