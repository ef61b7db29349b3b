/-! the runs of the pure machine, and one instruction at a time -/
def ip_wp : Nat → Nat → Nat → ip_Lo → List Value → ip_H → ip_B → (Option Value → ip_H → Prop) → (String → ip_H → Prop) → Prop
  | 0, _, _, _, _, _, _, _, _ => False
  | n + 1, mi, pc, L, S, h, b, post, px => match ip_st mi pc L S h b with
    | none => False
    | some (.inl q) => ip_wp n mi q.1 q.2.1 q.2.2.1 q.2.2.2.1 q.2.2.2.2 post px
    | some (.inr (.inl q)) => ip_wp n q.1 0 q.2.1 [] h q.2.2.2.1 (fun r h' => ip_wp n mi (pc + 3) L (r.toList ++ q.2.2.1) h' q.2.2.2.2 post px)
        (fun E h' => match ip_hd q.1 mi pc E with
          | none => px E h'
          | some none => False
          | some (some w) => ip_wp n mi w.1 (L.set w.2 none) [] h' q.2.2.2.2 post px)
    | some (.inr (.inr (.inl r))) => post r h
    | some (.inr (.inr (.inr E))) => px E h
theorem ip_mono : ∀ (n mi pc : Nat) (L : ip_Lo) (S : List Value) (h : ip_H) (b : ip_B) (post post' : Option Value → ip_H → Prop) (px px' : String → ip_H → Prop), (∀ r h, post r h → post' r h) → (∀ E h, px E h → px' E h) →
    ip_wp n mi pc L S h b post px → ∀ k, n ≤ k → ip_wp k mi pc L S h b post' px'
  | 0, _, _, _, _, _, _, _, _, _, _, _, _, hw, _, _ => absurd hw id
  | n + 1, mi, pc, L, S, h, b, post, post', px, px', h1, h2, hw, 0, hk => absurd hk (Nat.not_succ_le_zero n)
  | n + 1, mi, pc, L, S, h, b, post, post', px, px', h1, h2, hw, k + 1, hk => by
    have hk : n ≤ k := Nat.le_of_succ_le_succ hk
    unfold ip_wp at hw ⊢
    cases hs : ip_st mi pc L S h b with
    | none => rw [hs] at hw; exact hw
    | some q =>
      rw [hs] at hw
      rcases q with q | q | r | E
      · exact ip_mono n _ _ _ _ _ _ _ _ _ _ h1 h2 hw k hk
      · refine ip_mono n _ _ _ _ _ _ _ _ _ _ (fun r h' hr => ip_mono n _ _ _ _ _ _ _ _ _ _ h1 h2 hr k hk) (fun E h' he => ?_) hw k hk
        rcases hh : ip_hd q.1 mi pc E with _ | _ | w
        · rw [hh] at he; exact h2 _ _ he
        · rw [hh] at he; exact he
        · rw [hh] at he; exact ip_mono n _ _ _ _ _ _ _ _ _ _ h1 h2 he k hk
      · exact h1 _ _ hw
      · exact h2 _ _ hw
theorem ip_comm : ∀ (n mi pc : Nat) (L : ip_Lo) (S : List Value) (h : ip_H) (b : ip_B) (P : Nat → Option Value → ip_H → Prop) (X : Nat → String → ip_H → Prop), (∀ i j r h, i ≤ j → P i r h → P j r h) → (∀ i j E h, i ≤ j → X i E h → X j E h) →
    ip_wp n mi pc L S h b (fun r h' => ∃ k, P k r h') (fun E h' => ∃ k, X k E h') → ∃ k, ip_wp n mi pc L S h b (P k) (X k)
  | 0, _, _, _, _, _, _, _, _, _, _, hw => absurd hw id
  | n + 1, mi, pc, L, S, h, b, P, X, hP, hX, hw => by
    unfold ip_wp at hw ⊢
    cases hs : ip_st mi pc L S h b with
    | none => rw [hs] at hw; exact absurd hw id
    | some q =>
      rw [hs] at hw
      rcases q with q | q | r | E
      · exact ip_comm n _ _ _ _ _ _ P X hP hX hw
      · refine ip_comm n q.1 0 q.2.1 [] h q.2.2.2.1 (fun k r h' => ip_wp n mi (pc + 3) L (r.toList ++ q.2.2.1) h' q.2.2.2.2 (P k) (X k)) (fun k E h' => match ip_hd q.1 mi pc E with
          | none => X k E h'
          | some none => False
          | some (some w) => ip_wp n mi w.1 (L.set w.2 none) [] h' q.2.2.2.2 (P k) (X k)) ?_ ?_ ?_
        · exact fun i j r h' hij hw => ip_mono n _ _ _ _ _ _ _ _ _ _ (fun r h => hP i j r h hij) (fun E h => hX i j E h hij) hw n (Nat.le_refl n)
        · intro i j E h' hij hw
          rcases hh : ip_hd q.1 mi pc E with _ | _ | w
          · rw [hh] at hw; exact hX i j E h' hij hw
          · rw [hh] at hw; exact hw
          · rw [hh] at hw; exact ip_mono n _ _ _ _ _ _ _ _ _ _ (fun r h => hP i j r h hij) (fun E h => hX i j E h hij) hw n (Nat.le_refl n)
        · refine ip_mono n _ _ _ _ _ _ _ _ _ _ (fun r h' hr => ip_comm n _ _ _ _ _ _ P X hP hX hr) (fun E h' he => ?_) hw n (Nat.le_refl n)
          rcases hh : ip_hd q.1 mi pc E with _ | _ | w
          · rw [hh] at he; exact he
          · rw [hh] at he; exact absurd he id
          · rw [hh] at he; exact ip_comm n _ _ _ _ _ _ P X hP hX he
      · exact hw
      · exact hw
def ip_WP (mi pc : Nat) (L : ip_Lo) (S : List Value) (h : ip_H) (b : ip_B) (post : Option Value → ip_H → Prop) (px : String → ip_H → Prop) : Prop := ∃ n, ip_wp n mi pc L S h b post px
theorem ip_WP_iff {mi pc : Nat} {L : ip_Lo} {S : List Value} {h : ip_H} {b : ip_B} {post : Option Value → ip_H → Prop} {px : String → ip_H → Prop} : ip_WP mi pc L S h b post px ↔ match ip_st mi pc L S h b with
    | none => False
    | some (.inl q) => ip_WP mi q.1 q.2.1 q.2.2.1 q.2.2.2.1 q.2.2.2.2 post px
    | some (.inr (.inl q)) => ip_WP q.1 0 q.2.1 [] h q.2.2.2.1 (fun r h' => ip_WP mi (pc + 3) L (r.toList ++ q.2.2.1) h' q.2.2.2.2 post px)
        (fun E h' => match ip_hd q.1 mi pc E with
          | none => px E h'
          | some none => False
          | some (some w) => ip_WP mi w.1 (L.set w.2 none) [] h' q.2.2.2.2 post px)
    | some (.inr (.inr (.inl r))) => post r h
    | some (.inr (.inr (.inr E))) => px E h := by
  constructor
  · rintro ⟨n, hw⟩
    cases n with
    | zero => exact absurd hw id
    | succ n =>
      unfold ip_wp at hw
      cases hs : ip_st mi pc L S h b with
      | none => rw [hs] at hw; exact hw
      | some q =>
        rw [hs] at hw
        rcases q with q | q | r | E
        · exact ⟨n, hw⟩
        · refine ⟨n, ip_mono n _ _ _ _ _ _ _ _ _ _ (fun r h' hr => ⟨n, hr⟩) (fun E h' he => ?_) hw n (Nat.le_refl n)⟩
          rcases hh : ip_hd q.1 mi pc E with _ | _ | w
          · rw [hh] at he; exact he
          · rw [hh] at he; exact he
          · rw [hh] at he; exact ⟨n, he⟩
        · exact hw
        · exact hw
  · intro hw
    cases hs : ip_st mi pc L S h b with
    | none => rw [hs] at hw; exact absurd hw id
    | some q =>
      rw [hs] at hw
      rcases q with q | q | r | E
      · obtain ⟨n, hn⟩ := hw
        exact ⟨n + 1, by unfold ip_wp; rw [hs]; exact hn⟩
      · obtain ⟨n, hn⟩ := hw
        obtain ⟨k, hk⟩ := ip_comm n q.1 0 q.2.1 [] h q.2.2.2.1 (fun k r h' => ip_wp k mi (pc + 3) L (r.toList ++ q.2.2.1) h' q.2.2.2.2 post px) (fun k E h' => match ip_hd q.1 mi pc E with
          | none => px E h'
          | some none => False
          | some (some w) => ip_wp k mi w.1 (L.set w.2 none) [] h' q.2.2.2.2 post px)
          (fun i j r h' hij hw => ip_mono i _ _ _ _ _ _ _ _ _ _ (fun _ _ x => x) (fun _ _ x => x) hw j hij)
          (fun i j E h' hij hw => by
            rcases hh : ip_hd q.1 mi pc E with _ | _ | w
            · rw [hh] at hw; exact hw
            · rw [hh] at hw; exact hw
            · rw [hh] at hw; exact ip_mono i _ _ _ _ _ _ _ _ _ _ (fun _ _ x => x) (fun _ _ x => x) hw j hij)
          (ip_mono n _ _ _ _ _ _ _ _ _ _ (fun r h' hr => hr) (fun E h' he => by
            rcases hh : ip_hd q.1 mi pc E with _ | _ | w
            · rw [hh] at he; exact ⟨0, he⟩
            · rw [hh] at he; exact absurd he id
            · rw [hh] at he; exact he) hn n (Nat.le_refl n))
        refine ⟨max n k + 1, ?_⟩
        unfold ip_wp
        rw [hs]
        refine ip_mono n _ _ _ _ _ _ _ _ _ _ (fun r h' hr => ip_mono k _ _ _ _ _ _ _ _ _ _ (fun _ _ x => x) (fun _ _ x => x) hr _ (Nat.le_max_right n k)) (fun E h' he => ?_) hk _ (Nat.le_max_left n k)
        rcases hh : ip_hd q.1 mi pc E with _ | _ | w
        · rw [hh] at he; exact he
        · rw [hh] at he; exact he
        · rw [hh] at he; exact ip_mono k _ _ _ _ _ _ _ _ _ _ (fun _ _ x => x) (fun _ _ x => x) he _ (Nat.le_max_right n k)
      · exact ⟨1, by unfold ip_wp; rw [hs]; exact hw⟩
      · exact ⟨1, by unfold ip_wp; rw [hs]; exact hw⟩
theorem ip_nx_iff {mi pc : Nat} {L : ip_Lo} {S : List Value} {h : ip_H} {b : ip_B} {post : Option Value → ip_H → Prop} {px : String → ip_H → Prop} {pc' : Nat} {L' : ip_Lo} {S' : List Value} {h' : ip_H} {b' : ip_B}
    (hs : ip_st mi pc L S h b = ip_nx pc' L' S' h' b') : ip_WP mi pc L S h b post px ↔ ip_WP mi pc' L' S' h' b' post px := by
  rw [ip_WP_iff, hs]
theorem ip_rt_iff {mi pc : Nat} {L : ip_Lo} {S : List Value} {h : ip_H} {b : ip_B} {post : Option Value → ip_H → Prop} {px : String → ip_H → Prop} {r : Option Value}
    (hs : ip_st mi pc L S h b = ip_rt r) : ip_WP mi pc L S h b post px ↔ post r h := by
  rw [ip_WP_iff, hs]
theorem ip_th_iff {mi pc : Nat} {L : ip_Lo} {S : List Value} {h : ip_H} {b : ip_B} {post : Option Value → ip_H → Prop} {px : String → ip_H → Prop} {E : String}
    (hs : ip_st mi pc L S h b = ip_th E) : ip_WP mi pc L S h b post px ↔ px E h := by
  rw [ip_WP_iff, hs]
theorem ip_no_iff {mi pc : Nat} {L : ip_Lo} {S : List Value} {h : ip_H} {b : ip_B} {post : Option Value → ip_H → Prop} {px : String → ip_H → Prop}
    (hs : ip_st mi pc L S h b = none) : ip_WP mi pc L S h b post px ↔ False := by
  rw [ip_WP_iff, hs]
theorem ip_if_iff {mi pc : Nat} {L : ip_Lo} {S : List Value} {h : ip_H} {b : ip_B} {post : Option Value → ip_H → Prop} {px : String → ip_H → Prop} {c : Prop} {dc : Decidable c} {x y : ip_R} {A B : Prop}
    (hs : ip_st mi pc L S h b = ite c x y) (hx : ip_st mi pc L S h b = x → (ip_WP mi pc L S h b post px ↔ A)) (hy : ip_st mi pc L S h b = y → (ip_WP mi pc L S h b post px ↔ B)) : ip_WP mi pc L S h b post px ↔ ite c A B := by
  by_cases hc : c
  · rw [if_pos hc] at hs ⊢; exact hx hs
  · rw [if_neg hc] at hs ⊢; exact hy hs
/-- a condition that must hold -/
theorem ip_ck_iff {mi pc : Nat} {L : ip_Lo} {S : List Value} {h : ip_H} {b : ip_B} {post : Option Value → ip_H → Prop} {px : String → ip_H → Prop} {c : Bool} {x : ip_R} {A : Prop}
    (hs : ip_st mi pc L S h b = if c = true then x else none) (hx : ip_st mi pc L S h b = x → (ip_WP mi pc L S h b post px ↔ A)) : ip_WP mi pc L S h b post px ↔ (c = true ∧ A) := by
  cases c with
  | true => rw [if_pos rfl] at hs; simpa using hx hs
  | false => rw [if_neg (by decide)] at hs; simpa using ip_no_iff hs
theorem ip_cl_iff {mi pc : Nat} {L : ip_Lo} {S : List Value} {h : ip_H} {b : ip_B} {post : Option Value → ip_H → Prop} {px : String → ip_H → Prop} {ci : Nat} {L0 : ip_Lo} {S' : List Value} {bc br : ip_B}
    (hs : ip_st mi pc L S h b = ip_cl ci L0 S' bc br) : ip_WP mi pc L S h b post px ↔ ip_WP ci 0 L0 [] h bc (fun r h' => ip_WP mi (pc + 3) L (r.toList ++ S') h' br post px) (fun E h' => match ip_hd ci mi pc E with
          | none => px E h'
          | some none => False
          | some (some w) => ip_WP mi w.1 (L.set w.2 none) [] h' br post px) := by
  rw [ip_WP_iff, hs]
