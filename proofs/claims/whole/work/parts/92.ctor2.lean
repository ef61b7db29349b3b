/-! constructors of more than one cell -/
def fr (m c : Nat) (F : Nat → Nat → Value) : Nat → Nat → Value := fun a j => if a = m then ip_dfl (ip_fty c j) else F a j
theorem leafF {F : Nat → Nat → Value} {m c r : Nat} {v : Value} (hm : ∀ i, F m i = (if i = 1 then v else if i = 0 then .ref r else ip_dfl (ip_fty c i))) : ip_up (ip_up (fr m c F) m 0 (.ref r)) m 1 v = F := by
  funext a i
  unfold ip_up fr
  by_cases z : a = m
  · subst z
    rw [hm i]
    by_cases i1 : i = 1
    · rw [if_pos ⟨rfl, i1⟩, if_pos i1]
    · rw [if_neg (fun w => i1 w.2), if_neg i1]
      by_cases i0 : i = 0
      · rw [if_pos ⟨rfl, i0⟩, if_pos i0]
      · rw [if_neg (fun w => i0 w.2), if_neg i0, if_pos rfl]
  · rw [if_neg (fun w => z w.1), if_neg (fun w => z w.1), if_neg z]
theorem gl_0 : (gT 0).length = 0 := rfl
theorem gl_1 : (gT 1).length = 1 := rfl
theorem gl_2 : (gT 2).length = 2 := rfl
theorem gl_3 : (gT 3).length = 3 := rfl
theorem gl_4 : (gT 4).length = 4 := rfl
theorem gl_5 : (gT 5).length = 5 := rfl
theorem gl_6 : (gT 6).length = 6 := rfl
theorem gl_7 : (gT 7).length = 7 := rfl
theorem gl_8 : (gT 8).length = 8 := rfl
theorem gl_9 : (gT 9).length = 9 := rfl
theorem gl_10 : (gT 10).length = 10 := rfl
theorem gl_11 : (gT 11).length = 11 := rfl
theorem gl_12 : (gT 12).length = 12 := rfl
theorem gl_13 : (gT 13).length = 13 := rfl
theorem gl_14 : (gT 14).length = 14 := rfl
theorem gl_15 : (gT 15).length = 15 := rfl
theorem gl_16 : (gT 16).length = 16 := rfl
theorem gl_17 : (gT 17).length = 17 := rfl
theorem gl_18 : (gT 18).length = 18 := rfl
theorem gl_19 : (gT 19).length = 19 := rfl
theorem gl_20 : (gT 20).length = 20 := rfl
theorem gl_21 : (gT 21).length = 21 := rfl
theorem gl_22 : (gT 22).length = 22 := rfl
theorem gl_23 : (gT 23).length = 23 := rfl
theorem gl_24 : (gT 24).length = 24 := rfl
theorem gl_25 : (gT 25).length = 25 := rfl
theorem gl_26 : (gT 26).length = 26 := rfl
theorem gl_27 : (gT 27).length = 27 := rfl
theorem gl_28 : (gT 28).length = 28 := rfl
theorem gl_29 : (gT 29).length = 29 := rfl
theorem gl_30 : (gT 30).length = 30 := rfl
theorem gl_31 : (gT 31).length = 31 := rfl
theorem gl_32 : (gT 32).length = 32 := rfl
theorem gl_33 : (gT 33).length = 33 := rfl
theorem gl_34 : (gT 34).length = 34 := rfl
theorem gl_35 : (gT 35).length = 35 := rfl
theorem gl_36 : (gT 36).length = 36 := rfl
theorem gl_37 : (gT 37).length = 37 := rfl
theorem gl_38 : (gT 38).length = 38 := rfl
theorem gl_39 : (gT 39).length = 39 := rfl
theorem gl_40 : (gT 40).length = 40 := rfl
theorem gl_41 : (gT 41).length = 41 := rfl
theorem gl_42 : (gT 42).length = 42 := rfl
theorem gl_43 : (gT 43).length = 43 := rfl
theorem gl_44 : (gT 44).length = 44 := rfl
theorem gl_45 : (gT 45).length = 45 := rfl
theorem gl_46 : (gT 46).length = 46 := rfl
theorem gl_47 : (gT 47).length = 47 := rfl
theorem gl_48 : (gT 48).length = 48 := rfl
theorem gl_49 : (gT 49).length = 49 := rfl
theorem gl_50 : (gT 50).length = 50 := rfl
theorem gl_51 : (gT 51).length = 51 := rfl
theorem gl_52 : (gT 52).length = 52 := rfl
theorem gl_53 : (gT 53).length = 53 := rfl
theorem gl_54 : (gT 54).length = 54 := rfl
theorem gl_55 : (gT 55).length = 55 := rfl
theorem gl_56 : (gT 56).length = 56 := rfl
theorem gl_57 : (gT 57).length = 57 := rfl
theorem gl_58 : (gT 58).length = 58 := rfl
theorem gl_59 : (gT 59).length = 59 := rfl
theorem gl_60 : (gT 60).length = 60 := rfl
theorem gl_61 : (gT 61).length = 61 := rfl
theorem gl_62 : (gT 62).length = 62 := rfl
theorem gl_63 : (gT 63).length = 63 := rfl
theorem gl_64 : (gT 64).length = 64 := rfl
theorem gl_65 : (gT 65).length = 65 := rfl
theorem gl_66 : (gT 66).length = 66 := rfl
theorem gl_67 : (gT 67).length = 67 := rfl
theorem gl_68 : (gT 68).length = 68 := rfl
theorem gl_69 : (gT 69).length = 69 := rfl
theorem gl_70 : (gT 70).length = 70 := rfl
theorem gl_71 : (gT 71).length = 71 := rfl
theorem gl_72 : (gT 72).length = 72 := rfl
theorem gx_0 : gT 0 ++ [.inr (0, 7)] = gT 1 := rfl
theorem gx_1 : gT 1 ++ [.inr (2, 2)] = gT 2 := rfl
theorem gx_2 : gT 2 ++ [.inl (1, 4160)] = gT 3 := rfl
theorem gx_3 : gT 3 ++ [.inr (2, 2)] = gT 4 := rfl
theorem gx_4 : gT 4 ++ [.inl (1, 4160)] = gT 5 := rfl
theorem gx_5 : gT 5 ++ [.inr (3, 15)] = gT 6 := rfl
theorem gx_6 : gT 6 ++ [.inr (6, 2)] = gT 7 := rfl
theorem gx_7 : gT 7 ++ [.inl (2, 12)] = gT 8 := rfl
theorem gx_8 : gT 8 ++ [.inr (6, 2)] = gT 9 := rfl
theorem gx_9 : gT 9 ++ [.inl (2, 12)] = gT 10 := rfl
theorem gx_10 : gT 10 ++ [.inr (6, 2)] = gT 11 := rfl
theorem gx_11 : gT 11 ++ [.inl (2, 8)] = gT 12 := rfl
theorem gx_12 : gT 12 ++ [.inr (6, 2)] = gT 13 := rfl
theorem gx_13 : gT 13 ++ [.inl (2, 8)] = gT 14 := rfl
theorem gx_14 : gT 14 ++ [.inr (9, 2)] = gT 15 := rfl
theorem gx_15 : gT 15 ++ [.inl (0, 12)] = gT 16 := rfl
theorem gx_16 : gT 16 ++ [.inr (9, 2)] = gT 17 := rfl
theorem gx_17 : gT 17 ++ [.inl (0, 12)] = gT 18 := rfl
theorem gx_18 : gT 18 ++ [.inr (9, 2)] = gT 19 := rfl
theorem gx_19 : gT 19 ++ [.inl (0, 12)] = gT 20 := rfl
theorem gx_20 : gT 20 ++ [.inr (9, 2)] = gT 21 := rfl
theorem gx_21 : gT 21 ++ [.inl (0, 7)] = gT 22 := rfl
theorem gx_22 : gT 22 ++ [.inr (9, 2)] = gT 23 := rfl
theorem gx_23 : gT 23 ++ [.inl (0, 24)] = gT 24 := rfl
theorem gx_24 : gT 24 ++ [.inr (9, 2)] = gT 25 := rfl
theorem gx_25 : gT 25 ++ [.inl (0, 24)] = gT 26 := rfl
theorem gx_26 : gT 26 ++ [.inr (9, 2)] = gT 27 := rfl
theorem gx_27 : gT 27 ++ [.inl (0, 8)] = gT 28 := rfl
theorem gx_28 : gT 28 ++ [.inr (9, 2)] = gT 29 := rfl
theorem gx_29 : gT 29 ++ [.inl (0, 8)] = gT 30 := rfl
theorem gx_30 : gT 30 ++ [.inr (9, 2)] = gT 31 := rfl
theorem gx_31 : gT 31 ++ [.inl (0, 8)] = gT 32 := rfl
theorem gx_32 : gT 32 ++ [.inr (8, 9)] = gT 33 := rfl
theorem gx_33 : gT 33 ++ [.inr (5, 7)] = gT 34 := rfl
theorem gx_34 : gT 34 ++ [.inr (10, 1)] = gT 35 := rfl
theorem gx_35 : gT 35 ++ [.inl (2, 17)] = gT 36 := rfl
theorem gx_36 : gT 36 ++ [.inr (7, 2)] = gT 37 := rfl
theorem gx_37 : gT 37 ++ [.inr (4, 3)] = gT 38 := rfl
theorem gx_38 : gT 38 ++ [.inr (9, 2)] = gT 39 := rfl
theorem gx_39 : gT 39 ++ [.inl (0, 52)] = gT 40 := rfl
theorem gx_40 : gT 40 ++ [.inr (9, 2)] = gT 41 := rfl
theorem gx_41 : gT 41 ++ [.inl (0, 52)] = gT 42 := rfl
theorem gx_42 : gT 42 ++ [.inr (4, 3)] = gT 43 := rfl
theorem gx_43 : gT 43 ++ [.inr (9, 2)] = gT 44 := rfl
theorem gx_44 : gT 44 ++ [.inl (0, 68)] = gT 45 := rfl
theorem gx_45 : gT 45 ++ [.inr (9, 2)] = gT 46 := rfl
theorem gx_46 : gT 46 ++ [.inl (0, 68)] = gT 47 := rfl
theorem gx_47 : gT 47 ++ [.inr (1, 39)] = gT 48 := rfl
theorem gx_48 : gT 48 ++ [.inl (0, 103)] = gT 49 := rfl
theorem gx_49 : gT 49 ++ [.inl (0, 4400)] = gT 50 := rfl
theorem gx_50 : gT 50 ++ [.inl (0, 4400)] = gT 51 := rfl
theorem gx_51 : gT 51 ++ [.inl (0, 4400)] = gT 52 := rfl
theorem gx_52 : gT 52 ++ [.inl (0, 40)] = gT 53 := rfl
theorem gx_53 : gT 53 ++ [.inl (0, 40)] = gT 54 := rfl
theorem gx_54 : gT 54 ++ [.inl (0, 40)] = gT 55 := rfl
theorem gx_55 : gT 55 ++ [.inl (0, 40)] = gT 56 := rfl
theorem gx_56 : gT 56 ++ [.inl (0, 4)] = gT 57 := rfl
theorem gx_57 : gT 57 ++ [.inl (0, 48)] = gT 58 := rfl
theorem gx_58 : gT 58 ++ [.inl (0, 12)] = gT 59 := rfl
theorem gx_59 : gT 59 ++ [.inl (3, 12)] = gT 60 := rfl
theorem gx_60 : gT 60 ++ [.inl (0, 12)] = gT 61 := rfl
theorem gx_61 : gT 61 ++ [.inl (3, 12)] = gT 62 := rfl
theorem gx_62 : gT 62 ++ [.inl (0, 7)] = gT 63 := rfl
theorem gx_63 : gT 63 ++ [.inl (0, 24)] = gT 64 := rfl
theorem gx_64 : gT 64 ++ [.inl (0, 24)] = gT 65 := rfl
theorem gx_65 : gT 65 ++ [.inl (0, 8)] = gT 66 := rfl
theorem gx_66 : gT 66 ++ [.inl (0, 8)] = gT 67 := rfl
theorem gx_67 : gT 67 ++ [.inl (3, 96)] = gT 68 := rfl
theorem gx_68 : gT 68 ++ [.inl (0, 64)] = gT 69 := rfl
theorem gx_69 : gT 69 ++ [.inl (0, 64)] = gT 70 := rfl
theorem gx_70 : gT 70 ++ [.inl (0, 80)] = gT 71 := rfl
theorem gx_71 : gT 71 ++ [.inl (0, 80)] = gT 72 := rfl
theorem gx_72 : gT 72 ++ [.inl (2, 1)] = gT 73 := rfl
theorem pre_1 : ∀ i, fld Xf 0 1 i = (if i = 1 then .int 0 else if i = 0 then .ref 2 else ip_dfl (ip_fty 2 i))
  | 0 => rfl
  | 1 => rfl
  | _ + 2 => rfl
theorem pre_3 : ∀ i, fld Xf 0 3 i = (if i = 1 then .int 0 else if i = 0 then .ref 4 else ip_dfl (ip_fty 2 i))
  | 0 => rfl
  | 1 => rfl
  | _ + 2 => rfl
theorem pre_6 : ∀ i, fld Xf 0 6 i = (if i = 1 then .int 0 else if i = 0 then .ref 7 else ip_dfl (ip_fty 6 i))
  | 0 => rfl
  | 1 => rfl
  | _ + 2 => rfl
theorem pre_8 : ∀ i, fld Xf 0 8 i = (if i = 1 then .int 0 else if i = 0 then .ref 9 else ip_dfl (ip_fty 6 i))
  | 0 => rfl
  | 1 => rfl
  | _ + 2 => rfl
theorem pre_10 : ∀ i, fld Xf 0 10 i = (if i = 1 then .int 0 else if i = 0 then .ref 11 else ip_dfl (ip_fty 6 i))
  | 0 => rfl
  | 1 => rfl
  | _ + 2 => rfl
theorem pre_12 : ∀ i, fld Xf 0 12 i = (if i = 1 then .int 0 else if i = 0 then .ref 13 else ip_dfl (ip_fty 6 i))
  | 0 => rfl
  | 1 => rfl
  | _ + 2 => rfl
theorem pre_14 : ∀ i, fld Xf 0 14 i = (if i = 1 then .int (-1) else if i = 0 then .ref 15 else ip_dfl (ip_fty 9 i))
  | 0 => rfl
  | 1 => rfl
  | _ + 2 => rfl
theorem pre_16 : ∀ i, fld Xf 0 16 i = (if i = 1 then .int (-1) else if i = 0 then .ref 17 else ip_dfl (ip_fty 9 i))
  | 0 => rfl
  | 1 => rfl
  | _ + 2 => rfl
theorem pre_18 : ∀ i, fld Xf 0 18 i = (if i = 1 then .int 0 else if i = 0 then .ref 19 else ip_dfl (ip_fty 9 i))
  | 0 => rfl
  | 1 => rfl
  | _ + 2 => rfl
theorem pre_20 : ∀ i, fld Xf 0 20 i = (if i = 1 then .int (-1) else if i = 0 then .ref 21 else ip_dfl (ip_fty 9 i))
  | 0 => rfl
  | 1 => rfl
  | _ + 2 => rfl
theorem pre_22 : ∀ i, fld Xf 0 22 i = (if i = 1 then .int (-1) else if i = 0 then .ref 23 else ip_dfl (ip_fty 9 i))
  | 0 => rfl
  | 1 => rfl
  | _ + 2 => rfl
theorem pre_24 : ∀ i, fld Xf 0 24 i = (if i = 1 then .int (-1) else if i = 0 then .ref 25 else ip_dfl (ip_fty 9 i))
  | 0 => rfl
  | 1 => rfl
  | _ + 2 => rfl
theorem pre_26 : ∀ i, fld Xf 0 26 i = (if i = 1 then .int (-1) else if i = 0 then .ref 27 else ip_dfl (ip_fty 9 i))
  | 0 => rfl
  | 1 => rfl
  | _ + 2 => rfl
theorem pre_28 : ∀ i, fld Xf 0 28 i = (if i = 1 then .int (-1) else if i = 0 then .ref 29 else ip_dfl (ip_fty 9 i))
  | 0 => rfl
  | 1 => rfl
  | _ + 2 => rfl
theorem pre_30 : ∀ i, fld Xf 0 30 i = (if i = 1 then .int 0 else if i = 0 then .ref 31 else ip_dfl (ip_fty 9 i))
  | 0 => rfl
  | 1 => rfl
  | _ + 2 => rfl
theorem pre_38 : ∀ i, fld Xf 0 38 i = (if i = 1 then .int (-1) else if i = 0 then .ref 39 else ip_dfl (ip_fty 9 i))
  | 0 => rfl
  | 1 => rfl
  | _ + 2 => rfl
theorem pre_40 : ∀ i, fld Xf 0 40 i = (if i = 1 then .int (-1) else if i = 0 then .ref 41 else ip_dfl (ip_fty 9 i))
  | 0 => rfl
  | 1 => rfl
  | _ + 2 => rfl
theorem pre_43 : ∀ i, fld Xf 0 43 i = (if i = 1 then .int (-1) else if i = 0 then .ref 44 else ip_dfl (ip_fty 9 i))
  | 0 => rfl
  | 1 => rfl
  | _ + 2 => rfl
theorem pre_45 : ∀ i, fld Xf 0 45 i = (if i = 1 then .int (-1) else if i = 0 then .ref 46 else ip_dfl (ip_fty 9 i))
  | 0 => rfl
  | 1 => rfl
  | _ + 2 => rfl
section
variable {G : List ip_K} {F : Nat → Nat → Value} {I : Nat → Nat → Int32} {J : Nat → Nat → Int64} {b : ip_B} {post : Option Value → ip_H → Prop} {px : String → ip_H → Prop} {k m n : Nat} {e : Int32} {sc : Nat → Int64}
theorem d_by (hk : G[k]? = some (.inr (2, 2))) (hm : G.length = m) (hs : m < ip_SC) (b1 : 1 ≤ b.1) (b2 : 4160 ≤ b.2) (hI : ∀ j, I m j = 0) (hJ : ∀ j, J m j = 0) (hf : ∀ i, F k i = (if i = 1 then .int 0 else if i = 0 then .ref m else ip_dfl (ip_fty 2 i))) (hp : post none (G ++ [.inl (1, 4160)], F, I, J)) : ip_WP 87 0 [some (.ref k)] [] (G, fr k 2 F, I, J) b post px := c_by hk hm hs b1 b2 hI hJ (by rw [leafF hf]; exact hp)
theorem d_nm {v : Int32} (hv : v = nI n) (hk : G[k]? = some (.inr (6, 2))) (hm : G.length = m) (hs : m < ip_SC) (h0 : 0 < n) (hn : n < 1000) (b1 : 1 ≤ b.1) (b2 : n ≤ b.2) (hI : ∀ j, I m j = 0) (hJ : ∀ j, J m j = 0) (hf : ∀ i, F k i = (if i = 1 then .int 0 else if i = 0 then .ref m else ip_dfl (ip_fty 6 i))) (hp : post none (G ++ [.inl (2, n)], F, I, J)) : ip_WP 137 0 [some (.ref k), some (.int v)] [] (G, fr k 6 F, I, J) b post px := c_nm hv hk hm hs h0 hn b1 b2 hI hJ (by rw [leafF hf]; exact hp)
theorem d_row {v : Int32} (hv : v = nI n) (hk : G[k]? = some (.inr (9, 2))) (hm : G.length = m) (hs : m < ip_SC) (h0 : 0 < n) (hn : n < 1000) (b1 : 1 ≤ b.1) (b2 : n ≤ b.2) (hI : ∀ j, I m j = if j < n then e else 0) (hJ : ∀ j, J m j = 0) (hf : ∀ i, F k i = (if i = 1 then .int e else if i = 0 then .ref m else ip_dfl (ip_fty 9 i))) (hp : post none (G ++ [.inl (0, n)], F, I, J)) : ip_WP 189 0 [some (.ref k), some (.int v), some (.int e)] [] (G, fr k 9 F, I, J) b post px := c_row hv hk hm hs h0 hn b1 b2 hI hJ (by rw [leafF hf]; exact hp)
theorem rs_137_25_684 : ip_rst 137 (25, 684) = (24, 672) := by decide +kernel
theorem rs_137_23_670 : ip_rst 137 (23, 670) = (22, 658) := by decide +kernel
theorem rs_137_21_656 : ip_rst 137 (21, 656) = (20, 644) := by decide +kernel
theorem rs_137_19_642 : ip_rst 137 (19, 642) = (18, 630) := by decide +kernel
theorem rs_189_17_628 : ip_rst 189 (17, 628) = (16, 560) := by decide +kernel
theorem rs_189_15_558 : ip_rst 189 (15, 558) = (14, 490) := by decide +kernel
theorem rs_189_13_488 : ip_rst 189 (13, 488) = (12, 420) := by decide +kernel
theorem rs_189_11_418 : ip_rst 189 (11, 418) = (10, 350) := by decide +kernel
theorem rs_189_9_348 : ip_rst 189 (9, 348) = (8, 280) := by decide +kernel
theorem rs_189_7_278 : ip_rst 189 (7, 278) = (6, 210) := by decide +kernel
theorem rs_189_5_208 : ip_rst 189 (5, 208) = (4, 140) := by decide +kernel
theorem rs_189_3_138 : ip_rst 189 (3, 138) = (2, 70) := by decide +kernel
theorem rs_189_1_68 : ip_rst 189 (1, 68) = (0, 0) := by decide +kernel
theorem cc_core {F : Nat → Nat → Value} (hF : ∀ a, 5 ≤ a → F a = fld Xf 0 a) (hp : post none (gT 32, F, If, Jf sc)) : ip_WP 102 0 [some (.ref 5)] [] (gT 6, fr 5 3 F, If, Jf sc) (26, 686) post px := by
  rw [s102_0, s102_1, s102_4]
  rw [s102_5, gl_6, gx_6]
  refine ⟨by decide, by decide, ?_⟩
  show ip_WP 102 8 [some (.ref 5)] [.ref 6, .ref 5] (gT 7, fr 6 6 (fr 5 3 F), If, Jf sc) (25, 684) post px
  rw [s102_8, s102_9]
  rw [s102_11]
  refine ⟨by decide, by decide, ?_⟩
  refine d_nm (m := 7) (n := 12) (F := fr 5 3 F) rfl rfl rfl (by decide) (by decide) (by decide) (by decide) (by decide) (fun j => rfl) (fun j => rfl) (fun i => (congrFun (show (fr 5 3 F) 6 = fld Xf 0 6 from hF 6 (by decide)) i).trans (pre_6 i)) ?_
  show ip_WP 102 14 [some (.ref 5)] [.ref 6, .ref 5] (gT 7 ++ [.inl (2, 12)], fr 5 3 F, If, Jf sc) (ip_rst 137 (25, 684)) post px
  rw [gx_7, rs_137_25_684]
  rw [s102_14]
  refine ⟨by decide, by decide, ?_⟩
  rw [s102_17]
  rw [s102_18, gl_8, gx_8]
  refine ⟨by decide, by decide, ?_⟩
  show ip_WP 102 21 [some (.ref 5)] [.ref 8, .ref 5] (gT 9, fr 8 6 (ip_up (fr 5 3 F) 5 0 (.ref 6)), If, Jf sc) (23, 670) post px
  rw [s102_21, s102_22]
  rw [s102_24]
  refine ⟨by decide, by decide, ?_⟩
  refine d_nm (m := 9) (n := 12) (F := ip_up (fr 5 3 F) 5 0 (.ref 6)) rfl rfl rfl (by decide) (by decide) (by decide) (by decide) (by decide) (fun j => rfl) (fun j => rfl) (fun i => (congrFun (show (ip_up (fr 5 3 F) 5 0 (.ref 6)) 8 = fld Xf 0 8 from hF 8 (by decide)) i).trans (pre_8 i)) ?_
  show ip_WP 102 27 [some (.ref 5)] [.ref 8, .ref 5] (gT 9 ++ [.inl (2, 12)], ip_up (fr 5 3 F) 5 0 (.ref 6), If, Jf sc) (ip_rst 137 (23, 670)) post px
  rw [gx_9, rs_137_23_670]
  rw [s102_27]
  refine ⟨by decide, by decide, ?_⟩
  rw [s102_30]
  rw [s102_31, gl_10, gx_10]
  refine ⟨by decide, by decide, ?_⟩
  show ip_WP 102 34 [some (.ref 5)] [.ref 10, .ref 5] (gT 11, fr 10 6 (ip_up (ip_up (fr 5 3 F) 5 0 (.ref 6)) 5 1 (.ref 8)), If, Jf sc) (21, 656) post px
  rw [s102_34, s102_35]
  rw [s102_37]
  refine ⟨by decide, by decide, ?_⟩
  refine d_nm (m := 11) (n := 8) (F := ip_up (ip_up (fr 5 3 F) 5 0 (.ref 6)) 5 1 (.ref 8)) rfl rfl rfl (by decide) (by decide) (by decide) (by decide) (by decide) (fun j => rfl) (fun j => rfl) (fun i => (congrFun (show (ip_up (ip_up (fr 5 3 F) 5 0 (.ref 6)) 5 1 (.ref 8)) 10 = fld Xf 0 10 from hF 10 (by decide)) i).trans (pre_10 i)) ?_
  show ip_WP 102 40 [some (.ref 5)] [.ref 10, .ref 5] (gT 11 ++ [.inl (2, 8)], ip_up (ip_up (fr 5 3 F) 5 0 (.ref 6)) 5 1 (.ref 8), If, Jf sc) (ip_rst 137 (21, 656)) post px
  rw [gx_11, rs_137_21_656]
  rw [s102_40]
  refine ⟨by decide, by decide, ?_⟩
  rw [s102_43]
  rw [s102_44, gl_12, gx_12]
  refine ⟨by decide, by decide, ?_⟩
  show ip_WP 102 47 [some (.ref 5)] [.ref 12, .ref 5] (gT 13, fr 12 6 (ip_up (ip_up (ip_up (fr 5 3 F) 5 0 (.ref 6)) 5 1 (.ref 8)) 5 2 (.ref 10)), If, Jf sc) (19, 642) post px
  rw [s102_47, s102_48]
  rw [s102_50]
  refine ⟨by decide, by decide, ?_⟩
  refine d_nm (m := 13) (n := 8) (F := ip_up (ip_up (ip_up (fr 5 3 F) 5 0 (.ref 6)) 5 1 (.ref 8)) 5 2 (.ref 10)) rfl rfl rfl (by decide) (by decide) (by decide) (by decide) (by decide) (fun j => rfl) (fun j => rfl) (fun i => (congrFun (show (ip_up (ip_up (ip_up (fr 5 3 F) 5 0 (.ref 6)) 5 1 (.ref 8)) 5 2 (.ref 10)) 12 = fld Xf 0 12 from hF 12 (by decide)) i).trans (pre_12 i)) ?_
  show ip_WP 102 53 [some (.ref 5)] [.ref 12, .ref 5] (gT 13 ++ [.inl (2, 8)], ip_up (ip_up (ip_up (fr 5 3 F) 5 0 (.ref 6)) 5 1 (.ref 8)) 5 2 (.ref 10), If, Jf sc) (ip_rst 137 (19, 642)) post px
  rw [gx_13, rs_137_19_642]
  rw [s102_53]
  refine ⟨by decide, by decide, ?_⟩
  rw [s102_56]
  rw [s102_57, gl_14, gx_14]
  refine ⟨by decide, by decide, ?_⟩
  show ip_WP 102 60 [some (.ref 5)] [.ref 14, .ref 5] (gT 15, fr 14 9 (ip_up (ip_up (ip_up (ip_up (fr 5 3 F) 5 0 (.ref 6)) 5 1 (.ref 8)) 5 2 (.ref 10)) 5 3 (.ref 12)), If, Jf sc) (17, 628) post px
  rw [s102_60, s102_61, s102_63]
  rw [s102_64]
  refine ⟨by decide, by decide, ?_⟩
  refine d_row (m := 15) (n := 12) (F := ip_up (ip_up (ip_up (ip_up (fr 5 3 F) 5 0 (.ref 6)) 5 1 (.ref 8)) 5 2 (.ref 10)) 5 3 (.ref 12)) rfl rfl rfl (by decide) (by decide) (by decide) (by decide) (by decide) (fun j => rfl) (fun j => rfl) (fun i => (congrFun (show (ip_up (ip_up (ip_up (ip_up (fr 5 3 F) 5 0 (.ref 6)) 5 1 (.ref 8)) 5 2 (.ref 10)) 5 3 (.ref 12)) 14 = fld Xf 0 14 from hF 14 (by decide)) i).trans (pre_14 i)) ?_
  show ip_WP 102 67 [some (.ref 5)] [.ref 14, .ref 5] (gT 15 ++ [.inl (0, 12)], ip_up (ip_up (ip_up (ip_up (fr 5 3 F) 5 0 (.ref 6)) 5 1 (.ref 8)) 5 2 (.ref 10)) 5 3 (.ref 12), If, Jf sc) (ip_rst 189 (17, 628)) post px
  rw [gx_15, rs_189_17_628]
  rw [s102_67]
  refine ⟨by decide, by decide, ?_⟩
  rw [s102_70]
  rw [s102_71, gl_16, gx_16]
  refine ⟨by decide, by decide, ?_⟩
  show ip_WP 102 74 [some (.ref 5)] [.ref 16, .ref 5] (gT 17, fr 16 9 (ip_up (ip_up (ip_up (ip_up (ip_up (fr 5 3 F) 5 0 (.ref 6)) 5 1 (.ref 8)) 5 2 (.ref 10)) 5 3 (.ref 12)) 5 4 (.ref 14)), If, Jf sc) (15, 558) post px
  rw [s102_74, s102_75, s102_77]
  rw [s102_78]
  refine ⟨by decide, by decide, ?_⟩
  refine d_row (m := 17) (n := 12) (F := ip_up (ip_up (ip_up (ip_up (ip_up (fr 5 3 F) 5 0 (.ref 6)) 5 1 (.ref 8)) 5 2 (.ref 10)) 5 3 (.ref 12)) 5 4 (.ref 14)) rfl rfl rfl (by decide) (by decide) (by decide) (by decide) (by decide) (fun j => rfl) (fun j => rfl) (fun i => (congrFun (show (ip_up (ip_up (ip_up (ip_up (ip_up (fr 5 3 F) 5 0 (.ref 6)) 5 1 (.ref 8)) 5 2 (.ref 10)) 5 3 (.ref 12)) 5 4 (.ref 14)) 16 = fld Xf 0 16 from hF 16 (by decide)) i).trans (pre_16 i)) ?_
  show ip_WP 102 81 [some (.ref 5)] [.ref 16, .ref 5] (gT 17 ++ [.inl (0, 12)], ip_up (ip_up (ip_up (ip_up (ip_up (fr 5 3 F) 5 0 (.ref 6)) 5 1 (.ref 8)) 5 2 (.ref 10)) 5 3 (.ref 12)) 5 4 (.ref 14), If, Jf sc) (ip_rst 189 (15, 558)) post px
  rw [gx_17, rs_189_15_558]
  rw [s102_81]
  refine ⟨by decide, by decide, ?_⟩
  rw [s102_84]
  rw [s102_85, gl_18, gx_18]
  refine ⟨by decide, by decide, ?_⟩
  show ip_WP 102 88 [some (.ref 5)] [.ref 18, .ref 5] (gT 19, fr 18 9 (ip_up (ip_up (ip_up (ip_up (ip_up (ip_up (fr 5 3 F) 5 0 (.ref 6)) 5 1 (.ref 8)) 5 2 (.ref 10)) 5 3 (.ref 12)) 5 4 (.ref 14)) 5 5 (.ref 16)), If, Jf sc) (13, 488) post px
  rw [s102_88, s102_89, s102_91]
  rw [s102_92]
  refine ⟨by decide, by decide, ?_⟩
  refine d_row (m := 19) (n := 12) (F := ip_up (ip_up (ip_up (ip_up (ip_up (ip_up (fr 5 3 F) 5 0 (.ref 6)) 5 1 (.ref 8)) 5 2 (.ref 10)) 5 3 (.ref 12)) 5 4 (.ref 14)) 5 5 (.ref 16)) rfl rfl rfl (by decide) (by decide) (by decide) (by decide) (by decide) (fun j => by split <;> rfl) (fun j => rfl) (fun i => (congrFun (show (ip_up (ip_up (ip_up (ip_up (ip_up (ip_up (fr 5 3 F) 5 0 (.ref 6)) 5 1 (.ref 8)) 5 2 (.ref 10)) 5 3 (.ref 12)) 5 4 (.ref 14)) 5 5 (.ref 16)) 18 = fld Xf 0 18 from hF 18 (by decide)) i).trans (pre_18 i)) ?_
  show ip_WP 102 95 [some (.ref 5)] [.ref 18, .ref 5] (gT 19 ++ [.inl (0, 12)], ip_up (ip_up (ip_up (ip_up (ip_up (ip_up (fr 5 3 F) 5 0 (.ref 6)) 5 1 (.ref 8)) 5 2 (.ref 10)) 5 3 (.ref 12)) 5 4 (.ref 14)) 5 5 (.ref 16), If, Jf sc) (ip_rst 189 (13, 488)) post px
  rw [gx_19, rs_189_13_488]
  rw [s102_95]
  refine ⟨by decide, by decide, ?_⟩
  rw [s102_98]
  rw [s102_99, gl_20, gx_20]
  refine ⟨by decide, by decide, ?_⟩
  show ip_WP 102 102 [some (.ref 5)] [.ref 20, .ref 5] (gT 21, fr 20 9 (ip_up (ip_up (ip_up (ip_up (ip_up (ip_up (ip_up (fr 5 3 F) 5 0 (.ref 6)) 5 1 (.ref 8)) 5 2 (.ref 10)) 5 3 (.ref 12)) 5 4 (.ref 14)) 5 5 (.ref 16)) 5 6 (.ref 18)), If, Jf sc) (11, 418) post px
  rw [s102_102, s102_103, s102_105]
  rw [s102_106]
  refine ⟨by decide, by decide, ?_⟩
  refine d_row (m := 21) (n := 7) (F := ip_up (ip_up (ip_up (ip_up (ip_up (ip_up (ip_up (fr 5 3 F) 5 0 (.ref 6)) 5 1 (.ref 8)) 5 2 (.ref 10)) 5 3 (.ref 12)) 5 4 (.ref 14)) 5 5 (.ref 16)) 5 6 (.ref 18)) rfl rfl rfl (by decide) (by decide) (by decide) (by decide) (by decide) (fun j => rfl) (fun j => rfl) (fun i => (congrFun (show (ip_up (ip_up (ip_up (ip_up (ip_up (ip_up (ip_up (fr 5 3 F) 5 0 (.ref 6)) 5 1 (.ref 8)) 5 2 (.ref 10)) 5 3 (.ref 12)) 5 4 (.ref 14)) 5 5 (.ref 16)) 5 6 (.ref 18)) 20 = fld Xf 0 20 from hF 20 (by decide)) i).trans (pre_20 i)) ?_
  show ip_WP 102 109 [some (.ref 5)] [.ref 20, .ref 5] (gT 21 ++ [.inl (0, 7)], ip_up (ip_up (ip_up (ip_up (ip_up (ip_up (ip_up (fr 5 3 F) 5 0 (.ref 6)) 5 1 (.ref 8)) 5 2 (.ref 10)) 5 3 (.ref 12)) 5 4 (.ref 14)) 5 5 (.ref 16)) 5 6 (.ref 18), If, Jf sc) (ip_rst 189 (11, 418)) post px
  rw [gx_21, rs_189_11_418]
  rw [s102_109]
  refine ⟨by decide, by decide, ?_⟩
  rw [s102_112]
  rw [s102_113, gl_22, gx_22]
  refine ⟨by decide, by decide, ?_⟩
  show ip_WP 102 116 [some (.ref 5)] [.ref 22, .ref 5] (gT 23, fr 22 9 (ip_up (ip_up (ip_up (ip_up (ip_up (ip_up (ip_up (ip_up (fr 5 3 F) 5 0 (.ref 6)) 5 1 (.ref 8)) 5 2 (.ref 10)) 5 3 (.ref 12)) 5 4 (.ref 14)) 5 5 (.ref 16)) 5 6 (.ref 18)) 5 7 (.ref 20)), If, Jf sc) (9, 348) post px
  rw [s102_116, s102_117, s102_119]
  rw [s102_120]
  refine ⟨by decide, by decide, ?_⟩
  refine d_row (m := 23) (n := 24) (F := ip_up (ip_up (ip_up (ip_up (ip_up (ip_up (ip_up (ip_up (fr 5 3 F) 5 0 (.ref 6)) 5 1 (.ref 8)) 5 2 (.ref 10)) 5 3 (.ref 12)) 5 4 (.ref 14)) 5 5 (.ref 16)) 5 6 (.ref 18)) 5 7 (.ref 20)) rfl rfl rfl (by decide) (by decide) (by decide) (by decide) (by decide) (fun j => rfl) (fun j => rfl) (fun i => (congrFun (show (ip_up (ip_up (ip_up (ip_up (ip_up (ip_up (ip_up (ip_up (fr 5 3 F) 5 0 (.ref 6)) 5 1 (.ref 8)) 5 2 (.ref 10)) 5 3 (.ref 12)) 5 4 (.ref 14)) 5 5 (.ref 16)) 5 6 (.ref 18)) 5 7 (.ref 20)) 22 = fld Xf 0 22 from hF 22 (by decide)) i).trans (pre_22 i)) ?_
  show ip_WP 102 123 [some (.ref 5)] [.ref 22, .ref 5] (gT 23 ++ [.inl (0, 24)], ip_up (ip_up (ip_up (ip_up (ip_up (ip_up (ip_up (ip_up (fr 5 3 F) 5 0 (.ref 6)) 5 1 (.ref 8)) 5 2 (.ref 10)) 5 3 (.ref 12)) 5 4 (.ref 14)) 5 5 (.ref 16)) 5 6 (.ref 18)) 5 7 (.ref 20), If, Jf sc) (ip_rst 189 (9, 348)) post px
  rw [gx_23, rs_189_9_348]
  rw [s102_123]
  refine ⟨by decide, by decide, ?_⟩
  rw [s102_126]
  rw [s102_127, gl_24, gx_24]
  refine ⟨by decide, by decide, ?_⟩
  show ip_WP 102 130 [some (.ref 5)] [.ref 24, .ref 5] (gT 25, fr 24 9 (ip_up (ip_up (ip_up (ip_up (ip_up (ip_up (ip_up (ip_up (ip_up (fr 5 3 F) 5 0 (.ref 6)) 5 1 (.ref 8)) 5 2 (.ref 10)) 5 3 (.ref 12)) 5 4 (.ref 14)) 5 5 (.ref 16)) 5 6 (.ref 18)) 5 7 (.ref 20)) 5 8 (.ref 22)), If, Jf sc) (7, 278) post px
  rw [s102_130, s102_131, s102_133]
  rw [s102_134]
  refine ⟨by decide, by decide, ?_⟩
  refine d_row (m := 25) (n := 24) (F := ip_up (ip_up (ip_up (ip_up (ip_up (ip_up (ip_up (ip_up (ip_up (fr 5 3 F) 5 0 (.ref 6)) 5 1 (.ref 8)) 5 2 (.ref 10)) 5 3 (.ref 12)) 5 4 (.ref 14)) 5 5 (.ref 16)) 5 6 (.ref 18)) 5 7 (.ref 20)) 5 8 (.ref 22)) rfl rfl rfl (by decide) (by decide) (by decide) (by decide) (by decide) (fun j => rfl) (fun j => rfl) (fun i => (congrFun (show (ip_up (ip_up (ip_up (ip_up (ip_up (ip_up (ip_up (ip_up (ip_up (fr 5 3 F) 5 0 (.ref 6)) 5 1 (.ref 8)) 5 2 (.ref 10)) 5 3 (.ref 12)) 5 4 (.ref 14)) 5 5 (.ref 16)) 5 6 (.ref 18)) 5 7 (.ref 20)) 5 8 (.ref 22)) 24 = fld Xf 0 24 from hF 24 (by decide)) i).trans (pre_24 i)) ?_
  show ip_WP 102 137 [some (.ref 5)] [.ref 24, .ref 5] (gT 25 ++ [.inl (0, 24)], ip_up (ip_up (ip_up (ip_up (ip_up (ip_up (ip_up (ip_up (ip_up (fr 5 3 F) 5 0 (.ref 6)) 5 1 (.ref 8)) 5 2 (.ref 10)) 5 3 (.ref 12)) 5 4 (.ref 14)) 5 5 (.ref 16)) 5 6 (.ref 18)) 5 7 (.ref 20)) 5 8 (.ref 22), If, Jf sc) (ip_rst 189 (7, 278)) post px
  rw [gx_25, rs_189_7_278]
  rw [s102_137]
  refine ⟨by decide, by decide, ?_⟩
  rw [s102_140]
  rw [s102_141, gl_26, gx_26]
  refine ⟨by decide, by decide, ?_⟩
  show ip_WP 102 144 [some (.ref 5)] [.ref 26, .ref 5] (gT 27, fr 26 9 (ip_up (ip_up (ip_up (ip_up (ip_up (ip_up (ip_up (ip_up (ip_up (ip_up (fr 5 3 F) 5 0 (.ref 6)) 5 1 (.ref 8)) 5 2 (.ref 10)) 5 3 (.ref 12)) 5 4 (.ref 14)) 5 5 (.ref 16)) 5 6 (.ref 18)) 5 7 (.ref 20)) 5 8 (.ref 22)) 5 9 (.ref 24)), If, Jf sc) (5, 208) post px
  rw [s102_144, s102_145, s102_147]
  rw [s102_148]
  refine ⟨by decide, by decide, ?_⟩
  refine d_row (m := 27) (n := 8) (F := ip_up (ip_up (ip_up (ip_up (ip_up (ip_up (ip_up (ip_up (ip_up (ip_up (fr 5 3 F) 5 0 (.ref 6)) 5 1 (.ref 8)) 5 2 (.ref 10)) 5 3 (.ref 12)) 5 4 (.ref 14)) 5 5 (.ref 16)) 5 6 (.ref 18)) 5 7 (.ref 20)) 5 8 (.ref 22)) 5 9 (.ref 24)) rfl rfl rfl (by decide) (by decide) (by decide) (by decide) (by decide) (fun j => rfl) (fun j => rfl) (fun i => (congrFun (show (ip_up (ip_up (ip_up (ip_up (ip_up (ip_up (ip_up (ip_up (ip_up (ip_up (fr 5 3 F) 5 0 (.ref 6)) 5 1 (.ref 8)) 5 2 (.ref 10)) 5 3 (.ref 12)) 5 4 (.ref 14)) 5 5 (.ref 16)) 5 6 (.ref 18)) 5 7 (.ref 20)) 5 8 (.ref 22)) 5 9 (.ref 24)) 26 = fld Xf 0 26 from hF 26 (by decide)) i).trans (pre_26 i)) ?_
  show ip_WP 102 151 [some (.ref 5)] [.ref 26, .ref 5] (gT 27 ++ [.inl (0, 8)], ip_up (ip_up (ip_up (ip_up (ip_up (ip_up (ip_up (ip_up (ip_up (ip_up (fr 5 3 F) 5 0 (.ref 6)) 5 1 (.ref 8)) 5 2 (.ref 10)) 5 3 (.ref 12)) 5 4 (.ref 14)) 5 5 (.ref 16)) 5 6 (.ref 18)) 5 7 (.ref 20)) 5 8 (.ref 22)) 5 9 (.ref 24), If, Jf sc) (ip_rst 189 (5, 208)) post px
  rw [gx_27, rs_189_5_208]
  rw [s102_151]
  refine ⟨by decide, by decide, ?_⟩
  rw [s102_154]
  rw [s102_155, gl_28, gx_28]
  refine ⟨by decide, by decide, ?_⟩
  show ip_WP 102 158 [some (.ref 5)] [.ref 28, .ref 5] (gT 29, fr 28 9 (ip_up (ip_up (ip_up (ip_up (ip_up (ip_up (ip_up (ip_up (ip_up (ip_up (ip_up (fr 5 3 F) 5 0 (.ref 6)) 5 1 (.ref 8)) 5 2 (.ref 10)) 5 3 (.ref 12)) 5 4 (.ref 14)) 5 5 (.ref 16)) 5 6 (.ref 18)) 5 7 (.ref 20)) 5 8 (.ref 22)) 5 9 (.ref 24)) 5 10 (.ref 26)), If, Jf sc) (3, 138) post px
  rw [s102_158, s102_159, s102_161]
  rw [s102_162]
  refine ⟨by decide, by decide, ?_⟩
  refine d_row (m := 29) (n := 8) (F := ip_up (ip_up (ip_up (ip_up (ip_up (ip_up (ip_up (ip_up (ip_up (ip_up (ip_up (fr 5 3 F) 5 0 (.ref 6)) 5 1 (.ref 8)) 5 2 (.ref 10)) 5 3 (.ref 12)) 5 4 (.ref 14)) 5 5 (.ref 16)) 5 6 (.ref 18)) 5 7 (.ref 20)) 5 8 (.ref 22)) 5 9 (.ref 24)) 5 10 (.ref 26)) rfl rfl rfl (by decide) (by decide) (by decide) (by decide) (by decide) (fun j => rfl) (fun j => rfl) (fun i => (congrFun (show (ip_up (ip_up (ip_up (ip_up (ip_up (ip_up (ip_up (ip_up (ip_up (ip_up (ip_up (fr 5 3 F) 5 0 (.ref 6)) 5 1 (.ref 8)) 5 2 (.ref 10)) 5 3 (.ref 12)) 5 4 (.ref 14)) 5 5 (.ref 16)) 5 6 (.ref 18)) 5 7 (.ref 20)) 5 8 (.ref 22)) 5 9 (.ref 24)) 5 10 (.ref 26)) 28 = fld Xf 0 28 from hF 28 (by decide)) i).trans (pre_28 i)) ?_
  show ip_WP 102 165 [some (.ref 5)] [.ref 28, .ref 5] (gT 29 ++ [.inl (0, 8)], ip_up (ip_up (ip_up (ip_up (ip_up (ip_up (ip_up (ip_up (ip_up (ip_up (ip_up (fr 5 3 F) 5 0 (.ref 6)) 5 1 (.ref 8)) 5 2 (.ref 10)) 5 3 (.ref 12)) 5 4 (.ref 14)) 5 5 (.ref 16)) 5 6 (.ref 18)) 5 7 (.ref 20)) 5 8 (.ref 22)) 5 9 (.ref 24)) 5 10 (.ref 26), If, Jf sc) (ip_rst 189 (3, 138)) post px
  rw [gx_29, rs_189_3_138]
  rw [s102_165]
  refine ⟨by decide, by decide, ?_⟩
  rw [s102_168]
  rw [s102_169, gl_30, gx_30]
  refine ⟨by decide, by decide, ?_⟩
  show ip_WP 102 172 [some (.ref 5)] [.ref 30, .ref 5] (gT 31, fr 30 9 (ip_up (ip_up (ip_up (ip_up (ip_up (ip_up (ip_up (ip_up (ip_up (ip_up (ip_up (ip_up (fr 5 3 F) 5 0 (.ref 6)) 5 1 (.ref 8)) 5 2 (.ref 10)) 5 3 (.ref 12)) 5 4 (.ref 14)) 5 5 (.ref 16)) 5 6 (.ref 18)) 5 7 (.ref 20)) 5 8 (.ref 22)) 5 9 (.ref 24)) 5 10 (.ref 26)) 5 11 (.ref 28)), If, Jf sc) (1, 68) post px
  rw [s102_172, s102_173, s102_175]
  rw [s102_176]
  refine ⟨by decide, by decide, ?_⟩
  refine d_row (m := 31) (n := 8) (F := ip_up (ip_up (ip_up (ip_up (ip_up (ip_up (ip_up (ip_up (ip_up (ip_up (ip_up (ip_up (fr 5 3 F) 5 0 (.ref 6)) 5 1 (.ref 8)) 5 2 (.ref 10)) 5 3 (.ref 12)) 5 4 (.ref 14)) 5 5 (.ref 16)) 5 6 (.ref 18)) 5 7 (.ref 20)) 5 8 (.ref 22)) 5 9 (.ref 24)) 5 10 (.ref 26)) 5 11 (.ref 28)) rfl rfl rfl (by decide) (by decide) (by decide) (by decide) (by decide) (fun j => by split <;> rfl) (fun j => rfl) (fun i => (congrFun (show (ip_up (ip_up (ip_up (ip_up (ip_up (ip_up (ip_up (ip_up (ip_up (ip_up (ip_up (ip_up (fr 5 3 F) 5 0 (.ref 6)) 5 1 (.ref 8)) 5 2 (.ref 10)) 5 3 (.ref 12)) 5 4 (.ref 14)) 5 5 (.ref 16)) 5 6 (.ref 18)) 5 7 (.ref 20)) 5 8 (.ref 22)) 5 9 (.ref 24)) 5 10 (.ref 26)) 5 11 (.ref 28)) 30 = fld Xf 0 30 from hF 30 (by decide)) i).trans (pre_30 i)) ?_
  show ip_WP 102 179 [some (.ref 5)] [.ref 30, .ref 5] (gT 31 ++ [.inl (0, 8)], ip_up (ip_up (ip_up (ip_up (ip_up (ip_up (ip_up (ip_up (ip_up (ip_up (ip_up (ip_up (fr 5 3 F) 5 0 (.ref 6)) 5 1 (.ref 8)) 5 2 (.ref 10)) 5 3 (.ref 12)) 5 4 (.ref 14)) 5 5 (.ref 16)) 5 6 (.ref 18)) 5 7 (.ref 20)) 5 8 (.ref 22)) 5 9 (.ref 24)) 5 10 (.ref 26)) 5 11 (.ref 28), If, Jf sc) (ip_rst 189 (1, 68)) post px
  rw [gx_31, rs_189_1_68]
  rw [s102_179]
  refine ⟨by decide, by decide, ?_⟩
  rw [s102_182, s102_183]
  rw [s102_184]
  refine ⟨by decide, ?_⟩
  rw [s102_187, s102_188]
  rw [s102_189]
  refine ⟨by decide, ?_⟩
  rw [s102_192]
  have e : ip_up (ip_up (ip_up (ip_up (ip_up (ip_up (ip_up (ip_up (ip_up (ip_up (ip_up (ip_up (ip_up (ip_up (ip_up (fr 5 3 F) 5 0 (.ref 6)) 5 1 (.ref 8)) 5 2 (.ref 10)) 5 3 (.ref 12)) 5 4 (.ref 14)) 5 5 (.ref 16)) 5 6 (.ref 18)) 5 7 (.ref 20)) 5 8 (.ref 22)) 5 9 (.ref 24)) 5 10 (.ref 26)) 5 11 (.ref 28)) 5 12 (.ref 30)) 5 13 (.int 0)) 5 14 (.int 0) = F := by
    funext a i
    by_cases q : a = 5
    · subst q
      rw [hF 5 (Nat.le_refl _)]
      match i with
      | 0 => rfl
      | 1 => rfl
      | 2 => rfl
      | 3 => rfl
      | 4 => rfl
      | 5 => rfl
      | 6 => rfl
      | 7 => rfl
      | 8 => rfl
      | 9 => rfl
      | 10 => rfl
      | 11 => rfl
      | 12 => rfl
      | 13 => rfl
      | 14 => rfl
      | i + 15 => rfl
    · simp [ip_up, fr, q]
  rw [e]
  exact hp
theorem cc_find37 {F : Nat → Nat → Value} (hF : ∀ a, 37 ≤ a → F a = fld Xf 0 a) (hp : post none (gT 42, F, If, Jf sc)) : ip_WP 119 0 [some (.ref 37), some (.int 52)] [] (gT 38, fr 37 4 F, If, Jf sc) (4, 140) post px := by
  rw [s119_0, s119_1, s119_4]
  rw [s119_5, gl_38, gx_38]
  refine ⟨by decide, by decide, ?_⟩
  show ip_WP 119 8 [some (.ref 37), some (.int 52)] [.ref 38, .ref 37] (gT 39, fr 38 9 (fr 37 4 F), If, Jf sc) (3, 138) post px
  rw [s119_8, s119_9, s119_10]
  rw [s119_11]
  refine ⟨by decide, by decide, ?_⟩
  refine d_row (m := 39) (n := 52) (F := fr 37 4 F) rfl rfl rfl (by decide) (by decide) (by decide) (by decide) (by decide) (fun j => rfl) (fun j => rfl) (fun i => (congrFun (show (fr 37 4 F) 38 = fld Xf 0 38 from hF 38 (by decide)) i).trans (pre_38 i)) ?_
  show ip_WP 119 14 [some (.ref 37), some (.int 52)] [.ref 38, .ref 37] (gT 39 ++ [.inl (0, 52)], fr 37 4 F, If, Jf sc) (ip_rst 189 (3, 138)) post px
  rw [gx_39, rs_189_3_138]
  rw [s119_14]
  refine ⟨by decide, by decide, ?_⟩
  rw [s119_17]
  rw [s119_18, gl_40, gx_40]
  refine ⟨by decide, by decide, ?_⟩
  show ip_WP 119 21 [some (.ref 37), some (.int 52)] [.ref 40, .ref 37] (gT 41, fr 40 9 (ip_up (fr 37 4 F) 37 0 (.ref 38)), If, Jf sc) (1, 68) post px
  rw [s119_21, s119_22, s119_23]
  rw [s119_24]
  refine ⟨by decide, by decide, ?_⟩
  refine d_row (m := 41) (n := 52) (F := ip_up (fr 37 4 F) 37 0 (.ref 38)) rfl rfl rfl (by decide) (by decide) (by decide) (by decide) (by decide) (fun j => rfl) (fun j => rfl) (fun i => (congrFun (show (ip_up (fr 37 4 F) 37 0 (.ref 38)) 40 = fld Xf 0 40 from hF 40 (by decide)) i).trans (pre_40 i)) ?_
  show ip_WP 119 27 [some (.ref 37), some (.int 52)] [.ref 40, .ref 37] (gT 41 ++ [.inl (0, 52)], ip_up (fr 37 4 F) 37 0 (.ref 38), If, Jf sc) (ip_rst 189 (1, 68)) post px
  rw [gx_41, rs_189_1_68]
  rw [s119_27]
  refine ⟨by decide, by decide, ?_⟩
  rw [s119_30, s119_31]
  rw [s119_32]
  refine ⟨by decide, ?_⟩
  rw [s119_35]
  have e : ip_up (ip_up (ip_up (fr 37 4 F) 37 0 (.ref 38)) 37 1 (.ref 40)) 37 2 (.int 0) = F := by
    funext a i
    by_cases q : a = 37
    · subst q
      rw [hF 37 (Nat.le_refl _)]
      match i with
      | 0 => rfl
      | 1 => rfl
      | 2 => rfl
      | i + 3 => rfl
    · simp [ip_up, fr, q]
  rw [e]
  exact hp
theorem cc_find42 {F : Nat → Nat → Value} (hF : ∀ a, 42 ≤ a → F a = fld Xf 0 a) (hp : post none (gT 47, F, If, Jf sc)) : ip_WP 119 0 [some (.ref 42), some (.int 68)] [] (gT 43, fr 42 4 F, If, Jf sc) (4, 140) post px := by
  rw [s119_0, s119_1, s119_4]
  rw [s119_5, gl_43, gx_43]
  refine ⟨by decide, by decide, ?_⟩
  show ip_WP 119 8 [some (.ref 42), some (.int 68)] [.ref 43, .ref 42] (gT 44, fr 43 9 (fr 42 4 F), If, Jf sc) (3, 138) post px
  rw [s119_8, s119_9, s119_10]
  rw [s119_11]
  refine ⟨by decide, by decide, ?_⟩
  refine d_row (m := 44) (n := 68) (F := fr 42 4 F) rfl rfl rfl (by decide) (by decide) (by decide) (by decide) (by decide) (fun j => rfl) (fun j => rfl) (fun i => (congrFun (show (fr 42 4 F) 43 = fld Xf 0 43 from hF 43 (by decide)) i).trans (pre_43 i)) ?_
  show ip_WP 119 14 [some (.ref 42), some (.int 68)] [.ref 43, .ref 42] (gT 44 ++ [.inl (0, 68)], fr 42 4 F, If, Jf sc) (ip_rst 189 (3, 138)) post px
  rw [gx_44, rs_189_3_138]
  rw [s119_14]
  refine ⟨by decide, by decide, ?_⟩
  rw [s119_17]
  rw [s119_18, gl_45, gx_45]
  refine ⟨by decide, by decide, ?_⟩
  show ip_WP 119 21 [some (.ref 42), some (.int 68)] [.ref 45, .ref 42] (gT 46, fr 45 9 (ip_up (fr 42 4 F) 42 0 (.ref 43)), If, Jf sc) (1, 68) post px
  rw [s119_21, s119_22, s119_23]
  rw [s119_24]
  refine ⟨by decide, by decide, ?_⟩
  refine d_row (m := 46) (n := 68) (F := ip_up (fr 42 4 F) 42 0 (.ref 43)) rfl rfl rfl (by decide) (by decide) (by decide) (by decide) (by decide) (fun j => rfl) (fun j => rfl) (fun i => (congrFun (show (ip_up (fr 42 4 F) 42 0 (.ref 43)) 45 = fld Xf 0 45 from hF 45 (by decide)) i).trans (pre_45 i)) ?_
  show ip_WP 119 27 [some (.ref 42), some (.int 68)] [.ref 45, .ref 42] (gT 46 ++ [.inl (0, 68)], ip_up (fr 42 4 F) 42 0 (.ref 43), If, Jf sc) (ip_rst 189 (1, 68)) post px
  rw [gx_46, rs_189_1_68]
  rw [s119_27]
  refine ⟨by decide, by decide, ?_⟩
  rw [s119_30, s119_31]
  rw [s119_32]
  refine ⟨by decide, ?_⟩
  rw [s119_35]
  have e : ip_up (ip_up (ip_up (fr 42 4 F) 42 0 (.ref 43)) 42 1 (.ref 45)) 42 2 (.int 0) = F := by
    funext a i
    by_cases q : a = 42
    · subst q
      rw [hF 42 (Nat.le_refl _)]
      match i with
      | 0 => rfl
      | 1 => rfl
      | 2 => rfl
      | i + 3 => rfl
    · simp [ip_up, fr, q]
  rw [e]
  exact hp
theorem cc_printer {F : Nat → Nat → Value} (hF : ∀ a, 36 ≤ a → F a = fld Xf 0 a) (hp : post none (gT 37, F, If, Jf sc)) : ip_WP 149 0 [some (.ref 36), some (.ref 5), some (.ref 3)] [] (gT 37, fr 36 7 F, If, Jf sc) (0, 0) post px := by
  rw [s149_0, s149_1, s149_4, s149_5]
  rw [s149_6]
  refine ⟨by decide, by decide, ?_⟩
  rw [s149_9, s149_10]
  rw [s149_11]
  refine ⟨by decide, by decide, ?_⟩
  rw [s149_14]
  have e : ip_up (ip_up (fr 36 7 F) 36 0 (.ref 5)) 36 1 (.ref 3) = F := by
    funext a i
    by_cases q : a = 36
    · subst q
      rw [hF 36 (Nat.le_refl _)]
      match i with
      | 0 => rfl
      | 1 => rfl
      | i + 2 => rfl
    · simp [ip_up, fr, q]
  rw [e]
  exact hp
end
