/-! the words of the three exceptions (printed by gen/emit_throw.py) -/
def ip_xix : List (String × Nat × Nat) := [("java/lang/IllegalStateException", 66, 70), ("java/lang/IllegalArgumentException", 76, 80), ("java/lang/IndexOutOfBoundsException", 106, 110)]
def ip_oA (ic : Nat) (E : String) : List Cond := Bundle.ownAtoms "CoreText" ic E ["java/lang/RuntimeException", "java/lang/Exception"]
def ip_isS : List Cond := [.isRef (.static "java/lang/Throwable" "UNASSIGNED_STACK" "[Ljava/lang/StackTraceElement;"), .isRef (.static "java/lang/Throwable" "SUPPRESSED_SENTINEL" "Ljava/util/List;"), .laysStatic "java/lang/Throwable" "UNASSIGNED_STACK" "[Ljava/lang/StackTraceElement;", .laysStatic "java/lang/Throwable" "SUPPRESSED_SENTINEL" "Ljava/util/List;"] ++ ip_xf
/-- words by their places -/
def ip_xwc (ks : List Cond) (ps : List Nat) : Bool := (List.range ks.length).all (fun i => match ks[i]? with
  | some a => (decide (tables_1[ps.getD i 0]? = some a) && goodWord a) || decide (a ∈ ip_isS)
  | none => true)
theorem ip_xw {ks : List Cond} {ps : List Nat} (h : ip_xwc ks ps = true) : ∀ w ∈ ks, w ∈ ip_gw ∨ w ∈ ip_isS := by
  intro w hw
  obtain ⟨i, hi⟩ := List.getElem?_of_mem hw
  have h1 := List.all_eq_true.mp h i (List.mem_range.mpr (List.getElem?_eq_some_iff.mp hi).1)
  simp only [hi, Bool.or_eq_true, Bool.and_eq_true, decide_eq_true_eq] at h1
  rcases h1 with ⟨a, b⟩ | a
  · exact Or.inl (ip_gw_t a b)
  · exact Or.inr a
def ip_xp0 : List Nat := [17, 602, 611, 615, 618, 620, 603, 604, 30, 31, 605, 610, 616, 636, 592, 637, 594, 638, 596, 606, 607, 608, 609, 598, 632, 633, 635, 598, 623, 624, 625, 626, 584, 626, 627, 628, 629, 586, 629, 630, 631, 632, 588, 622, 581, 582, 589, 590, 591, 593, 595, 597, 10000, 10000, 601, 600, 599]
set_option maxRecDepth 100000 in
theorem ip_xw0 : ∀ w ∈ ip_oA 70 "java/lang/IllegalStateException", w ∈ ip_gw ∨ w ∈ ip_isS := ip_xw (ps := ip_xp0) (by decide +kernel)
set_option maxRecDepth 100000 in
theorem ip_xc0 : Cond.classLink "CoreText" 66 "java/lang/IllegalStateException" ∈ ip_gw ∧ Cond.initialized "java/lang/IllegalStateException" ∈ ip_gw := ⟨ip_gw_t (i := 580) (by decide +kernel) (by decide +kernel), ip_gw_t (i := 20) (by decide +kernel) (by decide +kernel)⟩
def ip_xp1 : List Nat := [17, 602, 611, 615, 618, 620, 603, 604, 30, 31, 605, 610, 616, 636, 592, 637, 594, 638, 596, 606, 607, 608, 609, 598, 632, 633, 635, 598, 670, 671, 672, 626, 584, 626, 627, 628, 629, 586, 629, 630, 631, 632, 588, 669, 660, 661, 662, 613, 663, 664, 665, 666, 10000, 10000, 601, 600, 667]
set_option maxRecDepth 100000 in
theorem ip_xw1 : ∀ w ∈ ip_oA 80 "java/lang/IllegalArgumentException", w ∈ ip_gw ∨ w ∈ ip_isS := ip_xw (ps := ip_xp1) (by decide +kernel)
set_option maxRecDepth 100000 in
theorem ip_xc1 : Cond.classLink "CoreText" 76 "java/lang/IllegalArgumentException" ∈ ip_gw ∧ Cond.initialized "java/lang/IllegalArgumentException" ∈ ip_gw := ⟨ip_gw_t (i := 659) (by decide +kernel) (by decide +kernel), ip_gw_t (i := 21) (by decide +kernel) (by decide +kernel)⟩
def ip_xp2 : List Nat := [17, 602, 611, 615, 618, 620, 603, 604, 30, 31, 605, 610, 616, 636, 592, 637, 594, 638, 596, 606, 607, 608, 609, 598, 632, 633, 635, 598, 930, 931, 932, 626, 584, 626, 627, 628, 629, 586, 629, 630, 631, 632, 588, 929, 920, 921, 922, 614, 923, 924, 925, 926, 10000, 10000, 601, 600, 927]
set_option maxRecDepth 100000 in
theorem ip_xw2 : ∀ w ∈ ip_oA 110 "java/lang/IndexOutOfBoundsException", w ∈ ip_gw ∨ w ∈ ip_isS := ip_xw (ps := ip_xp2) (by decide +kernel)
set_option maxRecDepth 100000 in
theorem ip_xc2 : Cond.classLink "CoreText" 106 "java/lang/IndexOutOfBoundsException" ∈ ip_gw ∧ Cond.initialized "java/lang/IndexOutOfBoundsException" ∈ ip_gw := ⟨ip_gw_t (i := 919) (by decide +kernel) (by decide +kernel), ip_gw_t (i := 22) (by decide +kernel) (by decide +kernel)⟩

