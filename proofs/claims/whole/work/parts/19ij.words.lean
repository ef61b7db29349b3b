/-! the words of the three exceptions (printed by gen/emit_throw.py) -/
def ip_xix : List (String × Nat × Nat) := [("java/lang/IllegalStateException", 66, 70), ("java/lang/IllegalArgumentException", 76, 80), ("java/lang/IndexOutOfBoundsException", 106, 110)]
def ip_oA (ic : Nat) (E : String) : List Cond := Bundle.ownAtoms "CoreText" ic E ["java/lang/RuntimeException", "java/lang/Exception"]
def ip_isS : List Cond := [.isRef (.static "java/lang/Throwable" "UNASSIGNED_STACK" "[Ljava/lang/StackTraceElement;"), .isRef (.static "java/lang/Throwable" "SUPPRESSED_SENTINEL" "Ljava/util/List;"), .laysStatic "java/lang/Throwable" "UNASSIGNED_STACK" "[Ljava/lang/StackTraceElement;", .laysStatic "java/lang/Throwable" "SUPPRESSED_SENTINEL" "Ljava/util/List;"] ++ ip_xf
/-- words by their places -/
def ip_xwc (ks : List Cond) (ps : List Nat) : Bool := (List.range ks.length).all (fun i => match ks[i]? with
  | some a => (decide (tables_1[ps.getD i 0]? = some a) && goodWord a) || decide (a ∈ ip_isS)
  | none => true)
theorem ip_xw {ks : List Cond} {ps : List Nat} (h : ip_xwc ks ps = true) : ∀ w ∈ ks, w ∈ ip_gw ∨ w ∈ ip_isS := by
  intro w hw
  obtain ⟨i, hi⟩ := List.getElem?_of_mem hw
  have h1 := List.all_eq_true.mp h i (List.mem_range.mpr (List.getElem?_eq_some_iff.mp hi).1)
  simp only [hi, Bool.or_eq_true, Bool.and_eq_true, decide_eq_true_eq] at h1
  rcases h1 with ⟨a, b⟩ | a
  · exact Or.inl (ip_gw_t a b)
  · exact Or.inr a
def ip_xp0 : List Nat := [17, 601, 610, 614, 617, 619, 602, 603, 30, 31, 604, 609, 615, 635, 591, 636, 593, 637, 595, 605, 606, 607, 608, 597, 631, 632, 634, 597, 622, 623, 624, 625, 583, 625, 626, 627, 628, 585, 628, 629, 630, 631, 587, 621, 580, 581, 588, 589, 590, 592, 594, 596, 9999, 9999, 600, 599, 598]
set_option maxRecDepth 100000 in
theorem ip_xw0 : ∀ w ∈ ip_oA 70 "java/lang/IllegalStateException", w ∈ ip_gw ∨ w ∈ ip_isS := ip_xw (ps := ip_xp0) (by decide +kernel)
set_option maxRecDepth 100000 in
theorem ip_xc0 : Cond.classLink "CoreText" 66 "java/lang/IllegalStateException" ∈ ip_gw ∧ Cond.initialized "java/lang/IllegalStateException" ∈ ip_gw := ⟨ip_gw_t (i := 579) (by decide +kernel) (by decide +kernel), ip_gw_t (i := 20) (by decide +kernel) (by decide +kernel)⟩
def ip_xp1 : List Nat := [17, 601, 610, 614, 617, 619, 602, 603, 30, 31, 604, 609, 615, 635, 591, 636, 593, 637, 595, 605, 606, 607, 608, 597, 631, 632, 634, 597, 669, 670, 671, 625, 583, 625, 626, 627, 628, 585, 628, 629, 630, 631, 587, 668, 659, 660, 661, 612, 662, 663, 664, 665, 9999, 9999, 600, 599, 666]
set_option maxRecDepth 100000 in
theorem ip_xw1 : ∀ w ∈ ip_oA 80 "java/lang/IllegalArgumentException", w ∈ ip_gw ∨ w ∈ ip_isS := ip_xw (ps := ip_xp1) (by decide +kernel)
set_option maxRecDepth 100000 in
theorem ip_xc1 : Cond.classLink "CoreText" 76 "java/lang/IllegalArgumentException" ∈ ip_gw ∧ Cond.initialized "java/lang/IllegalArgumentException" ∈ ip_gw := ⟨ip_gw_t (i := 658) (by decide +kernel) (by decide +kernel), ip_gw_t (i := 21) (by decide +kernel) (by decide +kernel)⟩
def ip_xp2 : List Nat := [17, 601, 610, 614, 617, 619, 602, 603, 30, 31, 604, 609, 615, 635, 591, 636, 593, 637, 595, 605, 606, 607, 608, 597, 631, 632, 634, 597, 929, 930, 931, 625, 583, 625, 626, 627, 628, 585, 628, 629, 630, 631, 587, 928, 919, 920, 921, 613, 922, 923, 924, 925, 9999, 9999, 600, 599, 926]
set_option maxRecDepth 100000 in
theorem ip_xw2 : ∀ w ∈ ip_oA 110 "java/lang/IndexOutOfBoundsException", w ∈ ip_gw ∨ w ∈ ip_isS := ip_xw (ps := ip_xp2) (by decide +kernel)
set_option maxRecDepth 100000 in
theorem ip_xc2 : Cond.classLink "CoreText" 106 "java/lang/IndexOutOfBoundsException" ∈ ip_gw ∧ Cond.initialized "java/lang/IndexOutOfBoundsException" ∈ ip_gw := ⟨ip_gw_t (i := 918) (by decide +kernel) (by decide +kernel), ip_gw_t (i := 22) (by decide +kernel) (by decide +kernel)⟩

