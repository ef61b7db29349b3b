/-! the model's constructor, and the law's begin -/
def IW (I : Nat → Nat → Int32) (i : Nat) : Nat → Nat → Int32 := fun a j => if a = 48 ∧ i ≤ j then 0 else I a j
theorem IW_0 {I : Nat → Nat → Int32} : (fun a j => if a = 48 then (0 : Int32) else I a j) = IW I 0 := by
  funext a j
  unfold IW
  by_cases q : a = 48
  · rw [if_pos q, if_pos ⟨q, Nat.zero_le _⟩]
  · rw [if_neg q, if_neg (fun z => q z.1)]
theorem IW_s {I : Nat → Nat → Int32} (h48 : ∀ j, I 48 j = nI (wcL.getD j 0)) (i : Nat) : ip_up (IW I i) 48 i (nI (wcL.getD i 0)) = IW I (i + 1) := by
  funext a j
  unfold ip_up IW
  by_cases q : a = 48
  · subst q
    by_cases z : j = i
    · subst z
      rw [if_pos ⟨rfl, rfl⟩, if_neg (fun w => by have := w.2; omega), h48]
    · rw [if_neg (fun w => z w.2)]
      by_cases w : i ≤ j
      · rw [if_pos ⟨rfl, w⟩, if_pos ⟨rfl, by omega⟩]
      · rw [if_neg (fun u => w u.2), if_neg (fun u => w (by have := u.2; omega))]
  · rw [if_neg (fun w => q w.1), if_neg (fun w => q w.1), if_neg (fun w => q w.1)]
theorem IW_103 {I : Nat → Nat → Int32} (h48 : ∀ j, I 48 j = nI (wcL.getD j 0)) : IW I 103 = I := by
  funext a j
  unfold IW
  by_cases q : a = 48 ∧ 103 ≤ j
  · rw [if_pos q, q.1, h48, List.getD_eq_getElem?_getD, List.getElem?_eq_none (show wcL.length ≤ j from q.2)]
    rfl
  · rw [if_neg q]
section
variable {X : Nat → Nat → Int32} {I : Nat → Nat → Int32} {J Jc : Nat → Nat → Int64} {b : ip_B} {post : Option Value → ip_H → Prop} {px : String → ip_H → Prop}
theorem cm_words {F : Nat → Nat → Value} (h48 : ∀ j, I 48 j = nI (wcL.getD j 0)) (hp : ip_WP 19 604 [some (.ref 47)] [.ref 48, .ref 47] (gT 49, F, I, J) b post px) : ip_WP 19 9 [some (.ref 47)] [.ref 48, .ref 47] (gT 49, F, IW I 0, J) b post px := by
  rw [← IW_103 h48] at hp
  rw [s19_9, s19_10, s19_11, s19_13]
  refine ⟨by decide, ?_⟩
  rw [show ip_up (IW I 0) 48 (0 : Int32).toNatClampNeg 99 = IW I 1 from IW_s h48 0]
  rw [s19_14, s19_15, s19_16, s19_18]
  refine ⟨by decide, ?_⟩
  rw [show ip_up (IW I 1) 48 (1 : Int32).toNatClampNeg 108 = IW I 2 from IW_s h48 1]
  rw [s19_19, s19_20, s19_21, s19_23]
  refine ⟨by decide, ?_⟩
  rw [show ip_up (IW I 2) 48 (2 : Int32).toNatClampNeg 97 = IW I 3 from IW_s h48 2]
  rw [s19_24, s19_25, s19_26, s19_28]
  refine ⟨by decide, ?_⟩
  rw [show ip_up (IW I 3) 48 (3 : Int32).toNatClampNeg 115 = IW I 4 from IW_s h48 3]
  rw [s19_29, s19_30, s19_31, s19_33]
  refine ⟨by decide, ?_⟩
  rw [show ip_up (IW I 4) 48 (4 : Int32).toNatClampNeg 115 = IW I 5 from IW_s h48 4]
  rw [s19_34, s19_35, s19_36, s19_37]
  refine ⟨by decide, ?_⟩
  rw [show ip_up (IW I 5) 48 (5 : Int32).toNatClampNeg 0 = IW I 6 from IW_s h48 5]
  rw [s19_38, s19_39, s19_41, s19_43]
  refine ⟨by decide, ?_⟩
  rw [show ip_up (IW I 6) 48 (6 : Int32).toNatClampNeg 115 = IW I 7 from IW_s h48 6]
  rw [s19_44, s19_45, s19_47, s19_49]
  refine ⟨by decide, ?_⟩
  rw [show ip_up (IW I 7) 48 (7 : Int32).toNatClampNeg 116 = IW I 8 from IW_s h48 7]
  rw [s19_50, s19_51, s19_53, s19_55]
  refine ⟨by decide, ?_⟩
  rw [show ip_up (IW I 8) 48 (8 : Int32).toNatClampNeg 97 = IW I 9 from IW_s h48 8]
  rw [s19_56, s19_57, s19_59, s19_61]
  refine ⟨by decide, ?_⟩
  rw [show ip_up (IW I 9) 48 (9 : Int32).toNatClampNeg 103 = IW I 10 from IW_s h48 9]
  rw [s19_62, s19_63, s19_65, s19_67]
  refine ⟨by decide, ?_⟩
  rw [show ip_up (IW I 10) 48 (10 : Int32).toNatClampNeg 101 = IW I 11 from IW_s h48 10]
  rw [s19_68, s19_69, s19_71, s19_72]
  refine ⟨by decide, ?_⟩
  rw [show ip_up (IW I 11) 48 (11 : Int32).toNatClampNeg 0 = IW I 12 from IW_s h48 11]
  rw [s19_73, s19_74, s19_76, s19_78]
  refine ⟨by decide, ?_⟩
  rw [show ip_up (IW I 12) 48 (12 : Int32).toNatClampNeg 100 = IW I 13 from IW_s h48 12]
  rw [s19_79, s19_80, s19_82, s19_84]
  refine ⟨by decide, ?_⟩
  rw [show ip_up (IW I 13) 48 (13 : Int32).toNatClampNeg 111 = IW I 14 from IW_s h48 13]
  rw [s19_85, s19_86, s19_88, s19_90]
  refine ⟨by decide, ?_⟩
  rw [show ip_up (IW I 14) 48 (14 : Int32).toNatClampNeg 101 = IW I 15 from IW_s h48 14]
  rw [s19_91, s19_92, s19_94, s19_96]
  refine ⟨by decide, ?_⟩
  rw [show ip_up (IW I 15) 48 (15 : Int32).toNatClampNeg 115 = IW I 16 from IW_s h48 15]
  rw [s19_97, s19_98, s19_100, s19_101]
  refine ⟨by decide, ?_⟩
  rw [show ip_up (IW I 16) 48 (16 : Int32).toNatClampNeg 0 = IW I 17 from IW_s h48 16]
  rw [s19_102, s19_103, s19_105, s19_107]
  refine ⟨by decide, ?_⟩
  rw [show ip_up (IW I 17) 48 (17 : Int32).toNatClampNeg 108 = IW I 18 from IW_s h48 17]
  rw [s19_108, s19_109, s19_111, s19_113]
  refine ⟨by decide, ?_⟩
  rw [show ip_up (IW I 18) 48 (18 : Int32).toNatClampNeg 97 = IW I 19 from IW_s h48 18]
  rw [s19_114, s19_115, s19_117, s19_119]
  refine ⟨by decide, ?_⟩
  rw [show ip_up (IW I 19) 48 (19 : Int32).toNatClampNeg 116 = IW I 20 from IW_s h48 19]
  rw [s19_120, s19_121, s19_123, s19_125]
  refine ⟨by decide, ?_⟩
  rw [show ip_up (IW I 20) 48 (20 : Int32).toNatClampNeg 101 = IW I 21 from IW_s h48 20]
  rw [s19_126, s19_127, s19_129, s19_131]
  refine ⟨by decide, ?_⟩
  rw [show ip_up (IW I 21) 48 (21 : Int32).toNatClampNeg 110 = IW I 22 from IW_s h48 21]
  rw [s19_132, s19_133, s19_135, s19_137]
  refine ⟨by decide, ?_⟩
  rw [show ip_up (IW I 22) 48 (22 : Int32).toNatClampNeg 99 = IW I 23 from IW_s h48 22]
  rw [s19_138, s19_139, s19_141, s19_143]
  refine ⟨by decide, ?_⟩
  rw [show ip_up (IW I 23) 48 (23 : Int32).toNatClampNeg 121 = IW I 24 from IW_s h48 23]
  rw [s19_144, s19_145, s19_147, s19_148]
  refine ⟨by decide, ?_⟩
  rw [show ip_up (IW I 24) 48 (24 : Int32).toNatClampNeg 0 = IW I 25 from IW_s h48 24]
  rw [s19_149, s19_150, s19_152, s19_154]
  refine ⟨by decide, ?_⟩
  rw [show ip_up (IW I 25) 48 (25 : Int32).toNatClampNeg 114 = IW I 26 from IW_s h48 25]
  rw [s19_155, s19_156, s19_158, s19_160]
  refine ⟨by decide, ?_⟩
  rw [show ip_up (IW I 26) 48 (26 : Int32).toNatClampNeg 101 = IW I 27 from IW_s h48 26]
  rw [s19_161, s19_162, s19_164, s19_166]
  refine ⟨by decide, ?_⟩
  rw [show ip_up (IW I 27) 48 (27 : Int32).toNatClampNeg 115 = IW I 28 from IW_s h48 27]
  rw [s19_167, s19_168, s19_170, s19_172]
  refine ⟨by decide, ?_⟩
  rw [show ip_up (IW I 28) 48 (28 : Int32).toNatClampNeg 117 = IW I 29 from IW_s h48 28]
  rw [s19_173, s19_174, s19_176, s19_178]
  refine ⟨by decide, ?_⟩
  rw [show ip_up (IW I 29) 48 (29 : Int32).toNatClampNeg 108 = IW I 30 from IW_s h48 29]
  rw [s19_179, s19_180, s19_182, s19_184]
  refine ⟨by decide, ?_⟩
  rw [show ip_up (IW I 30) 48 (30 : Int32).toNatClampNeg 116 = IW I 31 from IW_s h48 30]
  rw [s19_185, s19_186, s19_188, s19_189]
  refine ⟨by decide, ?_⟩
  rw [show ip_up (IW I 31) 48 (31 : Int32).toNatClampNeg 0 = IW I 32 from IW_s h48 31]
  rw [s19_190, s19_191, s19_193, s19_195]
  refine ⟨by decide, ?_⟩
  rw [show ip_up (IW I 32) 48 (32 : Int32).toNatClampNeg 112 = IW I 33 from IW_s h48 32]
  rw [s19_196, s19_197, s19_199, s19_201]
  refine ⟨by decide, ?_⟩
  rw [show ip_up (IW I 33) 48 (33 : Int32).toNatClampNeg 97 = IW I 34 from IW_s h48 33]
  rw [s19_202, s19_203, s19_205, s19_207]
  refine ⟨by decide, ?_⟩
  rw [show ip_up (IW I 34) 48 (34 : Int32).toNatClampNeg 116 = IW I 35 from IW_s h48 34]
  rw [s19_208, s19_209, s19_211, s19_213]
  refine ⟨by decide, ?_⟩
  rw [show ip_up (IW I 35) 48 (35 : Int32).toNatClampNeg 104 = IW I 36 from IW_s h48 35]
  rw [s19_214, s19_215, s19_217, s19_218]
  refine ⟨by decide, ?_⟩
  rw [show ip_up (IW I 36) 48 (36 : Int32).toNatClampNeg 0 = IW I 37 from IW_s h48 36]
  rw [s19_219, s19_220, s19_222, s19_224]
  refine ⟨by decide, ?_⟩
  rw [show ip_up (IW I 37) 48 (37 : Int32).toNatClampNeg 115 = IW I 38 from IW_s h48 37]
  rw [s19_225, s19_226, s19_228, s19_230]
  refine ⟨by decide, ?_⟩
  rw [show ip_up (IW I 38) 48 (38 : Int32).toNatClampNeg 116 = IW I 39 from IW_s h48 38]
  rw [s19_231, s19_232, s19_234, s19_236]
  refine ⟨by decide, ?_⟩
  rw [show ip_up (IW I 39) 48 (39 : Int32).toNatClampNeg 97 = IW I 40 from IW_s h48 39]
  rw [s19_237, s19_238, s19_240, s19_242]
  refine ⟨by decide, ?_⟩
  rw [show ip_up (IW I 40) 48 (40 : Int32).toNatClampNeg 108 = IW I 41 from IW_s h48 40]
  rw [s19_243, s19_244, s19_246, s19_248]
  refine ⟨by decide, ?_⟩
  rw [show ip_up (IW I 41) 48 (41 : Int32).toNatClampNeg 108 = IW I 42 from IW_s h48 41]
  rw [s19_249, s19_250, s19_252, s19_253]
  refine ⟨by decide, ?_⟩
  rw [show ip_up (IW I 42) 48 (42 : Int32).toNatClampNeg 0 = IW I 43 from IW_s h48 42]
  rw [s19_254, s19_255, s19_257, s19_259]
  refine ⟨by decide, ?_⟩
  rw [show ip_up (IW I 43) 48 (43 : Int32).toNatClampNeg 113 = IW I 44 from IW_s h48 43]
  rw [s19_260, s19_261, s19_263, s19_265]
  refine ⟨by decide, ?_⟩
  rw [show ip_up (IW I 44) 48 (44 : Int32).toNatClampNeg 117 = IW I 45 from IW_s h48 44]
  rw [s19_266, s19_267, s19_269, s19_271]
  refine ⟨by decide, ?_⟩
  rw [show ip_up (IW I 45) 48 (45 : Int32).toNatClampNeg 101 = IW I 46 from IW_s h48 45]
  rw [s19_272, s19_273, s19_275, s19_277]
  refine ⟨by decide, ?_⟩
  rw [show ip_up (IW I 46) 48 (46 : Int32).toNatClampNeg 117 = IW I 47 from IW_s h48 46]
  rw [s19_278, s19_279, s19_281, s19_283]
  refine ⟨by decide, ?_⟩
  rw [show ip_up (IW I 47) 48 (47 : Int32).toNatClampNeg 101 = IW I 48 from IW_s h48 47]
  rw [s19_284, s19_285, s19_287, s19_288]
  refine ⟨by decide, ?_⟩
  rw [show ip_up (IW I 48) 48 (48 : Int32).toNatClampNeg 0 = IW I 49 from IW_s h48 48]
  rw [s19_289, s19_290, s19_292, s19_294]
  refine ⟨by decide, ?_⟩
  rw [show ip_up (IW I 49) 48 (49 : Int32).toNatClampNeg 105 = IW I 50 from IW_s h48 49]
  rw [s19_295, s19_296, s19_298, s19_300]
  refine ⟨by decide, ?_⟩
  rw [show ip_up (IW I 50) 48 (50 : Int32).toNatClampNeg 110 = IW I 51 from IW_s h48 50]
  rw [s19_301, s19_302, s19_304, s19_305]
  refine ⟨by decide, ?_⟩
  rw [show ip_up (IW I 51) 48 (51 : Int32).toNatClampNeg 0 = IW I 52 from IW_s h48 51]
  rw [s19_306, s19_307, s19_309, s19_311]
  refine ⟨by decide, ?_⟩
  rw [show ip_up (IW I 52) 48 (52 : Int32).toNatClampNeg 112 = IW I 53 from IW_s h48 52]
  rw [s19_312, s19_313, s19_315, s19_317]
  refine ⟨by decide, ?_⟩
  rw [show ip_up (IW I 53) 48 (53 : Int32).toNatClampNeg 111 = IW I 54 from IW_s h48 53]
  rw [s19_318, s19_319, s19_321, s19_323]
  refine ⟨by decide, ?_⟩
  rw [show ip_up (IW I 54) 48 (54 : Int32).toNatClampNeg 114 = IW I 55 from IW_s h48 54]
  rw [s19_324, s19_325, s19_327, s19_329]
  refine ⟨by decide, ?_⟩
  rw [show ip_up (IW I 55) 48 (55 : Int32).toNatClampNeg 116 = IW I 56 from IW_s h48 55]
  rw [s19_330, s19_331, s19_333, s19_334]
  refine ⟨by decide, ?_⟩
  rw [show ip_up (IW I 56) 48 (56 : Int32).toNatClampNeg 0 = IW I 57 from IW_s h48 56]
  rw [s19_335, s19_336, s19_338, s19_340]
  refine ⟨by decide, ?_⟩
  rw [show ip_up (IW I 57) 48 (57 : Int32).toNatClampNeg 102 = IW I 58 from IW_s h48 57]
  rw [s19_341, s19_342, s19_344, s19_346]
  refine ⟨by decide, ?_⟩
  rw [show ip_up (IW I 58) 48 (58 : Int32).toNatClampNeg 101 = IW I 59 from IW_s h48 58]
  rw [s19_347, s19_348, s19_350, s19_352]
  refine ⟨by decide, ?_⟩
  rw [show ip_up (IW I 59) 48 (59 : Int32).toNatClampNeg 116 = IW I 60 from IW_s h48 59]
  rw [s19_353, s19_354, s19_356, s19_358]
  refine ⟨by decide, ?_⟩
  rw [show ip_up (IW I 60) 48 (60 : Int32).toNatClampNeg 99 = IW I 61 from IW_s h48 60]
  rw [s19_359, s19_360, s19_362, s19_364]
  refine ⟨by decide, ?_⟩
  rw [show ip_up (IW I 61) 48 (61 : Int32).toNatClampNeg 104 = IW I 62 from IW_s h48 61]
  rw [s19_365, s19_366, s19_368, s19_369]
  refine ⟨by decide, ?_⟩
  rw [show ip_up (IW I 62) 48 (62 : Int32).toNatClampNeg 0 = IW I 63 from IW_s h48 62]
  rw [s19_370, s19_371, s19_373, s19_375]
  refine ⟨by decide, ?_⟩
  rw [show ip_up (IW I 63) 48 (63 : Int32).toNatClampNeg 100 = IW I 64 from IW_s h48 63]
  rw [s19_376, s19_377, s19_379, s19_381]
  refine ⟨by decide, ?_⟩
  rw [show ip_up (IW I 64) 48 (64 : Int32).toNatClampNeg 101 = IW I 65 from IW_s h48 64]
  rw [s19_382, s19_383, s19_385, s19_387]
  refine ⟨by decide, ?_⟩
  rw [show ip_up (IW I 65) 48 (65 : Int32).toNatClampNeg 99 = IW I 66 from IW_s h48 65]
  rw [s19_388, s19_389, s19_391, s19_393]
  refine ⟨by decide, ?_⟩
  rw [show ip_up (IW I 66) 48 (66 : Int32).toNatClampNeg 111 = IW I 67 from IW_s h48 66]
  rw [s19_394, s19_395, s19_397, s19_399]
  refine ⟨by decide, ?_⟩
  rw [show ip_up (IW I 67) 48 (67 : Int32).toNatClampNeg 100 = IW I 68 from IW_s h48 67]
  rw [s19_400, s19_401, s19_403, s19_405]
  refine ⟨by decide, ?_⟩
  rw [show ip_up (IW I 68) 48 (68 : Int32).toNatClampNeg 101 = IW I 69 from IW_s h48 68]
  rw [s19_406, s19_407, s19_409, s19_410]
  refine ⟨by decide, ?_⟩
  rw [show ip_up (IW I 69) 48 (69 : Int32).toNatClampNeg 0 = IW I 70 from IW_s h48 69]
  rw [s19_411, s19_412, s19_414, s19_416]
  refine ⟨by decide, ?_⟩
  rw [show ip_up (IW I 70) 48 (70 : Int32).toNatClampNeg 114 = IW I 71 from IW_s h48 70]
  rw [s19_417, s19_418, s19_420, s19_422]
  refine ⟨by decide, ?_⟩
  rw [show ip_up (IW I 71) 48 (71 : Int32).toNatClampNeg 101 = IW I 72 from IW_s h48 71]
  rw [s19_423, s19_424, s19_426, s19_428]
  refine ⟨by decide, ?_⟩
  rw [show ip_up (IW I 72) 48 (72 : Int32).toNatClampNeg 97 = IW I 73 from IW_s h48 72]
  rw [s19_429, s19_430, s19_432, s19_434]
  refine ⟨by decide, ?_⟩
  rw [show ip_up (IW I 73) 48 (73 : Int32).toNatClampNeg 100 = IW I 74 from IW_s h48 73]
  rw [s19_435, s19_436, s19_438, s19_439]
  refine ⟨by decide, ?_⟩
  rw [show ip_up (IW I 74) 48 (74 : Int32).toNatClampNeg 0 = IW I 75 from IW_s h48 74]
  rw [s19_440, s19_441, s19_443, s19_445]
  refine ⟨by decide, ?_⟩
  rw [show ip_up (IW I 75) 48 (75 : Int32).toNatClampNeg 101 = IW I 76 from IW_s h48 75]
  rw [s19_446, s19_447, s19_449, s19_451]
  refine ⟨by decide, ?_⟩
  rw [show ip_up (IW I 76) 48 (76 : Int32).toNatClampNeg 120 = IW I 77 from IW_s h48 76]
  rw [s19_452, s19_453, s19_455, s19_457]
  refine ⟨by decide, ?_⟩
  rw [show ip_up (IW I 77) 48 (77 : Int32).toNatClampNeg 101 = IW I 78 from IW_s h48 77]
  rw [s19_458, s19_459, s19_461, s19_463]
  refine ⟨by decide, ?_⟩
  rw [show ip_up (IW I 78) 48 (78 : Int32).toNatClampNeg 99 = IW I 79 from IW_s h48 78]
  rw [s19_464, s19_465, s19_467, s19_469]
  refine ⟨by decide, ?_⟩
  rw [show ip_up (IW I 79) 48 (79 : Int32).toNatClampNeg 117 = IW I 80 from IW_s h48 79]
  rw [s19_470, s19_471, s19_473, s19_475]
  refine ⟨by decide, ?_⟩
  rw [show ip_up (IW I 80) 48 (80 : Int32).toNatClampNeg 116 = IW I 81 from IW_s h48 80]
  rw [s19_476, s19_477, s19_479, s19_481]
  refine ⟨by decide, ?_⟩
  rw [show ip_up (IW I 81) 48 (81 : Int32).toNatClampNeg 101 = IW I 82 from IW_s h48 81]
  rw [s19_482, s19_483, s19_485, s19_486]
  refine ⟨by decide, ?_⟩
  rw [show ip_up (IW I 82) 48 (82 : Int32).toNatClampNeg 0 = IW I 83 from IW_s h48 82]
  rw [s19_487, s19_488, s19_490, s19_492]
  refine ⟨by decide, ?_⟩
  rw [show ip_up (IW I 83) 48 (83 : Int32).toNatClampNeg 109 = IW I 84 from IW_s h48 83]
  rw [s19_493, s19_494, s19_496, s19_498]
  refine ⟨by decide, ?_⟩
  rw [show ip_up (IW I 84) 48 (84 : Int32).toNatClampNeg 101 = IW I 85 from IW_s h48 84]
  rw [s19_499, s19_500, s19_502, s19_504]
  refine ⟨by decide, ?_⟩
  rw [show ip_up (IW I 85) 48 (85 : Int32).toNatClampNeg 109 = IW I 86 from IW_s h48 85]
  rw [s19_505, s19_506, s19_508, s19_510]
  refine ⟨by decide, ?_⟩
  rw [show ip_up (IW I 86) 48 (86 : Int32).toNatClampNeg 111 = IW I 87 from IW_s h48 86]
  rw [s19_511, s19_512, s19_514, s19_516]
  refine ⟨by decide, ?_⟩
  rw [show ip_up (IW I 87) 48 (87 : Int32).toNatClampNeg 114 = IW I 88 from IW_s h48 87]
  rw [s19_517, s19_518, s19_520, s19_522]
  refine ⟨by decide, ?_⟩
  rw [show ip_up (IW I 88) 48 (88 : Int32).toNatClampNeg 121 = IW I 89 from IW_s h48 88]
  rw [s19_523, s19_524, s19_526, s19_527]
  refine ⟨by decide, ?_⟩
  rw [show ip_up (IW I 89) 48 (89 : Int32).toNatClampNeg 0 = IW I 90 from IW_s h48 89]
  rw [s19_528, s19_529, s19_531, s19_533]
  refine ⟨by decide, ?_⟩
  rw [show ip_up (IW I 90) 48 (90 : Int32).toNatClampNeg 119 = IW I 91 from IW_s h48 90]
  rw [s19_534, s19_535, s19_537, s19_539]
  refine ⟨by decide, ?_⟩
  rw [show ip_up (IW I 91) 48 (91 : Int32).toNatClampNeg 114 = IW I 92 from IW_s h48 91]
  rw [s19_540, s19_541, s19_543, s19_545]
  refine ⟨by decide, ?_⟩
  rw [show ip_up (IW I 92) 48 (92 : Int32).toNatClampNeg 105 = IW I 93 from IW_s h48 92]
  rw [s19_546, s19_547, s19_549, s19_551]
  refine ⟨by decide, ?_⟩
  rw [show ip_up (IW I 93) 48 (93 : Int32).toNatClampNeg 116 = IW I 94 from IW_s h48 93]
  rw [s19_552, s19_553, s19_555, s19_557]
  refine ⟨by decide, ?_⟩
  rw [show ip_up (IW I 94) 48 (94 : Int32).toNatClampNeg 101 = IW I 95 from IW_s h48 94]
  rw [s19_558, s19_559, s19_561, s19_562]
  refine ⟨by decide, ?_⟩
  rw [show ip_up (IW I 95) 48 (95 : Int32).toNatClampNeg 0 = IW I 96 from IW_s h48 95]
  rw [s19_563, s19_564, s19_566, s19_568]
  refine ⟨by decide, ?_⟩
  rw [show ip_up (IW I 96) 48 (96 : Int32).toNatClampNeg 99 = IW I 97 from IW_s h48 96]
  rw [s19_569, s19_570, s19_572, s19_574]
  refine ⟨by decide, ?_⟩
  rw [show ip_up (IW I 97) 48 (97 : Int32).toNatClampNeg 111 = IW I 98 from IW_s h48 97]
  rw [s19_575, s19_576, s19_578, s19_580]
  refine ⟨by decide, ?_⟩
  rw [show ip_up (IW I 98) 48 (98 : Int32).toNatClampNeg 109 = IW I 99 from IW_s h48 98]
  rw [s19_581, s19_582, s19_584, s19_586]
  refine ⟨by decide, ?_⟩
  rw [show ip_up (IW I 99) 48 (99 : Int32).toNatClampNeg 109 = IW I 100 from IW_s h48 99]
  rw [s19_587, s19_588, s19_590, s19_592]
  refine ⟨by decide, ?_⟩
  rw [show ip_up (IW I 100) 48 (100 : Int32).toNatClampNeg 105 = IW I 101 from IW_s h48 100]
  rw [s19_593, s19_594, s19_596, s19_598]
  refine ⟨by decide, ?_⟩
  rw [show ip_up (IW I 101) 48 (101 : Int32).toNatClampNeg 116 = IW I 102 from IW_s h48 101]
  rw [s19_599, s19_600, s19_602, s19_603]
  refine ⟨by decide, ?_⟩
  rw [show ip_up (IW I 102) 48 (102 : Int32).toNatClampNeg 0 = IW I 103 from IW_s h48 102]
  exact hp
theorem cm_ch0 {F : Nat → Nat → Value} (hI : ∀ a, 49 ≤ a → a ≤ 71 → ∀ j, I a j = 0) (hJ : ∀ a, 48 ≤ a → a ≤ 71 → ∀ j, J a j = 0) (hp : ip_WP 19 642 [some (.ref 47)] [] (gT 53, ip_up (ip_up (ip_up (ip_up (F) 47 3 (.ref 49)) 47 5 (.ref 50)) 47 11 (.ref 51)) 47 12 (.ref 52), I, J) (19, 675) post px) : ip_WP 19 607 [some (.ref 47)] [] (gT 49, F, I, J) (23, 13915) post px := by
  rw [s19_607, s19_608, s19_611, gl_49, show (4400 : Int32).toNatClampNeg = 4400 from by decide, gx_49, zeroI (hI 49 (by decide) (by decide)), zeroI (hJ 49 (by decide) (by decide))]
  refine ⟨by decide, by decide, ?_⟩
  show ip_WP 19 613 [some (.ref 47)] [.ref 49, .ref 47] (gT 50, F, I, J) (22, 9515) post px
  rw [s19_613]
  refine ⟨by decide, by decide, ?_⟩
  rw [s19_616, s19_617, s19_620, gl_50, show (4400 : Int32).toNatClampNeg = 4400 from by decide, gx_50, zeroI (hI 50 (by decide) (by decide)), zeroI (hJ 50 (by decide) (by decide))]
  refine ⟨by decide, by decide, ?_⟩
  show ip_WP 19 622 [some (.ref 47)] [.ref 50, .ref 47] (gT 51, ip_up (F) 47 3 (.ref 49), I, J) (21, 5115) post px
  rw [s19_622]
  refine ⟨by decide, by decide, ?_⟩
  rw [s19_625, s19_626, s19_629, gl_51, show (4400 : Int32).toNatClampNeg = 4400 from by decide, gx_51, zeroI (hI 51 (by decide) (by decide)), zeroI (hJ 51 (by decide) (by decide))]
  refine ⟨by decide, by decide, ?_⟩
  show ip_WP 19 631 [some (.ref 47)] [.ref 51, .ref 47] (gT 52, ip_up (ip_up (F) 47 3 (.ref 49)) 47 5 (.ref 50), I, J) (20, 715) post px
  rw [s19_631]
  refine ⟨by decide, by decide, ?_⟩
  rw [s19_634, s19_635, s19_637, gl_52, show (40 : Int32).toNatClampNeg = 40 from by decide, gx_52, zeroI (hI 52 (by decide) (by decide)), zeroI (hJ 52 (by decide) (by decide))]
  refine ⟨by decide, by decide, ?_⟩
  show ip_WP 19 639 [some (.ref 47)] [.ref 52, .ref 47] (gT 53, ip_up (ip_up (ip_up (F) 47 3 (.ref 49)) 47 5 (.ref 50)) 47 11 (.ref 51), I, J) (19, 675) post px
  rw [s19_639]
  refine ⟨by decide, by decide, ?_⟩
  exact hp
theorem cm_ch1 {F : Nat → Nat → Value} (hI : ∀ a, 49 ≤ a → a ≤ 71 → ∀ j, I a j = 0) (hJ : ∀ a, 48 ≤ a → a ≤ 71 → ∀ j, J a j = 0) (hp : ip_WP 19 673 [some (.ref 47)] [] (gT 57, ip_up (ip_up (ip_up (ip_up (F) 47 13 (.ref 53)) 47 14 (.ref 54)) 47 15 (.ref 55)) 47 16 (.ref 56), I, J) (15, 551) post px) : ip_WP 19 642 [some (.ref 47)] [] (gT 53, F, I, J) (19, 675) post px := by
  rw [s19_642, s19_643, s19_645, gl_53, show (40 : Int32).toNatClampNeg = 40 from by decide, gx_53, zeroI (hI 53 (by decide) (by decide)), zeroI (hJ 53 (by decide) (by decide))]
  refine ⟨by decide, by decide, ?_⟩
  show ip_WP 19 647 [some (.ref 47)] [.ref 53, .ref 47] (gT 54, F, I, J) (18, 635) post px
  rw [s19_647]
  refine ⟨by decide, by decide, ?_⟩
  rw [s19_650, s19_651, s19_653, gl_54, show (40 : Int32).toNatClampNeg = 40 from by decide, gx_54, zeroI (hI 54 (by decide) (by decide)), zeroI (hJ 54 (by decide) (by decide))]
  refine ⟨by decide, by decide, ?_⟩
  show ip_WP 19 655 [some (.ref 47)] [.ref 54, .ref 47] (gT 55, ip_up (F) 47 13 (.ref 53), I, J) (17, 595) post px
  rw [s19_655]
  refine ⟨by decide, by decide, ?_⟩
  rw [s19_658, s19_659, s19_661, gl_55, show (40 : Int32).toNatClampNeg = 40 from by decide, gx_55, zeroI (hI 55 (by decide) (by decide)), zeroI (hJ 55 (by decide) (by decide))]
  refine ⟨by decide, by decide, ?_⟩
  show ip_WP 19 663 [some (.ref 47)] [.ref 55, .ref 47] (gT 56, ip_up (ip_up (F) 47 13 (.ref 53)) 47 14 (.ref 54), I, J) (16, 555) post px
  rw [s19_663]
  refine ⟨by decide, by decide, ?_⟩
  rw [s19_666, s19_667, s19_668, gl_56, show (4 : Int32).toNatClampNeg = 4 from by decide, gx_56, zeroI (hI 56 (by decide) (by decide)), zeroI (hJ 56 (by decide) (by decide))]
  refine ⟨by decide, by decide, ?_⟩
  show ip_WP 19 670 [some (.ref 47)] [.ref 56, .ref 47] (gT 57, ip_up (ip_up (ip_up (F) 47 13 (.ref 53)) 47 14 (.ref 54)) 47 15 (.ref 55), I, J) (15, 551) post px
  rw [s19_670]
  refine ⟨by decide, by decide, ?_⟩
  exact hp
theorem cm_ch2 {F : Nat → Nat → Value} (hI : ∀ a, 49 ≤ a → a ≤ 71 → ∀ j, I a j = 0) (hJ : ∀ a, 48 ≤ a → a ≤ 71 → ∀ j, J a j = 0) (hp : ip_WP 19 705 [some (.ref 47)] [] (gT 61, ip_up (ip_up (ip_up (ip_up (F) 47 17 (.ref 57)) 47 18 (.ref 58)) 47 19 (.ref 59)) 47 20 (.ref 60), I, J) (11, 467) post px) : ip_WP 19 673 [some (.ref 47)] [] (gT 57, F, I, J) (15, 551) post px := by
  rw [s19_673, s19_674, s19_676, gl_57, show (48 : Int32).toNatClampNeg = 48 from by decide, gx_57, zeroI (hI 57 (by decide) (by decide)), zeroI (hJ 57 (by decide) (by decide))]
  refine ⟨by decide, by decide, ?_⟩
  show ip_WP 19 678 [some (.ref 47)] [.ref 57, .ref 47] (gT 58, F, I, J) (14, 503) post px
  rw [s19_678]
  refine ⟨by decide, by decide, ?_⟩
  rw [s19_681, s19_682, s19_684, gl_58, show (12 : Int32).toNatClampNeg = 12 from by decide, gx_58, zeroI (hI 58 (by decide) (by decide)), zeroI (hJ 58 (by decide) (by decide))]
  refine ⟨by decide, by decide, ?_⟩
  show ip_WP 19 686 [some (.ref 47)] [.ref 58, .ref 47] (gT 59, ip_up (F) 47 17 (.ref 57), I, J) (13, 491) post px
  rw [s19_686]
  refine ⟨by decide, by decide, ?_⟩
  rw [s19_689, s19_690, s19_692, gl_59, show (12 : Int32).toNatClampNeg = 12 from by decide, gx_59, zeroI (hI 59 (by decide) (by decide)), zeroI (hJ 59 (by decide) (by decide))]
  refine ⟨by decide, by decide, ?_⟩
  show ip_WP 19 694 [some (.ref 47)] [.ref 59, .ref 47] (gT 60, ip_up (ip_up (F) 47 17 (.ref 57)) 47 18 (.ref 58), I, J) (12, 479) post px
  rw [s19_694]
  refine ⟨by decide, by decide, ?_⟩
  rw [s19_697, s19_698, s19_700, gl_60, show (12 : Int32).toNatClampNeg = 12 from by decide, gx_60, zeroI (hI 60 (by decide) (by decide)), zeroI (hJ 60 (by decide) (by decide))]
  refine ⟨by decide, by decide, ?_⟩
  show ip_WP 19 702 [some (.ref 47)] [.ref 60, .ref 47] (gT 61, ip_up (ip_up (ip_up (F) 47 17 (.ref 57)) 47 18 (.ref 58)) 47 19 (.ref 59), I, J) (11, 467) post px
  rw [s19_702]
  refine ⟨by decide, by decide, ?_⟩
  exact hp
theorem cm_ch3 {F : Nat → Nat → Value} (hI : ∀ a, 49 ≤ a → a ≤ 71 → ∀ j, I a j = 0) (hJ : ∀ a, 48 ≤ a → a ≤ 71 → ∀ j, J a j = 0) (hp : ip_WP 19 737 [some (.ref 47)] [] (gT 65, ip_up (ip_up (ip_up (ip_up (F) 47 21 (.ref 61)) 47 22 (.ref 62)) 47 24 (.ref 63)) 47 25 (.ref 64), I, J) (7, 400) post px) : ip_WP 19 705 [some (.ref 47)] [] (gT 61, F, I, J) (11, 467) post px := by
  rw [s19_705, s19_706, s19_708, gl_61, show (12 : Int32).toNatClampNeg = 12 from by decide, gx_61, zeroI (hI 61 (by decide) (by decide)), zeroI (hJ 61 (by decide) (by decide))]
  refine ⟨by decide, by decide, ?_⟩
  show ip_WP 19 710 [some (.ref 47)] [.ref 61, .ref 47] (gT 62, F, I, J) (10, 455) post px
  rw [s19_710]
  refine ⟨by decide, by decide, ?_⟩
  rw [s19_713, s19_714, s19_716, gl_62, show (7 : Int32).toNatClampNeg = 7 from by decide, gx_62, zeroI (hI 62 (by decide) (by decide)), zeroI (hJ 62 (by decide) (by decide))]
  refine ⟨by decide, by decide, ?_⟩
  show ip_WP 19 718 [some (.ref 47)] [.ref 62, .ref 47] (gT 63, ip_up (F) 47 21 (.ref 61), I, J) (9, 448) post px
  rw [s19_718]
  refine ⟨by decide, by decide, ?_⟩
  rw [s19_721, s19_722, s19_724, gl_63, show (24 : Int32).toNatClampNeg = 24 from by decide, gx_63, zeroI (hI 63 (by decide) (by decide)), zeroI (hJ 63 (by decide) (by decide))]
  refine ⟨by decide, by decide, ?_⟩
  show ip_WP 19 726 [some (.ref 47)] [.ref 63, .ref 47] (gT 64, ip_up (ip_up (F) 47 21 (.ref 61)) 47 22 (.ref 62), I, J) (8, 424) post px
  rw [s19_726]
  refine ⟨by decide, by decide, ?_⟩
  rw [s19_729, s19_730, s19_732, gl_64, show (24 : Int32).toNatClampNeg = 24 from by decide, gx_64, zeroI (hI 64 (by decide) (by decide)), zeroI (hJ 64 (by decide) (by decide))]
  refine ⟨by decide, by decide, ?_⟩
  show ip_WP 19 734 [some (.ref 47)] [.ref 64, .ref 47] (gT 65, ip_up (ip_up (ip_up (F) 47 21 (.ref 61)) 47 22 (.ref 62)) 47 24 (.ref 63), I, J) (7, 400) post px
  rw [s19_734]
  refine ⟨by decide, by decide, ?_⟩
  exact hp
theorem cm_ch4 {F : Nat → Nat → Value} (hI : ∀ a, 49 ≤ a → a ≤ 71 → ∀ j, I a j = 0) (hJ : ∀ a, 48 ≤ a → a ≤ 71 → ∀ j, J a j = 0) (hp : ip_WP 19 769 [some (.ref 47)] [] (gT 69, ip_up (ip_up (ip_up (ip_up (F) 47 26 (.ref 65)) 47 27 (.ref 66)) 47 28 (.ref 67)) 47 31 (.ref 68), I, J) (3, 224) post px) : ip_WP 19 737 [some (.ref 47)] [] (gT 65, F, I, J) (7, 400) post px := by
  rw [s19_737, s19_738, s19_740, gl_65, show (8 : Int32).toNatClampNeg = 8 from by decide, gx_65, zeroI (hI 65 (by decide) (by decide)), zeroI (hJ 65 (by decide) (by decide))]
  refine ⟨by decide, by decide, ?_⟩
  show ip_WP 19 742 [some (.ref 47)] [.ref 65, .ref 47] (gT 66, F, I, J) (6, 392) post px
  rw [s19_742]
  refine ⟨by decide, by decide, ?_⟩
  rw [s19_745, s19_746, s19_748, gl_66, show (8 : Int32).toNatClampNeg = 8 from by decide, gx_66, zeroI (hI 66 (by decide) (by decide)), zeroI (hJ 66 (by decide) (by decide))]
  refine ⟨by decide, by decide, ?_⟩
  show ip_WP 19 750 [some (.ref 47)] [.ref 66, .ref 47] (gT 67, ip_up (F) 47 26 (.ref 65), I, J) (5, 384) post px
  rw [s19_750]
  refine ⟨by decide, by decide, ?_⟩
  rw [s19_753, s19_754, s19_756, gl_67, show (96 : Int32).toNatClampNeg = 96 from by decide, gx_67, zeroI (hI 67 (by decide) (by decide)), zeroI (hJ 67 (by decide) (by decide))]
  refine ⟨by decide, by decide, ?_⟩
  show ip_WP 19 758 [some (.ref 47)] [.ref 67, .ref 47] (gT 68, ip_up (ip_up (F) 47 26 (.ref 65)) 47 27 (.ref 66), I, J) (4, 288) post px
  rw [s19_758]
  refine ⟨by decide, by decide, ?_⟩
  rw [s19_761, s19_762, s19_764, gl_68, show (64 : Int32).toNatClampNeg = 64 from by decide, gx_68, zeroI (hI 68 (by decide) (by decide)), zeroI (hJ 68 (by decide) (by decide))]
  refine ⟨by decide, by decide, ?_⟩
  show ip_WP 19 766 [some (.ref 47)] [.ref 68, .ref 47] (gT 69, ip_up (ip_up (ip_up (F) 47 26 (.ref 65)) 47 27 (.ref 66)) 47 28 (.ref 67), I, J) (3, 224) post px
  rw [s19_766]
  refine ⟨by decide, by decide, ?_⟩
  exact hp
theorem cm_ch5 {F : Nat → Nat → Value} (hI : ∀ a, 49 ≤ a → a ≤ 71 → ∀ j, I a j = 0) (hJ : ∀ a, 48 ≤ a → a ≤ 71 → ∀ j, J a j = 0) (hp : ip_WP 19 793 [some (.ref 47)] [] (gT 72, ip_up (ip_up (ip_up (F) 47 32 (.ref 69)) 47 33 (.ref 70)) 47 34 (.ref 71), I, J) (0, 0) post px) : ip_WP 19 769 [some (.ref 47)] [] (gT 69, F, I, J) (3, 224) post px := by
  rw [s19_769, s19_770, s19_772, gl_69, show (64 : Int32).toNatClampNeg = 64 from by decide, gx_69, zeroI (hI 69 (by decide) (by decide)), zeroI (hJ 69 (by decide) (by decide))]
  refine ⟨by decide, by decide, ?_⟩
  show ip_WP 19 774 [some (.ref 47)] [.ref 69, .ref 47] (gT 70, F, I, J) (2, 160) post px
  rw [s19_774]
  refine ⟨by decide, by decide, ?_⟩
  rw [s19_777, s19_778, s19_780, gl_70, show (80 : Int32).toNatClampNeg = 80 from by decide, gx_70, zeroI (hI 70 (by decide) (by decide)), zeroI (hJ 70 (by decide) (by decide))]
  refine ⟨by decide, by decide, ?_⟩
  show ip_WP 19 782 [some (.ref 47)] [.ref 70, .ref 47] (gT 71, ip_up (F) 47 32 (.ref 69), I, J) (1, 80) post px
  rw [s19_782]
  refine ⟨by decide, by decide, ?_⟩
  rw [s19_785, s19_786, s19_788, gl_71, show (80 : Int32).toNatClampNeg = 80 from by decide, gx_71, zeroI (hI 71 (by decide) (by decide)), zeroI (hJ 71 (by decide) (by decide))]
  refine ⟨by decide, by decide, ?_⟩
  show ip_WP 19 790 [some (.ref 47)] [.ref 71, .ref 47] (gT 72, ip_up (ip_up (F) 47 32 (.ref 69)) 47 33 (.ref 70), I, J) (0, 0) post px
  rw [s19_790]
  refine ⟨by decide, by decide, ?_⟩
  exact hp
theorem cm_ctor (hX : ∀ i, X 47 i = 0) (h48 : ∀ j, I 48 j = nI (wcL.getD j 0)) (hI : ∀ a, 49 ≤ a → a ≤ 71 → ∀ j, I a j = 0) (hJ : ∀ a, 48 ≤ a → a ≤ 71 → ∀ j, J a j = 0) (hc : Clr X I) (hk : ∀ X' I', FG X X' I I' → MN X Jc X' I' → MVf X I X' I' → X' 47 9 = 0 → FL X' I' 47 29 68 69 (errs X I) → FL X' I' 47 30 70 71 (rems X I) → post none (g72, fld X' 0, I', J)) : ip_WP 19 0 [some (.ref 47)] [] (gT 48, fr 47 1 (fld X 0), I, J) (24, 14018) post px := by
  rw [s19_0, s19_1, s19_4, s19_5, s19_7, gl_48, show (103 : Int32).toNatClampNeg = 103 from by decide, gx_48, IW_0, zeroI (hJ 48 (by decide) (by decide))]
  refine ⟨by decide, by decide, ?_⟩
  refine cm_words h48 ?_
  show ip_WP 19 604 [some (.ref 47)] [.ref 48, .ref 47] (gT 49, fr 47 1 (fld X 0), I, J) (23, 13915) post px
  rw [s19_604]
  refine ⟨by decide, by decide, ?_⟩
  refine cm_ch0 hI hJ ?_
  refine cm_ch1 hI hJ ?_
  refine cm_ch2 hI hJ ?_
  refine cm_ch3 hI hJ ?_
  refine cm_ch4 hI hJ ?_
  refine cm_ch5 hI hJ ?_
  have e : ip_up (ip_up (ip_up (ip_up (ip_up (ip_up (ip_up (ip_up (ip_up (ip_up (ip_up (ip_up (ip_up (ip_up (ip_up (ip_up (ip_up (ip_up (ip_up (ip_up (ip_up (ip_up (ip_up (ip_up (fr 47 1 (fld X 0)) 47 0 (.ref 48)) 47 3 (.ref 49)) 47 5 (.ref 50)) 47 11 (.ref 51)) 47 12 (.ref 52)) 47 13 (.ref 53)) 47 14 (.ref 54)) 47 15 (.ref 55)) 47 16 (.ref 56)) 47 17 (.ref 57)) 47 18 (.ref 58)) 47 19 (.ref 59)) 47 20 (.ref 60)) 47 21 (.ref 61)) 47 22 (.ref 62)) 47 24 (.ref 63)) 47 25 (.ref 64)) 47 26 (.ref 65)) 47 27 (.ref 66)) 47 28 (.ref 67)) 47 31 (.ref 68)) 47 32 (.ref 69)) 47 33 (.ref 70)) 47 34 (.ref 71) = fld X 0 := by
    funext a i
    by_cases q : a = 47
    · subst q
      match i with
      | 0 => rfl
      | 1 => exact (congrArg Value.int (hX 1)).symm
      | 2 => exact (congrArg Value.int (hX 2)).symm
      | 3 => rfl
      | 4 => exact (congrArg Value.int (hX 4)).symm
      | 5 => rfl
      | 6 => exact (congrArg Value.int (hX 6)).symm
      | 7 => exact (congrArg Value.int (hX 7)).symm
      | 8 => exact (congrArg Value.int (hX 8)).symm
      | 9 => exact (congrArg Value.int (hX 9)).symm
      | 10 => exact (congrArg Value.int (hX 10)).symm
      | 11 => rfl
      | 12 => rfl
      | 13 => rfl
      | 14 => rfl
      | 15 => rfl
      | 16 => rfl
      | 17 => rfl
      | 18 => rfl
      | 19 => rfl
      | 20 => rfl
      | 21 => rfl
      | 22 => rfl
      | 23 => exact (congrArg Value.int (hX 23)).symm
      | 24 => rfl
      | 25 => rfl
      | 26 => rfl
      | 27 => rfl
      | 28 => rfl
      | 29 => exact (congrArg Value.int (hX 29)).symm
      | 30 => exact (congrArg Value.int (hX 30)).symm
      | 31 => rfl
      | 32 => rfl
      | 33 => rfl
      | 34 => rfl
      | 35 => exact (congrArg Value.int (hX 35)).symm
      | 36 => exact (congrArg Value.int (hX 36)).symm
      | 37 => exact (congrArg Value.int (hX 37)).symm
      | 38 => exact (congrArg Value.int (hX 38)).symm
      | i + 39 => exact (congrArg Value.int (hX (i + 39))).symm
    · simp [ip_up, fr, q]
  rw [e, gT72, s19_793, s19_794]
  refine ⟨rfl, ?_⟩
  refine md_forgett (Jc := Jc) hc (fun X' I' h1 h2 h3 h4 h5 h6 => ?_)
  simp only [s19_797, Option.toList_some, Option.toList_none, List.cons_append, List.nil_append, List.append_nil, ip_on_some, true_and, and_true, if_true, if_false, not_true_eq_false, not_false_eq_true, decide_true, true_or, or_true, or_self, Bool.false_eq_true]
  exact hk X' I' h1 h2 h3 h4 h5 h6
end
