-- ===== by hand: what a floor of the model gives
noncomputable def twF (w a b : Int32) : Int32 :=
  if w = 37 then (if b = 0 then 0 else if b = -1 then 0 else a - a / b * b)
  else if w = 38 then (if a = 0 then 0 else if b = 0 then 0 else 1)
  else if w = 42 then a * b
  else if w = 43 then a + b
  else if w = 45 then a - b
  else if w = 47 then (if b = 0 then 0 else if b = -1 then -a else a / b)
  else if w = 60 then (if a < b then 1 else 0)
  else if w = 61 then (if a = b then 1 else 0)
  else if w = 62 then (if b < a then 1 else 0)
  else (if a = 0 then (if b = 0 then 0 else 1) else 1)
section
variable {X : Tok} {d : Nat} {mu mu' : Mu} {la la' : La} {ro ro' : Ro} {et : Nat → Option va_E} {h : Hp}
theorem e_twoD {w a b : Int32} : Rr X d MRm_twoOf 218 [.int w, .int a, .int b] [] h = some (some (.int (if a = 0 then (if b = 0 then 0 else 1) else 1)), h) := by
  by_cases c1 : a = 0
  · by_cases c2 : b = 0
    · simp only [r_MRm_twoOf_218, r_MRm_twoOf_219, r_MRm_twoOf_222, r_MRm_twoOf_223, r_MRm_twoOf_226, r_MRm_twoOf_227, r_MRm_twoOf_230, r_MRm_twoOf_231, c1, c2, not_true_eq_false, if_true, if_false]
    · simp only [r_MRm_twoOf_218, r_MRm_twoOf_219, r_MRm_twoOf_222, r_MRm_twoOf_223, r_MRm_twoOf_226, r_MRm_twoOf_227, r_MRm_twoOf_230, r_MRm_twoOf_231, c1, c2, not_true_eq_false, if_true, if_false]
  · simp only [r_MRm_twoOf_218, r_MRm_twoOf_219, r_MRm_twoOf_222, r_MRm_twoOf_223, r_MRm_twoOf_226, r_MRm_twoOf_227, r_MRm_twoOf_230, r_MRm_twoOf_231, c1, not_false_eq_true, if_true, if_false]
theorem e_twoOf {w a b : Int32} : Rr X d MRm_twoOf 0 [.int w, .int a, .int b] [] h = some (some (.int (twF w a b)), h) := by
  unfold twF
  rw [r_MRm_twoOf_0]
  by_cases c : w.toInt < 37 ∨ 62 < w.toInt
  · rw [r_MRm_twoOf_1D c, e_twoD]
    have n : ∀ k : Int32, 37 ≤ k.toInt → k.toInt ≤ 62 → ¬ w = k := fun k h1 h2 q => by rw [q] at c; omega
    rw [if_neg (n 37 (by decide) (by decide)), if_neg (n 38 (by decide) (by decide)), if_neg (n 42 (by decide) (by decide)), if_neg (n 43 (by decide) (by decide)), if_neg (n 45 (by decide) (by decide)), if_neg (n 47 (by decide) (by decide)), if_neg (n 60 (by decide) (by decide)), if_neg (n 61 (by decide) (by decide)), if_neg (n 62 (by decide) (by decide))]
  · obtain ⟨W, w1, w2, rfl⟩ : ∃ W : Nat, 37 ≤ W ∧ W ≤ 62 ∧ w = nI W := ⟨w.toInt.toNat, by omega, by omega, Int32.toInt_inj.mp (by rw [nI_toInt (by omega)]; omega)⟩
    have hW : W = 37 ∨ W = 38 ∨ W = 39 ∨ W = 40 ∨ W = 41 ∨ W = 42 ∨ W = 43 ∨ W = 44 ∨ W = 45 ∨ W = 46 ∨ W = 47 ∨ W = 48 ∨ W = 49 ∨ W = 50 ∨ W = 51 ∨ W = 52 ∨ W = 53 ∨ W = 54 ∨ W = 55 ∨ W = 56 ∨ W = 57 ∨ W = 58 ∨ W = 59 ∨ W = 60 ∨ W = 61 ∨ W = 62 := by omega
    have k0 : ∀ {p q : Int32}, decide (p = q) = false → (p = q) = False := fun h => eq_false (of_decide_eq_false h)
    rcases hW with rfl | rfl | rfl | rfl | rfl | rfl | rfl | rfl | rfl | rfl | rfl | rfl | rfl | rfl | rfl | rfl | rfl | rfl | rfl | rfl | rfl | rfl | rfl | rfl | rfl | rfl
    · show Rr X d MRm_twoOf 1 _ [.int (37)] h = some (some (.int (if (37 : Int32) = 37 then _ else _)), h)
      rw [if_pos rfl, r_MRm_twoOf_1_37]
      by_cases c1 : b = 0
      · simp only [r_MRm_twoOf_154, r_MRm_twoOf_155, r_MRm_twoOf_158, r_MRm_twoOf_159, r_MRm_twoOf_160, r_MRm_twoOf_163, r_MRm_twoOf_164, r_MRm_twoOf_167, r_MRm_twoOf_168, r_MRm_twoOf_169, r_MRm_twoOf_170, c1, if_true, if_false]
      · by_cases c2 : b = -1
        · simp only [r_MRm_twoOf_154, r_MRm_twoOf_155, r_MRm_twoOf_158, r_MRm_twoOf_159, r_MRm_twoOf_160, r_MRm_twoOf_163, r_MRm_twoOf_164, r_MRm_twoOf_167, r_MRm_twoOf_168, r_MRm_twoOf_169, r_MRm_twoOf_170, c1, c2, not_true_eq_false, if_true, if_false, show ((-1 : Int32) = 0) = False by simp]
        · simp only [r_MRm_twoOf_154, r_MRm_twoOf_155, r_MRm_twoOf_158, r_MRm_twoOf_159, r_MRm_twoOf_160, r_MRm_twoOf_163, r_MRm_twoOf_164, r_MRm_twoOf_167, r_MRm_twoOf_168, r_MRm_twoOf_169, r_MRm_twoOf_170, c1, c2, not_false_eq_true, if_true, if_false]
    · show Rr X d MRm_twoOf 1 _ [.int (38)] h = some (some (.int (if (38 : Int32) = 37 then _ else if (38 : Int32) = 38 then _ else _)), h)
      rw [if_neg (by decide), if_pos rfl, r_MRm_twoOf_1_38]
      by_cases c1 : a = 0
      · simp only [r_MRm_twoOf_204, r_MRm_twoOf_205, r_MRm_twoOf_208, r_MRm_twoOf_209, r_MRm_twoOf_212, r_MRm_twoOf_213, r_MRm_twoOf_216, r_MRm_twoOf_217, c1, if_true, if_false]
      · by_cases c2 : b = 0
        · simp only [r_MRm_twoOf_204, r_MRm_twoOf_205, r_MRm_twoOf_208, r_MRm_twoOf_209, r_MRm_twoOf_212, r_MRm_twoOf_213, r_MRm_twoOf_216, r_MRm_twoOf_217, c1, c2, if_true, if_false]
        · simp only [r_MRm_twoOf_204, r_MRm_twoOf_205, r_MRm_twoOf_208, r_MRm_twoOf_209, r_MRm_twoOf_212, r_MRm_twoOf_213, r_MRm_twoOf_216, r_MRm_twoOf_217, c1, c2, if_true, if_false]
    · exact (r_MRm_twoOf_1_39 (X := X) (d := d) (st := []) (h := h) (L := [.int (nI 39), .int a, .int b])).trans e_twoD
    · exact (r_MRm_twoOf_1_40 (X := X) (d := d) (st := []) (h := h) (L := [.int (nI 40), .int a, .int b])).trans e_twoD
    · exact (r_MRm_twoOf_1_41 (X := X) (d := d) (st := []) (h := h) (L := [.int (nI 41), .int a, .int b])).trans e_twoD
    · show Rr X d MRm_twoOf 1 _ [.int (42)] h = some (some (.int (if (42 : Int32) = 37 then _ else if (42 : Int32) = 38 then _ else if (42 : Int32) = 42 then _ else _)), h)
      rw [if_neg (by decide), if_neg (by decide), if_pos rfl, r_MRm_twoOf_1_42]
      simp only [r_MRm_twoOf_128, r_MRm_twoOf_129, r_MRm_twoOf_130, r_MRm_twoOf_131]
    · show Rr X d MRm_twoOf 1 _ [.int (43)] h = some (some (.int (if (43 : Int32) = 37 then _ else if (43 : Int32) = 38 then _ else if (43 : Int32) = 42 then _ else if (43 : Int32) = 43 then _ else _)), h)
      rw [if_neg (by decide), if_neg (by decide), if_neg (by decide), if_pos rfl, r_MRm_twoOf_1_43]
      simp only [r_MRm_twoOf_120, r_MRm_twoOf_121, r_MRm_twoOf_122, r_MRm_twoOf_123]
    · exact (r_MRm_twoOf_1_44 (X := X) (d := d) (st := []) (h := h) (L := [.int (nI 44), .int a, .int b])).trans e_twoD
    · show Rr X d MRm_twoOf 1 _ [.int (45)] h = some (some (.int (if (45 : Int32) = 37 then _ else if (45 : Int32) = 38 then _ else if (45 : Int32) = 42 then _ else if (45 : Int32) = 43 then _ else if (45 : Int32) = 45 then _ else _)), h)
      rw [if_neg (by decide), if_neg (by decide), if_neg (by decide), if_neg (by decide), if_pos rfl, r_MRm_twoOf_1_45]
      simp only [r_MRm_twoOf_124, r_MRm_twoOf_125, r_MRm_twoOf_126, r_MRm_twoOf_127]
    · exact (r_MRm_twoOf_1_46 (X := X) (d := d) (st := []) (h := h) (L := [.int (nI 46), .int a, .int b])).trans e_twoD
    · show Rr X d MRm_twoOf 1 _ [.int (47)] h = some (some (.int (if (47 : Int32) = 37 then _ else if (47 : Int32) = 38 then _ else if (47 : Int32) = 42 then _ else if (47 : Int32) = 43 then _ else if (47 : Int32) = 45 then _ else if (47 : Int32) = 47 then _ else _)), h)
      rw [if_neg (by decide), if_neg (by decide), if_neg (by decide), if_neg (by decide), if_neg (by decide), if_pos rfl, r_MRm_twoOf_1_47]
      by_cases c1 : b = 0
      · simp only [r_MRm_twoOf_132, r_MRm_twoOf_133, r_MRm_twoOf_136, r_MRm_twoOf_137, r_MRm_twoOf_140, r_MRm_twoOf_141, r_MRm_twoOf_142, r_MRm_twoOf_145, r_MRm_twoOf_146, r_MRm_twoOf_147, r_MRm_twoOf_150, r_MRm_twoOf_151, r_MRm_twoOf_152, r_MRm_twoOf_153, c1, not_true_eq_false, if_true, if_false]
      · by_cases c2 : b = -1
        · simp only [r_MRm_twoOf_132, r_MRm_twoOf_133, r_MRm_twoOf_136, r_MRm_twoOf_137, r_MRm_twoOf_140, r_MRm_twoOf_141, r_MRm_twoOf_142, r_MRm_twoOf_145, r_MRm_twoOf_146, r_MRm_twoOf_147, r_MRm_twoOf_150, r_MRm_twoOf_151, r_MRm_twoOf_152, r_MRm_twoOf_153, c1, c2, not_true_eq_false, not_false_eq_true, if_true, if_false, show ((-1 : Int32) = 0) = False by simp]
        · simp only [r_MRm_twoOf_132, r_MRm_twoOf_133, r_MRm_twoOf_136, r_MRm_twoOf_137, r_MRm_twoOf_140, r_MRm_twoOf_141, r_MRm_twoOf_142, r_MRm_twoOf_145, r_MRm_twoOf_146, r_MRm_twoOf_147, r_MRm_twoOf_150, r_MRm_twoOf_151, r_MRm_twoOf_152, r_MRm_twoOf_153, c1, c2, not_false_eq_true, if_true, if_false]
    · exact (r_MRm_twoOf_1_48 (X := X) (d := d) (st := []) (h := h) (L := [.int (nI 48), .int a, .int b])).trans e_twoD
    · exact (r_MRm_twoOf_1_49 (X := X) (d := d) (st := []) (h := h) (L := [.int (nI 49), .int a, .int b])).trans e_twoD
    · exact (r_MRm_twoOf_1_50 (X := X) (d := d) (st := []) (h := h) (L := [.int (nI 50), .int a, .int b])).trans e_twoD
    · exact (r_MRm_twoOf_1_51 (X := X) (d := d) (st := []) (h := h) (L := [.int (nI 51), .int a, .int b])).trans e_twoD
    · exact (r_MRm_twoOf_1_52 (X := X) (d := d) (st := []) (h := h) (L := [.int (nI 52), .int a, .int b])).trans e_twoD
    · exact (r_MRm_twoOf_1_53 (X := X) (d := d) (st := []) (h := h) (L := [.int (nI 53), .int a, .int b])).trans e_twoD
    · exact (r_MRm_twoOf_1_54 (X := X) (d := d) (st := []) (h := h) (L := [.int (nI 54), .int a, .int b])).trans e_twoD
    · exact (r_MRm_twoOf_1_55 (X := X) (d := d) (st := []) (h := h) (L := [.int (nI 55), .int a, .int b])).trans e_twoD
    · exact (r_MRm_twoOf_1_56 (X := X) (d := d) (st := []) (h := h) (L := [.int (nI 56), .int a, .int b])).trans e_twoD
    · exact (r_MRm_twoOf_1_57 (X := X) (d := d) (st := []) (h := h) (L := [.int (nI 57), .int a, .int b])).trans e_twoD
    · exact (r_MRm_twoOf_1_58 (X := X) (d := d) (st := []) (h := h) (L := [.int (nI 58), .int a, .int b])).trans e_twoD
    · exact (r_MRm_twoOf_1_59 (X := X) (d := d) (st := []) (h := h) (L := [.int (nI 59), .int a, .int b])).trans e_twoD
    · show Rr X d MRm_twoOf 1 _ [.int (60)] h = some (some (.int (if (60 : Int32) = 37 then _ else if (60 : Int32) = 38 then _ else if (60 : Int32) = 42 then _ else if (60 : Int32) = 43 then _ else if (60 : Int32) = 45 then _ else if (60 : Int32) = 47 then _ else if (60 : Int32) = 60 then _ else _)), h)
      rw [if_neg (by decide), if_neg (by decide), if_neg (by decide), if_neg (by decide), if_neg (by decide), if_neg (by decide), if_pos rfl, r_MRm_twoOf_1_60]
      by_cases c1 : a < b
      · simp only [r_MRm_twoOf_171, r_MRm_twoOf_172, r_MRm_twoOf_173, r_MRm_twoOf_176, r_MRm_twoOf_177, r_MRm_twoOf_180, r_MRm_twoOf_181, c1, Int32.not_le.mpr c1, if_true, if_false]
      · simp only [r_MRm_twoOf_171, r_MRm_twoOf_172, r_MRm_twoOf_173, r_MRm_twoOf_176, r_MRm_twoOf_177, r_MRm_twoOf_180, r_MRm_twoOf_181, c1, Int32.not_lt.mp c1, if_true, if_false]
    · show Rr X d MRm_twoOf 1 _ [.int (61)] h = some (some (.int (if (61 : Int32) = 37 then _ else if (61 : Int32) = 38 then _ else if (61 : Int32) = 42 then _ else if (61 : Int32) = 43 then _ else if (61 : Int32) = 45 then _ else if (61 : Int32) = 47 then _ else if (61 : Int32) = 60 then _ else if (61 : Int32) = 61 then _ else _)), h)
      rw [if_neg (by decide), if_neg (by decide), if_neg (by decide), if_neg (by decide), if_neg (by decide), if_neg (by decide), if_neg (by decide), if_pos rfl, r_MRm_twoOf_1_61]
      by_cases c1 : a = b
      · simp only [r_MRm_twoOf_182, r_MRm_twoOf_183, r_MRm_twoOf_184, r_MRm_twoOf_187, r_MRm_twoOf_188, r_MRm_twoOf_191, r_MRm_twoOf_192, c1, not_true_eq_false, if_true, if_false]
      · simp only [r_MRm_twoOf_182, r_MRm_twoOf_183, r_MRm_twoOf_184, r_MRm_twoOf_187, r_MRm_twoOf_188, r_MRm_twoOf_191, r_MRm_twoOf_192, c1, not_false_eq_true, if_true, if_false]
    · show Rr X d MRm_twoOf 1 _ [.int (62)] h = some (some (.int (if (62 : Int32) = 37 then _ else if (62 : Int32) = 38 then _ else if (62 : Int32) = 42 then _ else if (62 : Int32) = 43 then _ else if (62 : Int32) = 45 then _ else if (62 : Int32) = 47 then _ else if (62 : Int32) = 60 then _ else if (62 : Int32) = 61 then _ else if (62 : Int32) = 62 then _ else _)), h)
      rw [if_neg (by decide), if_neg (by decide), if_neg (by decide), if_neg (by decide), if_neg (by decide), if_neg (by decide), if_neg (by decide), if_neg (by decide), if_pos rfl, r_MRm_twoOf_1_62]
      by_cases c1 : b < a
      · simp only [r_MRm_twoOf_193, r_MRm_twoOf_194, r_MRm_twoOf_195, r_MRm_twoOf_198, r_MRm_twoOf_199, r_MRm_twoOf_202, r_MRm_twoOf_203, c1, Int32.not_le.mpr c1, if_true, if_false]
      · simp only [r_MRm_twoOf_193, r_MRm_twoOf_194, r_MRm_twoOf_195, r_MRm_twoOf_198, r_MRm_twoOf_199, r_MRm_twoOf_202, r_MRm_twoOf_203, c1, Int32.not_lt.mp c1, if_true, if_false]
end
