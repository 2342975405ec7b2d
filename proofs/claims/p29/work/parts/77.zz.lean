-- ===== the law: a call of each side, by the contracts
abbrev GB (mu : Mu) (la : La) (ro : Ro) : Prop := gOk ivG mu ∧ rOk ro ∧ JB mu la ro
theorem res_i {lo hi : Int} {r : Option Value} (h : resC (some [aI lo hi]) r) : ∃ x, r = some (.int x) := by
  cases r with
  | none => exact h.elim
  | some v =>
    obtain ⟨p, h1, h2⟩ := h
    rw [List.mem_singleton] at h1
    subst h1
    obtain ⟨x, hx, _⟩ := h2
    exact ⟨x, by rw [hx]⟩
theorem det1 {r : Res} {x y : Int32} {w w' : Hp} (h1 : r = some (some (.int x), w)) (h2 : r = some (some (.int y), w')) : x = y := by
  rw [h1] at h2
  cases h2
  rfl
theorem detW {r : Res} {v v' : Option Value} {w w' : Hp} (h1 : r = some (v, w)) (h2 : r = some (v', w')) : w = w' := by
  rw [h1] at h2
  cases h2
  rfl
theorem res_l {r : Option Value} (h : resC (some [aL]) r) : ∃ x, r = some (.long x) := by
  cases r with
  | none => exact h.elim
  | some v =>
    obtain ⟨p, h1, h2⟩ := h
    rw [List.mem_singleton] at h1
    subst h1
    obtain ⟨x, hx⟩ := h2
    exact ⟨x, by rw [hx]⟩
theorem ixs {i L : Nat} (h : i + 6 ≤ L) (hL : L ≤ 384) : ((nI (i + 1)).toNatClampNeg = i + 1 ∧ ¬ (nI (i + 1) < 0 ∨ L ≤ i + 1)) ∧ ((nI i + 2 = nI (i + 2) ∧ (nI (i + 2)).toNatClampNeg = i + 2 ∧ ¬ (nI (i + 2) < 0 ∨ L ≤ i + 2)) ∧ ((nI i + 3 = nI (i + 3) ∧ (nI (i + 3)).toNatClampNeg = i + 3 ∧ ¬ (nI (i + 3) < 0 ∨ L ≤ i + 3)) ∧ ((nI i + 4 = nI (i + 4) ∧ (nI (i + 4)).toNatClampNeg = i + 4 ∧ ¬ (nI (i + 4) < 0 ∨ L ≤ i + 4)) ∧ (nI i + 5 = nI (i + 5) ∧ (nI (i + 5)).toNatClampNeg = i + 5 ∧ ¬ (nI (i + 5) < 0 ∨ L ≤ i + 5))))) :=
  ⟨⟨nI_clamp (by omega), ix (by omega) (by omega)⟩, ⟨nI_add i 2, nI_clamp (by omega), ix (by omega) (by omega)⟩, ⟨nI_add i 3, nI_clamp (by omega), ix (by omega) (by omega)⟩, ⟨nI_add i 4, nI_clamp (by omega), ix (by omega) (by omega)⟩, ⟨nI_add i 5, nI_clamp (by omega), ix (by omega) (by omega)⟩⟩
abbrev GR (mu : Mu) (la : La) (ro : Ro) : Prop := GB mu la ro ∧ RTS mu la ro
set_option maxHeartbeats 4000000 in
theorem lc_0_feed {L : Nat} {xs : Nat → Int32} {mu : Mu} {la : La} {ro : Ro} {et : Nat → Option va_E} {i : Nat} (hL : L ≤ 384) (hi : i + 6 ≤ L) (G : GR mu la ro) : ∃ mu2 la2 ro2, GR mu2 la2 ro2 ∧ Rr (XS L xs) 300 MLa_law 200 [.float 0, .ref 0, .ref 81, .int (nI i)] [] (Wd mu la ro et) = Rr (XS L xs) 300 MLa_law 1544 [.float 0, .ref 0, .ref 81, .int (nI i)] [] (Wd mu2 la2 ro2 et) := by
  obtain ⟨⟨c1, n1⟩, ⟨a2, c2, n2⟩, ⟨a3, c3, n3⟩, ⟨a4, c4, n4⟩, ⟨a5, c5, n5⟩⟩ := ixs hi hL
  obtain ⟨⟨g, r, j⟩, s⟩ := G
  obtain ⟨mu1, mu2, x0, w1, w2, g2, j2, s2, ff⟩ := feedS (X := XS L xs) (d := 298) (la := la) (ro := ro) (et := et) (n := xs (i + 1)) (v := xs (i + 2)) g j s
  have r2 := r
  refine ⟨mu2, la, ro, ⟨⟨g2, r2, j2⟩, s2⟩, ?_⟩
  simp only [r_MLa_law_200, r_MLa_law_200n, r_MLa_law_201, r_MLa_law_201f, r_MLa_law_202, r_MLa_law_203, r_MLa_law_204, r_MLa_law_205, r_MLa_law_205f, r_MLa_law_206, r_MLa_law_206f, r_MLa_law_207, r_MLa_law_208, r_MLa_law_209, r_MLa_law_210, r_MLa_law_210f, r_MLa_law_211, r_MLa_law_214, r_MLa_law_215, r_MLa_law_215n, r_MLa_law_216, r_MLa_law_216f, r_MLa_law_217, r_MLa_law_218, r_MLa_law_219, r_MLa_law_220, r_MLa_law_220f, r_MLa_law_221, r_MLa_law_221f, r_MLa_law_222, r_MLa_law_223, r_MLa_law_224, r_MLa_law_225, r_MLa_law_225f, r_MLa_law_226, r_MLa_law_229, r_MLa_law_230, sL_0, sL_1, sL_2, mk_i, mk_r, mk_f, mk_n, mk_u, mk_l, List.set_cons_succ, List.set_cons_zero, Nat.reduceAdd, ckS_0, ckS_1, ckS_2, ckS_3, ckS_4, Option.bind_some, Option.isSome_some, psh, if_true, if_false, i10, not_true_eq_false, not_false_eq_true, Bool.false_eq_true, and_self, and_true, true_and, eq_self, nI_1, a2, a3, a4, a5, c1, c2, c3, c4, c5, n1, n2, n3, n4, n5, qO_0, qO_81, w1, w2]
set_option maxHeartbeats 4000000 in
theorem lc_1_stone {L : Nat} {xs : Nat → Int32} {mu : Mu} {la : La} {ro : Ro} {et : Nat → Option va_E} {i : Nat} (hL : L ≤ 384) (hi : i + 6 ≤ L) (G : GR mu la ro) : ∃ mu2 la2 ro2, GR mu2 la2 ro2 ∧ Rr (XS L xs) 300 MLa_law 233 [.float 0, .ref 0, .ref 81, .int (nI i)] [] (Wd mu la ro et) = Rr (XS L xs) 300 MLa_law 1544 [.float 0, .ref 0, .ref 81, .int (nI i)] [] (Wd mu2 la2 ro2 et) := by
  obtain ⟨⟨c1, n1⟩, ⟨a2, c2, n2⟩, ⟨a3, c3, n3⟩, ⟨a4, c4, n4⟩, ⟨a5, c5, n5⟩⟩ := ixs hi hL
  obtain ⟨⟨g, r, j⟩, s⟩ := G
  obtain ⟨mu1, mu2, x0, w1, w2, g2, j2, s2, ff⟩ := stoneS (X := XS L xs) (d := 294) (la := la) (et := et) g r j s
  have r2 := r
  refine ⟨mu2, la, ro, ⟨⟨g2, r2, j2⟩, s2⟩, ?_⟩
  simp only [r_MLa_law_233, r_MLa_law_233n, r_MLa_law_234, r_MLa_law_237, r_MLa_law_238, r_MLa_law_238n, r_MLa_law_239, r_MLa_law_242, r_MLa_law_243, sL_0, sL_1, sL_2, mk_i, mk_r, mk_f, mk_n, mk_u, mk_l, List.set_cons_succ, List.set_cons_zero, Nat.reduceAdd, ckS_0, ckS_1, ckS_2, ckS_3, ckS_4, Option.bind_some, Option.isSome_some, psh, if_true, if_false, i10, not_true_eq_false, not_false_eq_true, Bool.false_eq_true, and_self, and_true, true_and, eq_self, nI_1, a2, a3, a4, a5, c1, c2, c3, c4, c5, n1, n2, n3, n4, n5, qO_0, qO_81, w1, w2]
set_option maxHeartbeats 4000000 in
theorem lc_2_of {L : Nat} {xs : Nat → Int32} {mu : Mu} {la : La} {ro : Ro} {et : Nat → Option va_E} {i : Nat} (hL : L ≤ 384) (hi : i + 6 ≤ L) (G : GR mu la ro) : ∃ mu2 la2 ro2, GR mu2 la2 ro2 ∧ Rr (XS L xs) 300 MLa_law 246 [.float 0, .ref 0, .ref 81, .int (nI i)] [] (Wd mu la ro et) = Rr (XS L xs) 300 MLa_law 1544 [.float 0, .ref 0, .ref 81, .int (nI i)] [] (Wd mu2 la2 ro2 et) := by
  obtain ⟨⟨c1, n1⟩, ⟨a2, c2, n2⟩, ⟨a3, c3, n3⟩, ⟨a4, c4, n4⟩, ⟨a5, c5, n5⟩⟩ := ixs hi hL
  obtain ⟨⟨g, r, j⟩, s⟩ := G
  obtain ⟨x0, w1, w2⟩ := of_all (X := XS L xs) (d := 295) (la := la) (et := et) (s := xs (i + 1)) (w := xs (i + 2)) r (RSC_R s.2)
  have g2 := g
  have r2 := r
  have j2 := j
  have s2 := s
  refine ⟨mu, la, ro, ⟨⟨g2, r2, j2⟩, s2⟩, ?_⟩
  simp only [r_MLa_law_246, r_MLa_law_246n, r_MLa_law_247, r_MLa_law_247f, r_MLa_law_248, r_MLa_law_249, r_MLa_law_250, r_MLa_law_251, r_MLa_law_251f, r_MLa_law_252, r_MLa_law_252f, r_MLa_law_253, r_MLa_law_254, r_MLa_law_255, r_MLa_law_256, r_MLa_law_256f, r_MLa_law_257, r_MLa_law_260, r_MLa_law_261, r_MLa_law_261n, r_MLa_law_262, r_MLa_law_262f, r_MLa_law_263, r_MLa_law_264, r_MLa_law_265, r_MLa_law_266, r_MLa_law_266f, r_MLa_law_267, r_MLa_law_267f, r_MLa_law_268, r_MLa_law_269, r_MLa_law_270, r_MLa_law_271, r_MLa_law_271f, r_MLa_law_272, r_MLa_law_275, r_MLa_law_276, sL_0, sL_1, sL_2, mk_i, mk_r, mk_f, mk_n, mk_u, mk_l, List.set_cons_succ, List.set_cons_zero, Nat.reduceAdd, ckS_0, ckS_1, ckS_2, ckS_3, ckS_4, Option.bind_some, Option.isSome_some, psh, if_true, if_false, i10, not_true_eq_false, not_false_eq_true, Bool.false_eq_true, and_self, and_true, true_and, eq_self, nI_1, a2, a3, a4, a5, c1, c2, c3, c4, c5, n1, n2, n3, n4, n5, qO_0, qO_81, w1, w2]
set_option maxHeartbeats 4000000 in
theorem lc_3_lump {L : Nat} {xs : Nat → Int32} {mu : Mu} {la : La} {ro : Ro} {et : Nat → Option va_E} {i : Nat} (hL : L ≤ 384) (hi : i + 6 ≤ L) (G : GR mu la ro) : ∃ mu2 la2 ro2, GR mu2 la2 ro2 ∧ Rr (XS L xs) 300 MLa_law 279 [.float 0, .ref 0, .ref 81, .int (nI i)] [] (Wd mu la ro et) = Rr (XS L xs) 300 MLa_law 1544 [.float 0, .ref 0, .ref 81, .int (nI i)] [] (Wd mu2 la2 ro2 et) := by
  obtain ⟨⟨c1, n1⟩, ⟨a2, c2, n2⟩, ⟨a3, c3, n3⟩, ⟨a4, c4, n4⟩, ⟨a5, c5, n5⟩⟩ := ixs hi hL
  obtain ⟨⟨g, r, j⟩, s⟩ := G
  obtain ⟨x0, w1, w2⟩ := lump_all (X := XS L xs) (d := 297) (la := la) (et := et) (s := xs (i + 1)) (i := xs (i + 2)) (w := xs (i + 3)) r (RSC_R s.2)
  have g2 := g
  have r2 := r
  have j2 := j
  have s2 := s
  refine ⟨mu, la, ro, ⟨⟨g2, r2, j2⟩, s2⟩, ?_⟩
  simp only [r_MLa_law_279, r_MLa_law_279n, r_MLa_law_280, r_MLa_law_280f, r_MLa_law_281, r_MLa_law_282, r_MLa_law_283, r_MLa_law_284, r_MLa_law_284f, r_MLa_law_285, r_MLa_law_285f, r_MLa_law_286, r_MLa_law_287, r_MLa_law_288, r_MLa_law_289, r_MLa_law_289f, r_MLa_law_290, r_MLa_law_290f, r_MLa_law_291, r_MLa_law_292, r_MLa_law_293, r_MLa_law_294, r_MLa_law_294f, r_MLa_law_295, r_MLa_law_298, r_MLa_law_299, r_MLa_law_299n, r_MLa_law_300, r_MLa_law_300f, r_MLa_law_301, r_MLa_law_302, r_MLa_law_303, r_MLa_law_304, r_MLa_law_304f, r_MLa_law_305, r_MLa_law_305f, r_MLa_law_306, r_MLa_law_307, r_MLa_law_308, r_MLa_law_309, r_MLa_law_309f, r_MLa_law_310, r_MLa_law_310f, r_MLa_law_311, r_MLa_law_312, r_MLa_law_313, r_MLa_law_314, r_MLa_law_314f, r_MLa_law_315, r_MLa_law_318, r_MLa_law_319, sL_0, sL_1, sL_2, mk_i, mk_r, mk_f, mk_n, mk_u, mk_l, List.set_cons_succ, List.set_cons_zero, Nat.reduceAdd, ckS_0, ckS_1, ckS_2, ckS_3, ckS_4, Option.bind_some, Option.isSome_some, psh, if_true, if_false, i10, not_true_eq_false, not_false_eq_true, Bool.false_eq_true, and_self, and_true, true_and, eq_self, nI_1, a2, a3, a4, a5, c1, c2, c3, c4, c5, n1, n2, n3, n4, n5, qO_0, qO_81, w1, w2]
set_option maxHeartbeats 4000000 in
theorem lc_4_set {L : Nat} {xs : Nat → Int32} {mu : Mu} {la : La} {ro : Ro} {et : Nat → Option va_E} {i : Nat} (hL : L ≤ 384) (hi : i + 6 ≤ L) (G : GR mu la ro) : ∃ mu2 la2 ro2, GR mu2 la2 ro2 ∧ Rr (XS L xs) 300 MLa_law 322 [.float 0, .ref 0, .ref 81, .int (nI i)] [] (Wd mu la ro et) = Rr (XS L xs) 300 MLa_law 1544 [.float 0, .ref 0, .ref 81, .int (nI i)] [] (Wd mu2 la2 ro2 et) := by
  obtain ⟨⟨c1, n1⟩, ⟨a2, c2, n2⟩, ⟨a3, c3, n3⟩, ⟨a4, c4, n4⟩, ⟨a5, c5, n5⟩⟩ := ixs hi hL
  obtain ⟨⟨g, r, j⟩, s⟩ := G
  obtain ⟨mu1, mu2, x0, w1, w2, g2, j2, s2, ff⟩ := setS (X := XS L xs) (d := 296) (la := la) (et := et) (s := xs (i + 1)) (w := xs (i + 2)) (v := xs (i + 3)) g r j s
  have r2 := r
  refine ⟨mu2, la, ro, ⟨⟨g2, r2, j2⟩, s2⟩, ?_⟩
  simp only [r_MLa_law_322, r_MLa_law_322n, r_MLa_law_323, r_MLa_law_323f, r_MLa_law_324, r_MLa_law_325, r_MLa_law_326, r_MLa_law_327, r_MLa_law_327f, r_MLa_law_328, r_MLa_law_328f, r_MLa_law_329, r_MLa_law_330, r_MLa_law_331, r_MLa_law_332, r_MLa_law_332f, r_MLa_law_333, r_MLa_law_333f, r_MLa_law_334, r_MLa_law_335, r_MLa_law_336, r_MLa_law_337, r_MLa_law_337f, r_MLa_law_338, r_MLa_law_341, r_MLa_law_342, r_MLa_law_342n, r_MLa_law_343, r_MLa_law_343f, r_MLa_law_344, r_MLa_law_345, r_MLa_law_346, r_MLa_law_347, r_MLa_law_347f, r_MLa_law_348, r_MLa_law_348f, r_MLa_law_349, r_MLa_law_350, r_MLa_law_351, r_MLa_law_352, r_MLa_law_352f, r_MLa_law_353, r_MLa_law_353f, r_MLa_law_354, r_MLa_law_355, r_MLa_law_356, r_MLa_law_357, r_MLa_law_357f, r_MLa_law_358, r_MLa_law_361, r_MLa_law_362, sL_0, sL_1, sL_2, mk_i, mk_r, mk_f, mk_n, mk_u, mk_l, List.set_cons_succ, List.set_cons_zero, Nat.reduceAdd, ckS_0, ckS_1, ckS_2, ckS_3, ckS_4, Option.bind_some, Option.isSome_some, psh, if_true, if_false, i10, not_true_eq_false, not_false_eq_true, Bool.false_eq_true, and_self, and_true, true_and, eq_self, nI_1, a2, a3, a4, a5, c1, c2, c3, c4, c5, n1, n2, n3, n4, n5, qO_0, qO_81, w1, w2]
set_option maxHeartbeats 4000000 in
theorem lc_5_floor {L : Nat} {xs : Nat → Int32} {mu : Mu} {la : La} {ro : Ro} {et : Nat → Option va_E} {i : Nat} (hL : L ≤ 384) (hi : i + 6 ≤ L) (G : GR mu la ro) : ∃ mu2 la2 ro2, GR mu2 la2 ro2 ∧ Rr (XS L xs) 300 MLa_law 365 [.float 0, .ref 0, .ref 81, .int (nI i)] [] (Wd mu la ro et) = Rr (XS L xs) 300 MLa_law 1544 [.float 0, .ref 0, .ref 81, .int (nI i)] [] (Wd mu2 la2 ro2 et) := by
  obtain ⟨⟨c1, n1⟩, ⟨a2, c2, n2⟩, ⟨a3, c3, n3⟩, ⟨a4, c4, n4⟩, ⟨a5, c5, n5⟩⟩ := ixs hi hL
  obtain ⟨⟨g, r, j⟩, s⟩ := G
  obtain ⟨mu1, mu2, x0, w1, w2, g2, j2, s2, ff⟩ := floorS (X := XS L xs) (d := 228) (la := la) (et := et) g r j s
  have r2 := r
  refine ⟨mu2, la, ro, ⟨⟨g2, r2, j2⟩, s2⟩, ?_⟩
  simp only [r_MLa_law_365, r_MLa_law_365n, r_MLa_law_366, r_MLa_law_369, r_MLa_law_370, r_MLa_law_370n, r_MLa_law_371, r_MLa_law_374, r_MLa_law_375, sL_0, sL_1, sL_2, mk_i, mk_r, mk_f, mk_n, mk_u, mk_l, List.set_cons_succ, List.set_cons_zero, Nat.reduceAdd, ckS_0, ckS_1, ckS_2, ckS_3, ckS_4, Option.bind_some, Option.isSome_some, psh, if_true, if_false, i10, not_true_eq_false, not_false_eq_true, Bool.false_eq_true, and_self, and_true, true_and, eq_self, nI_1, a2, a3, a4, a5, c1, c2, c3, c4, c5, n1, n2, n3, n4, n5, qO_0, qO_81, w1, w2]
set_option maxHeartbeats 4000000 in
theorem lc_6_grows {L : Nat} {xs : Nat → Int32} {mu : Mu} {la : La} {ro : Ro} {et : Nat → Option va_E} {i : Nat} (hL : L ≤ 384) (hi : i + 6 ≤ L) (G : GR mu la ro) : ∃ mu2 la2 ro2, GR mu2 la2 ro2 ∧ Rr (XS L xs) 300 MLa_law 378 [.float 0, .ref 0, .ref 81, .int (nI i)] [] (Wd mu la ro et) = Rr (XS L xs) 300 MLa_law 1544 [.float 0, .ref 0, .ref 81, .int (nI i)] [] (Wd mu2 la2 ro2 et) := by
  obtain ⟨⟨c1, n1⟩, ⟨a2, c2, n2⟩, ⟨a3, c3, n3⟩, ⟨a4, c4, n4⟩, ⟨a5, c5, n5⟩⟩ := ixs hi hL
  obtain ⟨⟨g, r, j⟩, s⟩ := G
  obtain ⟨x0, w1, w2⟩ := grows_all (X := XS L xs) (d := 296) (la := la) (et := et) (s := xs (i + 1)) (w := xs (i + 2)) r (RSC_R s.2)
  have g2 := g
  have r2 := r
  have j2 := j
  have s2 := s
  refine ⟨mu, la, ro, ⟨⟨g2, r2, j2⟩, s2⟩, ?_⟩
  simp only [r_MLa_law_378, r_MLa_law_378n, r_MLa_law_379, r_MLa_law_379f, r_MLa_law_380, r_MLa_law_381, r_MLa_law_382, r_MLa_law_383, r_MLa_law_383f, r_MLa_law_384, r_MLa_law_384f, r_MLa_law_385, r_MLa_law_386, r_MLa_law_387, r_MLa_law_388, r_MLa_law_388f, r_MLa_law_389, r_MLa_law_392, r_MLa_law_393, r_MLa_law_393n, r_MLa_law_394, r_MLa_law_394f, r_MLa_law_395, r_MLa_law_396, r_MLa_law_397, r_MLa_law_398, r_MLa_law_398f, r_MLa_law_399, r_MLa_law_399f, r_MLa_law_400, r_MLa_law_401, r_MLa_law_402, r_MLa_law_403, r_MLa_law_403f, r_MLa_law_404, r_MLa_law_407, r_MLa_law_408, sL_0, sL_1, sL_2, mk_i, mk_r, mk_f, mk_n, mk_u, mk_l, List.set_cons_succ, List.set_cons_zero, Nat.reduceAdd, ckS_0, ckS_1, ckS_2, ckS_3, ckS_4, Option.bind_some, Option.isSome_some, psh, if_true, if_false, i10, not_true_eq_false, not_false_eq_true, Bool.false_eq_true, and_self, and_true, true_and, eq_self, nI_1, a2, a3, a4, a5, c1, c2, c3, c4, c5, n1, n2, n3, n4, n5, qO_0, qO_81, w1, w2]
set_option maxHeartbeats 4000000 in
theorem lc_7_roll {L : Nat} {xs : Nat → Int32} {mu : Mu} {la : La} {ro : Ro} {et : Nat → Option va_E} {i : Nat} (hL : L ≤ 384) (hi : i + 6 ≤ L) (G : GR mu la ro) : ∃ mu2 la2 ro2, GR mu2 la2 ro2 ∧ Rr (XS L xs) 300 MLa_law 411 [.float 0, .ref 0, .ref 81, .int (nI i)] [] (Wd mu la ro et) = Rr (XS L xs) 300 MLa_law 1544 [.float 0, .ref 0, .ref 81, .int (nI i)] [] (Wd mu2 la2 ro2 et) := by
  obtain ⟨⟨c1, n1⟩, ⟨a2, c2, n2⟩, ⟨a3, c3, n3⟩, ⟨a4, c4, n4⟩, ⟨a5, c5, n5⟩⟩ := ixs hi hL
  obtain ⟨⟨g, r, j⟩, s⟩ := G
  obtain ⟨v1, mu1, la1, ro1, e1, g1, r1, j1, f1, q1⟩ := (t369 XS_ok (hand_all XS_ex) JS_B) 299 [.ref 0, .int (xs (i + 1)), .int (xs (i + 2)), .int (xs (i + 3)), .int (xs (i + 4))] mu la ro (Nat.le_of_ble_eq_true rfl) ⟨rfl, ⟨_, rfl, i_lo _, i_hi _⟩, ⟨_, rfl, i_lo _, i_hi _⟩, ⟨_, rfl, i_lo _, i_hi _⟩, ⟨_, rfl, i_lo _, i_hi _⟩, trivial⟩ g r j
  obtain ⟨x1, rfl⟩ := res_i q1
  have w1 : Rr (XS L xs) 299 MTo_roll 0 [.ref 0, .int (xs (i + 1)), .int (xs (i + 2)), .int (xs (i + 3)), .int (xs (i + 4))] [] (Wd mu la ro et) = some (some (.int x1), Wd mu1 la1 ro1 et) := e1
  obtain ⟨v2, mu2, la2, ro2, e2, g2, r2, j2, f2, q2⟩ := (t439 XS_ok (hand_all XS_ex) JS_B) 299 [.ref 81, .int (xs (i + 1)), .int (xs (i + 2)), .int (xs (i + 3)), .int (xs (i + 4))] mu1 la1 ro1 (Nat.le_of_ble_eq_true rfl) ⟨rfl, ⟨_, rfl, i_lo _, i_hi _⟩, ⟨_, rfl, i_lo _, i_hi _⟩, ⟨_, rfl, i_lo _, i_hi _⟩, ⟨_, rfl, i_lo _, i_hi _⟩, trivial⟩ g1 r1 j1
  obtain ⟨x2, rfl⟩ := res_i q2
  have w2 : Rr (XS L xs) 299 MRm_roll 0 [.ref 81, .int (xs (i + 1)), .int (xs (i + 2)), .int (xs (i + 3)), .int (xs (i + 4)), mkU, mkU] [] (Wd mu1 la1 ro1 et) = some (some (.int x2), Wd mu2 la2 ro2 et) := e2
  have s2 := RTS_f (by decide +kernel) f2 (RTS_f (by decide +kernel) f1 s)
  refine ⟨mu2, la2, ro2, ⟨⟨g2, r2, j2⟩, s2⟩, ?_⟩
  simp only [r_MLa_law_411, r_MLa_law_411n, r_MLa_law_412, r_MLa_law_412f, r_MLa_law_413, r_MLa_law_414, r_MLa_law_415, r_MLa_law_416, r_MLa_law_416f, r_MLa_law_417, r_MLa_law_417f, r_MLa_law_418, r_MLa_law_419, r_MLa_law_420, r_MLa_law_421, r_MLa_law_421f, r_MLa_law_422, r_MLa_law_422f, r_MLa_law_423, r_MLa_law_424, r_MLa_law_425, r_MLa_law_426, r_MLa_law_426f, r_MLa_law_427, r_MLa_law_427f, r_MLa_law_428, r_MLa_law_429, r_MLa_law_430, r_MLa_law_431, r_MLa_law_431f, r_MLa_law_432, r_MLa_law_435, r_MLa_law_436, r_MLa_law_436n, r_MLa_law_437, r_MLa_law_437f, r_MLa_law_438, r_MLa_law_439, r_MLa_law_440, r_MLa_law_441, r_MLa_law_441f, r_MLa_law_442, r_MLa_law_442f, r_MLa_law_443, r_MLa_law_444, r_MLa_law_445, r_MLa_law_446, r_MLa_law_446f, r_MLa_law_447, r_MLa_law_447f, r_MLa_law_448, r_MLa_law_449, r_MLa_law_450, r_MLa_law_451, r_MLa_law_451f, r_MLa_law_452, r_MLa_law_452f, r_MLa_law_453, r_MLa_law_454, r_MLa_law_455, r_MLa_law_456, r_MLa_law_456f, r_MLa_law_457, r_MLa_law_460, r_MLa_law_461, sL_0, sL_1, sL_2, mk_i, mk_r, mk_f, mk_n, mk_u, mk_l, List.set_cons_succ, List.set_cons_zero, Nat.reduceAdd, ckS_0, ckS_1, ckS_2, ckS_3, ckS_4, Option.bind_some, Option.isSome_some, psh, if_true, if_false, i10, not_true_eq_false, not_false_eq_true, Bool.false_eq_true, and_self, and_true, true_and, eq_self, nI_1, a2, a3, a4, a5, c1, c2, c3, c4, c5, n1, n2, n3, n4, n5, qO_0, qO_81, w1, w2]
set_option maxHeartbeats 4000000 in
theorem lc_8_going {L : Nat} {xs : Nat → Int32} {mu : Mu} {la : La} {ro : Ro} {et : Nat → Option va_E} {i : Nat} (hL : L ≤ 384) (hi : i + 6 ≤ L) (G : GR mu la ro) : ∃ mu2 la2 ro2, GR mu2 la2 ro2 ∧ Rr (XS L xs) 300 MLa_law 464 [.float 0, .ref 0, .ref 81, .int (nI i)] [] (Wd mu la ro et) = Rr (XS L xs) 300 MLa_law 1544 [.float 0, .ref 0, .ref 81, .int (nI i)] [] (Wd mu2 la2 ro2 et) := by
  obtain ⟨⟨c1, n1⟩, ⟨a2, c2, n2⟩, ⟨a3, c3, n3⟩, ⟨a4, c4, n4⟩, ⟨a5, c5, n5⟩⟩ := ixs hi hL
  obtain ⟨⟨g, r, j⟩, s⟩ := G
  obtain ⟨v1, mu1, la1, ro1, e1, g1, r1, j1, f1, q1⟩ := (t370 XS_ok (hand_all XS_ex) JS_B) 299 [.ref 0, .int (xs (i + 1)), .int (xs (i + 2))] mu la ro (Nat.le_of_ble_eq_true rfl) ⟨rfl, ⟨_, rfl, i_lo _, i_hi _⟩, ⟨_, rfl, i_lo _, i_hi _⟩, trivial⟩ g r j
  obtain ⟨x1, rfl⟩ := res_i q1
  have w1 : Rr (XS L xs) 299 MTo_going 0 [.ref 0, .int (xs (i + 1)), .int (xs (i + 2))] [] (Wd mu la ro et) = some (some (.int x1), Wd mu1 la1 ro1 et) := e1
  obtain ⟨v2, mu2, la2, ro2, e2, g2, r2, j2, f2, q2⟩ := (t440 XS_ok (hand_all XS_ex) JS_B) 299 [.ref 81, .int (xs (i + 1)), .int (xs (i + 2))] mu1 la1 ro1 (Nat.le_of_ble_eq_true rfl) ⟨rfl, ⟨_, rfl, i_lo _, i_hi _⟩, ⟨_, rfl, i_lo _, i_hi _⟩, trivial⟩ g1 r1 j1
  obtain ⟨x2, rfl⟩ := res_i q2
  have w2 : Rr (XS L xs) 299 MRm_going 0 [.ref 81, .int (xs (i + 1)), .int (xs (i + 2))] [] (Wd mu1 la1 ro1 et) = some (some (.int x2), Wd mu2 la2 ro2 et) := e2
  have s2 := RTS_f (by decide +kernel) f2 (RTS_f (by decide +kernel) f1 s)
  refine ⟨mu2, la2, ro2, ⟨⟨g2, r2, j2⟩, s2⟩, ?_⟩
  simp only [r_MLa_law_464, r_MLa_law_464n, r_MLa_law_465, r_MLa_law_465f, r_MLa_law_466, r_MLa_law_467, r_MLa_law_468, r_MLa_law_469, r_MLa_law_469f, r_MLa_law_470, r_MLa_law_470f, r_MLa_law_471, r_MLa_law_472, r_MLa_law_473, r_MLa_law_474, r_MLa_law_474f, r_MLa_law_475, r_MLa_law_478, r_MLa_law_479, r_MLa_law_479n, r_MLa_law_480, r_MLa_law_480f, r_MLa_law_481, r_MLa_law_482, r_MLa_law_483, r_MLa_law_484, r_MLa_law_484f, r_MLa_law_485, r_MLa_law_485f, r_MLa_law_486, r_MLa_law_487, r_MLa_law_488, r_MLa_law_489, r_MLa_law_489f, r_MLa_law_490, r_MLa_law_493, r_MLa_law_494, sL_0, sL_1, sL_2, mk_i, mk_r, mk_f, mk_n, mk_u, mk_l, List.set_cons_succ, List.set_cons_zero, Nat.reduceAdd, ckS_0, ckS_1, ckS_2, ckS_3, ckS_4, Option.bind_some, Option.isSome_some, psh, if_true, if_false, i10, not_true_eq_false, not_false_eq_true, Bool.false_eq_true, and_self, and_true, true_and, eq_self, nI_1, a2, a3, a4, a5, c1, c2, c3, c4, c5, n1, n2, n3, n4, n5, qO_0, qO_81, w1, w2]
set_option maxHeartbeats 4000000 in
theorem lc_9_back {L : Nat} {xs : Nat → Int32} {mu : Mu} {la : La} {ro : Ro} {et : Nat → Option va_E} {i : Nat} (hL : L ≤ 384) (hi : i + 6 ≤ L) (G : GR mu la ro) : ∃ mu2 la2 ro2, GR mu2 la2 ro2 ∧ Rr (XS L xs) 300 MLa_law 497 [.float 0, .ref 0, .ref 81, .int (nI i)] [] (Wd mu la ro et) = Rr (XS L xs) 300 MLa_law 1544 [.float 0, .ref 0, .ref 81, .int (nI i)] [] (Wd mu2 la2 ro2 et) := by
  obtain ⟨⟨c1, n1⟩, ⟨a2, c2, n2⟩, ⟨a3, c3, n3⟩, ⟨a4, c4, n4⟩, ⟨a5, c5, n5⟩⟩ := ixs hi hL
  obtain ⟨⟨g, r, j⟩, s⟩ := G
  obtain ⟨v1, mu1, la1, ro1, e1, g1, r1, j1, f1, q1⟩ := (t371 XS_ok (hand_all XS_ex) JS_B) 299 [.ref 0, .int (xs (i + 1))] mu la ro (Nat.le_of_ble_eq_true rfl) ⟨rfl, ⟨_, rfl, i_lo _, i_hi _⟩, trivial⟩ g r j
  obtain ⟨x1, rfl⟩ := res_i q1
  have w1 : Rr (XS L xs) 299 MTo_back 0 [.ref 0, .int (xs (i + 1))] [] (Wd mu la ro et) = some (some (.int x1), Wd mu1 la1 ro1 et) := e1
  obtain ⟨v2, mu2, la2, ro2, e2, g2, r2, j2, f2, q2⟩ := (t441 XS_ok (hand_all XS_ex) JS_B) 299 [.ref 81, .int (xs (i + 1))] mu1 la1 ro1 (Nat.le_of_ble_eq_true rfl) ⟨rfl, ⟨_, rfl, i_lo _, i_hi _⟩, trivial⟩ g1 r1 j1
  obtain ⟨x2, rfl⟩ := res_i q2
  have w2 : Rr (XS L xs) 299 MRm_back 0 [.ref 81, .int (xs (i + 1)), mkU, mkU, mkU, mkU] [] (Wd mu1 la1 ro1 et) = some (some (.int x2), Wd mu2 la2 ro2 et) := e2
  have s2 := RTS_f (by decide +kernel) f2 (RTS_f (by decide +kernel) f1 s)
  refine ⟨mu2, la2, ro2, ⟨⟨g2, r2, j2⟩, s2⟩, ?_⟩
  simp only [r_MLa_law_497, r_MLa_law_497n, r_MLa_law_498, r_MLa_law_498f, r_MLa_law_499, r_MLa_law_500, r_MLa_law_501, r_MLa_law_502, r_MLa_law_502f, r_MLa_law_503, r_MLa_law_506, r_MLa_law_507, r_MLa_law_507n, r_MLa_law_508, r_MLa_law_508f, r_MLa_law_509, r_MLa_law_510, r_MLa_law_511, r_MLa_law_512, r_MLa_law_512f, r_MLa_law_513, r_MLa_law_516, r_MLa_law_517, sL_0, sL_1, sL_2, mk_i, mk_r, mk_f, mk_n, mk_u, mk_l, List.set_cons_succ, List.set_cons_zero, Nat.reduceAdd, ckS_0, ckS_1, ckS_2, ckS_3, ckS_4, Option.bind_some, Option.isSome_some, psh, if_true, if_false, i10, not_true_eq_false, not_false_eq_true, Bool.false_eq_true, and_self, and_true, true_and, eq_self, nI_1, a2, a3, a4, a5, c1, c2, c3, c4, c5, n1, n2, n3, n4, n5, qO_0, qO_81, w1, w2]
set_option maxHeartbeats 4000000 in
theorem lc_10_told {L : Nat} {xs : Nat → Int32} {mu : Mu} {la : La} {ro : Ro} {et : Nat → Option va_E} {i : Nat} (hL : L ≤ 384) (hi : i + 6 ≤ L) (G : GR mu la ro) : ∃ mu2 la2 ro2, GR mu2 la2 ro2 ∧ Rr (XS L xs) 300 MLa_law 520 [.float 0, .ref 0, .ref 81, .int (nI i)] [] (Wd mu la ro et) = Rr (XS L xs) 300 MLa_law 1544 [.float 0, .ref 0, .ref 81, .int (nI i)] [] (Wd mu2 la2 ro2 et) := by
  obtain ⟨⟨c1, n1⟩, ⟨a2, c2, n2⟩, ⟨a3, c3, n3⟩, ⟨a4, c4, n4⟩, ⟨a5, c5, n5⟩⟩ := ixs hi hL
  obtain ⟨⟨g, r, j⟩, s⟩ := G
  obtain ⟨v1, mu1, la1, ro1, e1, g1, r1, j1, f1, q1⟩ := (t372 XS_ok (hand_all XS_ex) JS_B) 299 [.ref 0, .int (xs (i + 1))] mu la ro (Nat.le_of_ble_eq_true rfl) ⟨rfl, ⟨_, rfl, i_lo _, i_hi _⟩, trivial⟩ g r j
  obtain ⟨x1, rfl⟩ := res_i q1
  have w1 : Rr (XS L xs) 299 MTo_told 0 [.ref 0, .int (xs (i + 1))] [] (Wd mu la ro et) = some (some (.int x1), Wd mu1 la1 ro1 et) := e1
  obtain ⟨v2, mu2, la2, ro2, e2, g2, r2, j2, f2, q2⟩ := (t442 XS_ok (hand_all XS_ex) JS_B) 299 [.ref 81, .int (xs (i + 1))] mu1 la1 ro1 (Nat.le_of_ble_eq_true rfl) ⟨rfl, ⟨_, rfl, i_lo _, i_hi _⟩, trivial⟩ g1 r1 j1
  obtain ⟨x2, rfl⟩ := res_i q2
  have w2 : Rr (XS L xs) 299 MRm_told 0 [.ref 81, .int (xs (i + 1)), mkU, mkU] [] (Wd mu1 la1 ro1 et) = some (some (.int x2), Wd mu2 la2 ro2 et) := e2
  have s2 := RTS_f (by decide +kernel) f2 (RTS_f (by decide +kernel) f1 s)
  refine ⟨mu2, la2, ro2, ⟨⟨g2, r2, j2⟩, s2⟩, ?_⟩
  simp only [r_MLa_law_520, r_MLa_law_520n, r_MLa_law_521, r_MLa_law_521f, r_MLa_law_522, r_MLa_law_523, r_MLa_law_524, r_MLa_law_525, r_MLa_law_525f, r_MLa_law_526, r_MLa_law_529, r_MLa_law_530, r_MLa_law_530n, r_MLa_law_531, r_MLa_law_531f, r_MLa_law_532, r_MLa_law_533, r_MLa_law_534, r_MLa_law_535, r_MLa_law_535f, r_MLa_law_536, r_MLa_law_539, r_MLa_law_540, sL_0, sL_1, sL_2, mk_i, mk_r, mk_f, mk_n, mk_u, mk_l, List.set_cons_succ, List.set_cons_zero, Nat.reduceAdd, ckS_0, ckS_1, ckS_2, ckS_3, ckS_4, Option.bind_some, Option.isSome_some, psh, if_true, if_false, i10, not_true_eq_false, not_false_eq_true, Bool.false_eq_true, and_self, and_true, true_and, eq_self, nI_1, a2, a3, a4, a5, c1, c2, c3, c4, c5, n1, n2, n3, n4, n5, qO_0, qO_81, w1, w2]
set_option maxHeartbeats 4000000 in
theorem lc_11_even {L : Nat} {xs : Nat → Int32} {mu : Mu} {la : La} {ro : Ro} {et : Nat → Option va_E} {i : Nat} (hL : L ≤ 384) (hi : i + 6 ≤ L) (G : GR mu la ro) : ∃ mu2 la2 ro2, GR mu2 la2 ro2 ∧ Rr (XS L xs) 300 MLa_law 543 [.float 0, .ref 0, .ref 81, .int (nI i)] [] (Wd mu la ro et) = Rr (XS L xs) 300 MLa_law 1544 [.float 0, .ref 0, .ref 81, .int (nI i)] [] (Wd mu2 la2 ro2 et) := by
  obtain ⟨⟨c1, n1⟩, ⟨a2, c2, n2⟩, ⟨a3, c3, n3⟩, ⟨a4, c4, n4⟩, ⟨a5, c5, n5⟩⟩ := ixs hi hL
  obtain ⟨⟨g, r, j⟩, s⟩ := G
  obtain ⟨v1, mu1, la1, ro1, e1, g1, r1, j1, f1, q1⟩ := (t373 XS_ok (hand_all XS_ex) JS_B) 299 [.ref 0, .int (xs (i + 1)), .int (xs (i + 2)), .int (xs (i + 3)), .int (xs (i + 4))] mu la ro (Nat.le_of_ble_eq_true rfl) ⟨rfl, ⟨_, rfl, i_lo _, i_hi _⟩, ⟨_, rfl, i_lo _, i_hi _⟩, ⟨_, rfl, i_lo _, i_hi _⟩, ⟨_, rfl, i_lo _, i_hi _⟩, trivial⟩ g r j
  obtain ⟨x1, rfl⟩ := res_i q1
  have w1 : Rr (XS L xs) 299 MTo_even 0 [.ref 0, .int (xs (i + 1)), .int (xs (i + 2)), .int (xs (i + 3)), .int (xs (i + 4)), mkU] [] (Wd mu la ro et) = some (some (.int x1), Wd mu1 la1 ro1 et) := e1
  obtain ⟨v2, mu2, la2, ro2, e2, g2, r2, j2, f2, q2⟩ := (t443 XS_ok (hand_all XS_ex) JS_B) 299 [.ref 81, .int (xs (i + 1)), .int (xs (i + 2)), .int (xs (i + 3)), .int (xs (i + 4))] mu1 la1 ro1 (Nat.le_of_ble_eq_true rfl) ⟨rfl, ⟨_, rfl, i_lo _, i_hi _⟩, ⟨_, rfl, i_lo _, i_hi _⟩, ⟨_, rfl, i_lo _, i_hi _⟩, ⟨_, rfl, i_lo _, i_hi _⟩, trivial⟩ g1 r1 j1
  obtain ⟨x2, rfl⟩ := res_i q2
  have w2 : Rr (XS L xs) 299 MRm_even 0 [.ref 81, .int (xs (i + 1)), .int (xs (i + 2)), .int (xs (i + 3)), .int (xs (i + 4))] [] (Wd mu1 la1 ro1 et) = some (some (.int x2), Wd mu2 la2 ro2 et) := e2
  have s2 := RTS_f (by decide +kernel) f2 (RTS_f (by decide +kernel) f1 s)
  refine ⟨mu2, la2, ro2, ⟨⟨g2, r2, j2⟩, s2⟩, ?_⟩
  simp only [r_MLa_law_543, r_MLa_law_543n, r_MLa_law_544, r_MLa_law_544f, r_MLa_law_545, r_MLa_law_546, r_MLa_law_547, r_MLa_law_548, r_MLa_law_548f, r_MLa_law_549, r_MLa_law_549f, r_MLa_law_550, r_MLa_law_551, r_MLa_law_552, r_MLa_law_553, r_MLa_law_553f, r_MLa_law_554, r_MLa_law_554f, r_MLa_law_555, r_MLa_law_556, r_MLa_law_557, r_MLa_law_558, r_MLa_law_558f, r_MLa_law_559, r_MLa_law_559f, r_MLa_law_560, r_MLa_law_561, r_MLa_law_562, r_MLa_law_563, r_MLa_law_563f, r_MLa_law_564, r_MLa_law_567, r_MLa_law_568, r_MLa_law_568n, r_MLa_law_569, r_MLa_law_569f, r_MLa_law_570, r_MLa_law_571, r_MLa_law_572, r_MLa_law_573, r_MLa_law_573f, r_MLa_law_574, r_MLa_law_574f, r_MLa_law_575, r_MLa_law_576, r_MLa_law_577, r_MLa_law_578, r_MLa_law_578f, r_MLa_law_579, r_MLa_law_579f, r_MLa_law_580, r_MLa_law_581, r_MLa_law_582, r_MLa_law_583, r_MLa_law_583f, r_MLa_law_584, r_MLa_law_584f, r_MLa_law_585, r_MLa_law_586, r_MLa_law_587, r_MLa_law_588, r_MLa_law_588f, r_MLa_law_589, r_MLa_law_592, r_MLa_law_593, sL_0, sL_1, sL_2, mk_i, mk_r, mk_f, mk_n, mk_u, mk_l, List.set_cons_succ, List.set_cons_zero, Nat.reduceAdd, ckS_0, ckS_1, ckS_2, ckS_3, ckS_4, Option.bind_some, Option.isSome_some, psh, if_true, if_false, i10, not_true_eq_false, not_false_eq_true, Bool.false_eq_true, and_self, and_true, true_and, eq_self, nI_1, a2, a3, a4, a5, c1, c2, c3, c4, c5, n1, n2, n3, n4, n5, qO_0, qO_81, w1, w2]
set_option maxHeartbeats 4000000 in
theorem lc_12_soonest {L : Nat} {xs : Nat → Int32} {mu : Mu} {la : La} {ro : Ro} {et : Nat → Option va_E} {i : Nat} (hL : L ≤ 384) (hi : i + 6 ≤ L) (G : GR mu la ro) : ∃ mu2 la2 ro2, GR mu2 la2 ro2 ∧ Rr (XS L xs) 300 MLa_law 596 [.float 0, .ref 0, .ref 81, .int (nI i)] [] (Wd mu la ro et) = Rr (XS L xs) 300 MLa_law 1544 [.float 0, .ref 0, .ref 81, .int (nI i)] [] (Wd mu2 la2 ro2 et) := by
  obtain ⟨⟨c1, n1⟩, ⟨a2, c2, n2⟩, ⟨a3, c3, n3⟩, ⟨a4, c4, n4⟩, ⟨a5, c5, n5⟩⟩ := ixs hi hL
  obtain ⟨⟨g, r, j⟩, s⟩ := G
  obtain ⟨v1, mu1, la1, ro1, e1, g1, r1, j1, f1, q1⟩ := (t374 XS_ok (hand_all XS_ex) JS_B) 299 [.ref 0, .int (xs (i + 1)), .int (xs (i + 2)), .int (xs (i + 3)), .int (xs (i + 4))] mu la ro (Nat.le_of_ble_eq_true rfl) ⟨rfl, ⟨_, rfl, i_lo _, i_hi _⟩, ⟨_, rfl, i_lo _, i_hi _⟩, ⟨_, rfl, i_lo _, i_hi _⟩, ⟨_, rfl, i_lo _, i_hi _⟩, trivial⟩ g r j
  obtain ⟨x1, rfl⟩ := res_i q1
  have w1 : Rr (XS L xs) 299 MTo_soonest 0 [.ref 0, .int (xs (i + 1)), .int (xs (i + 2)), .int (xs (i + 3)), .int (xs (i + 4)), mkU, mkU, mkU, mkU] [] (Wd mu la ro et) = some (some (.int x1), Wd mu1 la1 ro1 et) := e1
  obtain ⟨v2, mu2, la2, ro2, e2, g2, r2, j2, f2, q2⟩ := (t444 XS_ok (hand_all XS_ex) JS_B) 299 [.ref 81, .int (xs (i + 1)), .int (xs (i + 2)), .int (xs (i + 3)), .int (xs (i + 4))] mu1 la1 ro1 (Nat.le_of_ble_eq_true rfl) ⟨rfl, ⟨_, rfl, i_lo _, i_hi _⟩, ⟨_, rfl, i_lo _, i_hi _⟩, ⟨_, rfl, i_lo _, i_hi _⟩, ⟨_, rfl, i_lo _, i_hi _⟩, trivial⟩ g1 r1 j1
  obtain ⟨x2, rfl⟩ := res_i q2
  have w2 : Rr (XS L xs) 299 MRm_soonest 0 [.ref 81, .int (xs (i + 1)), .int (xs (i + 2)), .int (xs (i + 3)), .int (xs (i + 4)), mkU, mkU, mkU] [] (Wd mu1 la1 ro1 et) = some (some (.int x2), Wd mu2 la2 ro2 et) := e2
  have s2 := RTS_f (by decide +kernel) f2 (RTS_f (by decide +kernel) f1 s)
  refine ⟨mu2, la2, ro2, ⟨⟨g2, r2, j2⟩, s2⟩, ?_⟩
  simp only [r_MLa_law_596, r_MLa_law_596n, r_MLa_law_597, r_MLa_law_597f, r_MLa_law_598, r_MLa_law_599, r_MLa_law_600, r_MLa_law_601, r_MLa_law_601f, r_MLa_law_602, r_MLa_law_602f, r_MLa_law_603, r_MLa_law_604, r_MLa_law_605, r_MLa_law_606, r_MLa_law_606f, r_MLa_law_607, r_MLa_law_607f, r_MLa_law_608, r_MLa_law_609, r_MLa_law_610, r_MLa_law_611, r_MLa_law_611f, r_MLa_law_612, r_MLa_law_612f, r_MLa_law_613, r_MLa_law_614, r_MLa_law_615, r_MLa_law_616, r_MLa_law_616f, r_MLa_law_617, r_MLa_law_620, r_MLa_law_621, r_MLa_law_621n, r_MLa_law_622, r_MLa_law_622f, r_MLa_law_623, r_MLa_law_624, r_MLa_law_625, r_MLa_law_626, r_MLa_law_626f, r_MLa_law_627, r_MLa_law_627f, r_MLa_law_628, r_MLa_law_629, r_MLa_law_630, r_MLa_law_631, r_MLa_law_631f, r_MLa_law_632, r_MLa_law_632f, r_MLa_law_633, r_MLa_law_634, r_MLa_law_635, r_MLa_law_636, r_MLa_law_636f, r_MLa_law_637, r_MLa_law_637f, r_MLa_law_638, r_MLa_law_639, r_MLa_law_640, r_MLa_law_641, r_MLa_law_641f, r_MLa_law_642, r_MLa_law_645, r_MLa_law_646, sL_0, sL_1, sL_2, mk_i, mk_r, mk_f, mk_n, mk_u, mk_l, List.set_cons_succ, List.set_cons_zero, Nat.reduceAdd, ckS_0, ckS_1, ckS_2, ckS_3, ckS_4, Option.bind_some, Option.isSome_some, psh, if_true, if_false, i10, not_true_eq_false, not_false_eq_true, Bool.false_eq_true, and_self, and_true, true_and, eq_self, nI_1, a2, a3, a4, a5, c1, c2, c3, c4, c5, n1, n2, n3, n4, n5, qO_0, qO_81, w1, w2]
set_option maxHeartbeats 4000000 in
theorem lc_13_screws {L : Nat} {xs : Nat → Int32} {mu : Mu} {la : La} {ro : Ro} {et : Nat → Option va_E} {i : Nat} (hL : L ≤ 384) (hi : i + 6 ≤ L) (G : GR mu la ro) : ∃ mu2 la2 ro2, GR mu2 la2 ro2 ∧ Rr (XS L xs) 300 MLa_law 649 [.float 0, .ref 0, .ref 81, .int (nI i)] [] (Wd mu la ro et) = Rr (XS L xs) 300 MLa_law 1544 [.float 0, .ref 0, .ref 81, .int (nI i)] [] (Wd mu2 la2 ro2 et) := by
  obtain ⟨⟨c1, n1⟩, ⟨a2, c2, n2⟩, ⟨a3, c3, n3⟩, ⟨a4, c4, n4⟩, ⟨a5, c5, n5⟩⟩ := ixs hi hL
  obtain ⟨⟨g, r, j⟩, s⟩ := G
  obtain ⟨x0, mu2, w1, w2, g2, j2, s2, ff⟩ := screwsS (X := XS L xs) (d := 295) (la := la) (et := et) (s := xs (i + 1)) (w := xs (i + 2)) (v := xs (i + 3)) g r j s
  have r2 := r
  refine ⟨mu2, la, ro, ⟨⟨g2, r2, j2⟩, s2⟩, ?_⟩
  simp only [r_MLa_law_649, r_MLa_law_649n, r_MLa_law_650, r_MLa_law_650f, r_MLa_law_651, r_MLa_law_652, r_MLa_law_653, r_MLa_law_654, r_MLa_law_654f, r_MLa_law_655, r_MLa_law_655f, r_MLa_law_656, r_MLa_law_657, r_MLa_law_658, r_MLa_law_659, r_MLa_law_659f, r_MLa_law_660, r_MLa_law_660f, r_MLa_law_661, r_MLa_law_662, r_MLa_law_663, r_MLa_law_664, r_MLa_law_664f, r_MLa_law_665, r_MLa_law_668, r_MLa_law_669, r_MLa_law_669n, r_MLa_law_670, r_MLa_law_670f, r_MLa_law_671, r_MLa_law_672, r_MLa_law_673, r_MLa_law_674, r_MLa_law_674f, r_MLa_law_675, r_MLa_law_675f, r_MLa_law_676, r_MLa_law_677, r_MLa_law_678, r_MLa_law_679, r_MLa_law_679f, r_MLa_law_680, r_MLa_law_680f, r_MLa_law_681, r_MLa_law_682, r_MLa_law_683, r_MLa_law_684, r_MLa_law_684f, r_MLa_law_685, r_MLa_law_688, r_MLa_law_689, sL_0, sL_1, sL_2, mk_i, mk_r, mk_f, mk_n, mk_u, mk_l, List.set_cons_succ, List.set_cons_zero, Nat.reduceAdd, ckS_0, ckS_1, ckS_2, ckS_3, ckS_4, Option.bind_some, Option.isSome_some, psh, if_true, if_false, i10, not_true_eq_false, not_false_eq_true, Bool.false_eq_true, and_self, and_true, true_and, eq_self, nI_1, a2, a3, a4, a5, c1, c2, c3, c4, c5, n1, n2, n3, n4, n5, qO_0, qO_81, w1, w2]
set_option maxHeartbeats 4000000 in
theorem lc_14_lightest {L : Nat} {xs : Nat → Int32} {mu : Mu} {la : La} {ro : Ro} {et : Nat → Option va_E} {i : Nat} (hL : L ≤ 384) (hi : i + 6 ≤ L) (G : GR mu la ro) : ∃ mu2 la2 ro2, GR mu2 la2 ro2 ∧ Rr (XS L xs) 300 MLa_law 692 [.float 0, .ref 0, .ref 81, .int (nI i)] [] (Wd mu la ro et) = Rr (XS L xs) 300 MLa_law 1544 [.float 0, .ref 0, .ref 81, .int (nI i)] [] (Wd mu2 la2 ro2 et) := by
  obtain ⟨⟨c1, n1⟩, ⟨a2, c2, n2⟩, ⟨a3, c3, n3⟩, ⟨a4, c4, n4⟩, ⟨a5, c5, n5⟩⟩ := ixs hi hL
  obtain ⟨⟨g, r, j⟩, s⟩ := G
  obtain ⟨x0, mu2, w1, w2, g2, j2, s2, ff⟩ := lightestS (X := XS L xs) (d := 295) (la := la) (et := et) (s := xs (i + 1)) (v := xs (i + 2)) g r j s
  have r2 := r
  refine ⟨mu2, la, ro, ⟨⟨g2, r2, j2⟩, s2⟩, ?_⟩
  simp only [r_MLa_law_692, r_MLa_law_692n, r_MLa_law_693, r_MLa_law_693f, r_MLa_law_694, r_MLa_law_695, r_MLa_law_696, r_MLa_law_697, r_MLa_law_697f, r_MLa_law_698, r_MLa_law_698f, r_MLa_law_699, r_MLa_law_700, r_MLa_law_701, r_MLa_law_702, r_MLa_law_702f, r_MLa_law_703, r_MLa_law_706, r_MLa_law_707, r_MLa_law_707n, r_MLa_law_708, r_MLa_law_708f, r_MLa_law_709, r_MLa_law_710, r_MLa_law_711, r_MLa_law_712, r_MLa_law_712f, r_MLa_law_713, r_MLa_law_713f, r_MLa_law_714, r_MLa_law_715, r_MLa_law_716, r_MLa_law_717, r_MLa_law_717f, r_MLa_law_718, r_MLa_law_721, r_MLa_law_722, sL_0, sL_1, sL_2, mk_i, mk_r, mk_f, mk_n, mk_u, mk_l, List.set_cons_succ, List.set_cons_zero, Nat.reduceAdd, ckS_0, ckS_1, ckS_2, ckS_3, ckS_4, Option.bind_some, Option.isSome_some, psh, if_true, if_false, i10, not_true_eq_false, not_false_eq_true, Bool.false_eq_true, and_self, and_true, true_and, eq_self, nI_1, a2, a3, a4, a5, c1, c2, c3, c4, c5, n1, n2, n3, n4, n5, qO_0, qO_81, w1, w2]
set_option maxHeartbeats 4000000 in
theorem lc_15_seen {L : Nat} {xs : Nat → Int32} {mu : Mu} {la : La} {ro : Ro} {et : Nat → Option va_E} {i : Nat} (hL : L ≤ 384) (hi : i + 6 ≤ L) (G : GR mu la ro) : ∃ mu2 la2 ro2, GR mu2 la2 ro2 ∧ Rr (XS L xs) 300 MLa_law 725 [.float 0, .ref 0, .ref 81, .int (nI i)] [] (Wd mu la ro et) = Rr (XS L xs) 300 MLa_law 1544 [.float 0, .ref 0, .ref 81, .int (nI i)] [] (Wd mu2 la2 ro2 et) := by
  obtain ⟨⟨c1, n1⟩, ⟨a2, c2, n2⟩, ⟨a3, c3, n3⟩, ⟨a4, c4, n4⟩, ⟨a5, c5, n5⟩⟩ := ixs hi hL
  obtain ⟨⟨g, r, j⟩, s⟩ := G
  obtain ⟨v1, mu1, la1, ro1, e1, g1, r1, j1, f1, q1⟩ := (t377 XS_ok (hand_all XS_ex) JS_B) 299 [.ref 0, .int (xs (i + 1)), .int (xs (i + 2)), .int (xs (i + 3))] mu la ro (Nat.le_of_ble_eq_true rfl) ⟨rfl, ⟨_, rfl, i_lo _, i_hi _⟩, ⟨_, rfl, i_lo _, i_hi _⟩, ⟨_, rfl, i_lo _, i_hi _⟩, trivial⟩ g r j
  obtain ⟨x1, rfl⟩ := res_i q1
  have w1 : Rr (XS L xs) 299 MTo_seen 0 [.ref 0, .int (xs (i + 1)), .int (xs (i + 2)), .int (xs (i + 3)), mkU] [] (Wd mu la ro et) = some (some (.int x1), Wd mu1 la1 ro1 et) := e1
  obtain ⟨v2, mu2, la2, ro2, e2, g2, r2, j2, f2, q2⟩ := (t448 XS_ok (hand_all XS_ex) JS_B) 299 [.ref 81, .int (xs (i + 1)), .int (xs (i + 2)), .int (xs (i + 3))] mu1 la1 ro1 (Nat.le_of_ble_eq_true rfl) ⟨rfl, ⟨_, rfl, i_lo _, i_hi _⟩, ⟨_, rfl, i_lo _, i_hi _⟩, ⟨_, rfl, i_lo _, i_hi _⟩, trivial⟩ g1 r1 j1
  obtain ⟨x2, rfl⟩ := res_i q2
  have w2 : Rr (XS L xs) 299 MRm_seen 0 [.ref 81, .int (xs (i + 1)), .int (xs (i + 2)), .int (xs (i + 3)), mkU] [] (Wd mu1 la1 ro1 et) = some (some (.int x2), Wd mu2 la2 ro2 et) := e2
  have s2 := RTS_f (by decide +kernel) f2 (RTS_f (by decide +kernel) f1 s)
  refine ⟨mu2, la2, ro2, ⟨⟨g2, r2, j2⟩, s2⟩, ?_⟩
  simp only [r_MLa_law_725, r_MLa_law_725n, r_MLa_law_726, r_MLa_law_726f, r_MLa_law_727, r_MLa_law_728, r_MLa_law_729, r_MLa_law_730, r_MLa_law_730f, r_MLa_law_731, r_MLa_law_731f, r_MLa_law_732, r_MLa_law_733, r_MLa_law_734, r_MLa_law_735, r_MLa_law_735f, r_MLa_law_736, r_MLa_law_736f, r_MLa_law_737, r_MLa_law_738, r_MLa_law_739, r_MLa_law_740, r_MLa_law_740f, r_MLa_law_741, r_MLa_law_744, r_MLa_law_745, r_MLa_law_745n, r_MLa_law_746, r_MLa_law_746f, r_MLa_law_747, r_MLa_law_748, r_MLa_law_749, r_MLa_law_750, r_MLa_law_750f, r_MLa_law_751, r_MLa_law_751f, r_MLa_law_752, r_MLa_law_753, r_MLa_law_754, r_MLa_law_755, r_MLa_law_755f, r_MLa_law_756, r_MLa_law_756f, r_MLa_law_757, r_MLa_law_758, r_MLa_law_759, r_MLa_law_760, r_MLa_law_760f, r_MLa_law_761, r_MLa_law_764, r_MLa_law_765, sL_0, sL_1, sL_2, mk_i, mk_r, mk_f, mk_n, mk_u, mk_l, List.set_cons_succ, List.set_cons_zero, Nat.reduceAdd, ckS_0, ckS_1, ckS_2, ckS_3, ckS_4, Option.bind_some, Option.isSome_some, psh, if_true, if_false, i10, not_true_eq_false, not_false_eq_true, Bool.false_eq_true, and_self, and_true, true_and, eq_self, nI_1, a2, a3, a4, a5, c1, c2, c3, c4, c5, n1, n2, n3, n4, n5, qO_0, qO_81, w1, w2]
set_option maxHeartbeats 4000000 in
theorem lc_16_pressed {L : Nat} {xs : Nat → Int32} {mu : Mu} {la : La} {ro : Ro} {et : Nat → Option va_E} {i : Nat} (hL : L ≤ 384) (hi : i + 6 ≤ L) (G : GR mu la ro) : ∃ mu2 la2 ro2, GR mu2 la2 ro2 ∧ Rr (XS L xs) 300 MLa_law 768 [.float 0, .ref 0, .ref 81, .int (nI i)] [] (Wd mu la ro et) = Rr (XS L xs) 300 MLa_law 1544 [.float 0, .ref 0, .ref 81, .int (nI i)] [] (Wd mu2 la2 ro2 et) := by
  obtain ⟨⟨c1, n1⟩, ⟨a2, c2, n2⟩, ⟨a3, c3, n3⟩, ⟨a4, c4, n4⟩, ⟨a5, c5, n5⟩⟩ := ixs hi hL
  obtain ⟨⟨g, r, j⟩, s⟩ := G
  obtain ⟨v1, mu1, la1, ro1, e1, g1, r1, j1, f1, q1⟩ := (t378 XS_ok (hand_all XS_ex) JS_B) 299 [.ref 0, .int (xs (i + 1)), .int (xs (i + 2))] mu la ro (Nat.le_of_ble_eq_true rfl) ⟨rfl, ⟨_, rfl, i_lo _, i_hi _⟩, ⟨_, rfl, i_lo _, i_hi _⟩, trivial⟩ g r j
  obtain ⟨x1, rfl⟩ := res_i q1
  have w1 : Rr (XS L xs) 299 MTo_pressed 0 [.ref 0, .int (xs (i + 1)), .int (xs (i + 2))] [] (Wd mu la ro et) = some (some (.int x1), Wd mu1 la1 ro1 et) := e1
  obtain ⟨v2, mu2, la2, ro2, e2, g2, r2, j2, f2, q2⟩ := (t449 XS_ok (hand_all XS_ex) JS_B) 299 [.ref 81, .int (xs (i + 1)), .int (xs (i + 2))] mu1 la1 ro1 (Nat.le_of_ble_eq_true rfl) ⟨rfl, ⟨_, rfl, i_lo _, i_hi _⟩, ⟨_, rfl, i_lo _, i_hi _⟩, trivial⟩ g1 r1 j1
  obtain ⟨x2, rfl⟩ := res_i q2
  have w2 : Rr (XS L xs) 299 MRm_pressed 0 [.ref 81, .int (xs (i + 1)), .int (xs (i + 2)), mkU, mkU, mkU] [] (Wd mu1 la1 ro1 et) = some (some (.int x2), Wd mu2 la2 ro2 et) := e2
  have s2 := RTS_f (by decide +kernel) f2 (RTS_f (by decide +kernel) f1 s)
  refine ⟨mu2, la2, ro2, ⟨⟨g2, r2, j2⟩, s2⟩, ?_⟩
  simp only [r_MLa_law_768, r_MLa_law_768n, r_MLa_law_769, r_MLa_law_769f, r_MLa_law_770, r_MLa_law_771, r_MLa_law_772, r_MLa_law_773, r_MLa_law_773f, r_MLa_law_774, r_MLa_law_774f, r_MLa_law_775, r_MLa_law_776, r_MLa_law_777, r_MLa_law_778, r_MLa_law_778f, r_MLa_law_779, r_MLa_law_782, r_MLa_law_783, r_MLa_law_783n, r_MLa_law_784, r_MLa_law_784f, r_MLa_law_785, r_MLa_law_786, r_MLa_law_787, r_MLa_law_788, r_MLa_law_788f, r_MLa_law_789, r_MLa_law_789f, r_MLa_law_790, r_MLa_law_791, r_MLa_law_792, r_MLa_law_793, r_MLa_law_793f, r_MLa_law_794, r_MLa_law_797, r_MLa_law_798, sL_0, sL_1, sL_2, mk_i, mk_r, mk_f, mk_n, mk_u, mk_l, List.set_cons_succ, List.set_cons_zero, Nat.reduceAdd, ckS_0, ckS_1, ckS_2, ckS_3, ckS_4, Option.bind_some, Option.isSome_some, psh, if_true, if_false, i10, not_true_eq_false, not_false_eq_true, Bool.false_eq_true, and_self, and_true, true_and, eq_self, nI_1, a2, a3, a4, a5, c1, c2, c3, c4, c5, n1, n2, n3, n4, n5, qO_0, qO_81, w1, w2]
set_option maxHeartbeats 4000000 in
theorem lc_17_hands {L : Nat} {xs : Nat → Int32} {mu : Mu} {la : La} {ro : Ro} {et : Nat → Option va_E} {i : Nat} (hL : L ≤ 384) (hi : i + 6 ≤ L) (G : GR mu la ro) : ∃ mu2 la2 ro2, GR mu2 la2 ro2 ∧ Rr (XS L xs) 300 MLa_law 801 [.float 0, .ref 0, .ref 81, .int (nI i)] [] (Wd mu la ro et) = Rr (XS L xs) 300 MLa_law 1544 [.float 0, .ref 0, .ref 81, .int (nI i)] [] (Wd mu2 la2 ro2 et) := by
  obtain ⟨⟨c1, n1⟩, ⟨a2, c2, n2⟩, ⟨a3, c3, n3⟩, ⟨a4, c4, n4⟩, ⟨a5, c5, n5⟩⟩ := ixs hi hL
  obtain ⟨⟨g, r, j⟩, s⟩ := G
  obtain ⟨v1, mu1, la1, ro1, e1, g1, r1, j1, f1, q1⟩ := (t379 XS_ok (hand_all XS_ex) JS_B) 299 [.ref 0, .int (xs (i + 1)), .int (xs (i + 2)), .int (xs (i + 3))] mu la ro (Nat.le_of_ble_eq_true rfl) ⟨rfl, ⟨_, rfl, i_lo _, i_hi _⟩, ⟨_, rfl, i_lo _, i_hi _⟩, ⟨_, rfl, i_lo _, i_hi _⟩, trivial⟩ g r j
  obtain ⟨x1, rfl⟩ := res_i q1
  have w1 : Rr (XS L xs) 299 MTo_hands 0 [.ref 0, .int (xs (i + 1)), .int (xs (i + 2)), .int (xs (i + 3)), mkU, mkU, mkU, mkU, mkU, mkU] [] (Wd mu la ro et) = some (some (.int x1), Wd mu1 la1 ro1 et) := e1
  obtain ⟨v2, mu2, la2, ro2, e2, g2, r2, j2, f2, q2⟩ := (t452 XS_ok (hand_all XS_ex) JS_B) 299 [.ref 81, .int (xs (i + 1)), .int (xs (i + 2)), .int (xs (i + 3))] mu1 la1 ro1 (Nat.le_of_ble_eq_true rfl) ⟨rfl, ⟨_, rfl, i_lo _, i_hi _⟩, ⟨_, rfl, i_lo _, i_hi _⟩, ⟨_, rfl, i_lo _, i_hi _⟩, trivial⟩ g1 r1 j1
  obtain ⟨x2, rfl⟩ := res_i q2
  have w2 : Rr (XS L xs) 299 MRm_hands 0 [.ref 81, .int (xs (i + 1)), .int (xs (i + 2)), .int (xs (i + 3)), mkU, mkU, mkU, mkU, mkU] [] (Wd mu1 la1 ro1 et) = some (some (.int x2), Wd mu2 la2 ro2 et) := e2
  have s2 := RTS_f (by decide +kernel) f2 (RTS_f (by decide +kernel) f1 s)
  refine ⟨mu2, la2, ro2, ⟨⟨g2, r2, j2⟩, s2⟩, ?_⟩
  simp only [r_MLa_law_801, r_MLa_law_801n, r_MLa_law_802, r_MLa_law_802f, r_MLa_law_803, r_MLa_law_804, r_MLa_law_805, r_MLa_law_806, r_MLa_law_806f, r_MLa_law_807, r_MLa_law_807f, r_MLa_law_808, r_MLa_law_809, r_MLa_law_810, r_MLa_law_811, r_MLa_law_811f, r_MLa_law_812, r_MLa_law_812f, r_MLa_law_813, r_MLa_law_814, r_MLa_law_815, r_MLa_law_816, r_MLa_law_816f, r_MLa_law_817, r_MLa_law_820, r_MLa_law_821, r_MLa_law_821n, r_MLa_law_822, r_MLa_law_822f, r_MLa_law_823, r_MLa_law_824, r_MLa_law_825, r_MLa_law_826, r_MLa_law_826f, r_MLa_law_827, r_MLa_law_827f, r_MLa_law_828, r_MLa_law_829, r_MLa_law_830, r_MLa_law_831, r_MLa_law_831f, r_MLa_law_832, r_MLa_law_832f, r_MLa_law_833, r_MLa_law_834, r_MLa_law_835, r_MLa_law_836, r_MLa_law_836f, r_MLa_law_837, r_MLa_law_840, r_MLa_law_841, sL_0, sL_1, sL_2, mk_i, mk_r, mk_f, mk_n, mk_u, mk_l, List.set_cons_succ, List.set_cons_zero, Nat.reduceAdd, ckS_0, ckS_1, ckS_2, ckS_3, ckS_4, Option.bind_some, Option.isSome_some, psh, if_true, if_false, i10, not_true_eq_false, not_false_eq_true, Bool.false_eq_true, and_self, and_true, true_and, eq_self, nI_1, a2, a3, a4, a5, c1, c2, c3, c4, c5, n1, n2, n3, n4, n5, qO_0, qO_81, w1, w2]
set_option maxHeartbeats 4000000 in
theorem lc_18_frame {L : Nat} {xs : Nat → Int32} {mu : Mu} {la : La} {ro : Ro} {et : Nat → Option va_E} {i : Nat} (hL : L ≤ 384) (hi : i + 6 ≤ L) (G : GR mu la ro) : ∃ mu2 la2 ro2, GR mu2 la2 ro2 ∧ Rr (XS L xs) 300 MLa_law 844 [.float 0, .ref 0, .ref 81, .int (nI i)] [] (Wd mu la ro et) = Rr (XS L xs) 300 MLa_law 1544 [.float 0, .ref 0, .ref 81, .int (nI i)] [] (Wd mu2 la2 ro2 et) := by
  obtain ⟨⟨c1, n1⟩, ⟨a2, c2, n2⟩, ⟨a3, c3, n3⟩, ⟨a4, c4, n4⟩, ⟨a5, c5, n5⟩⟩ := ixs hi hL
  obtain ⟨⟨g, r, j⟩, s⟩ := G
  obtain ⟨v1, mu1, la1, ro1, e1, g1, r1, j1, f1, q1⟩ := (t380 XS_ok (hand_all XS_ex) JS_B) 299 [.ref 0, .int (xs (i + 1)), .int (xs (i + 2))] mu la ro (Nat.le_of_ble_eq_true rfl) ⟨rfl, ⟨_, rfl, i_lo _, i_hi _⟩, ⟨_, rfl, i_lo _, i_hi _⟩, trivial⟩ g r j
  obtain ⟨x1, rfl⟩ := res_i q1
  have w1 : Rr (XS L xs) 299 MTo_frame 0 [.ref 0, .int (xs (i + 1)), .int (xs (i + 2))] [] (Wd mu la ro et) = some (some (.int x1), Wd mu1 la1 ro1 et) := e1
  obtain ⟨v2, mu2, la2, ro2, e2, g2, r2, j2, f2, q2⟩ := (hand_all XS_ex h11 (by simp [handL])) 299 [.ref 81, .int (xs (i + 1)), .int (xs (i + 2))] mu1 la1 ro1 (Nat.le_of_ble_eq_true rfl) ⟨rfl, ⟨_, rfl, i_lo _, i_hi _⟩, ⟨_, rfl, i_lo _, i_hi _⟩, trivial⟩ g1 r1 j1
  obtain ⟨x2, rfl⟩ := res_i q2
  have w2 : Rr (XS L xs) 299 MRm_frame 0 [.ref 81, .int (xs (i + 1)), .int (xs (i + 2))] [] (Wd mu1 la1 ro1 et) = some (some (.int x2), Wd mu2 la2 ro2 et) := e2
  have s2 := RTS_f (by decide +kernel) f2 (RTS_f (by decide +kernel) f1 s)
  refine ⟨mu2, la2, ro2, ⟨⟨g2, r2, j2⟩, s2⟩, ?_⟩
  simp only [r_MLa_law_844, r_MLa_law_844n, r_MLa_law_845, r_MLa_law_845f, r_MLa_law_846, r_MLa_law_847, r_MLa_law_848, r_MLa_law_849, r_MLa_law_849f, r_MLa_law_850, r_MLa_law_850f, r_MLa_law_851, r_MLa_law_852, r_MLa_law_853, r_MLa_law_854, r_MLa_law_854f, r_MLa_law_855, r_MLa_law_858, r_MLa_law_859, r_MLa_law_859n, r_MLa_law_860, r_MLa_law_860f, r_MLa_law_861, r_MLa_law_862, r_MLa_law_863, r_MLa_law_864, r_MLa_law_864f, r_MLa_law_865, r_MLa_law_865f, r_MLa_law_866, r_MLa_law_867, r_MLa_law_868, r_MLa_law_869, r_MLa_law_869f, r_MLa_law_870, r_MLa_law_873, r_MLa_law_874, sL_0, sL_1, sL_2, mk_i, mk_r, mk_f, mk_n, mk_u, mk_l, List.set_cons_succ, List.set_cons_zero, Nat.reduceAdd, ckS_0, ckS_1, ckS_2, ckS_3, ckS_4, Option.bind_some, Option.isSome_some, psh, if_true, if_false, i10, not_true_eq_false, not_false_eq_true, Bool.false_eq_true, and_self, and_true, true_and, eq_self, nI_1, a2, a3, a4, a5, c1, c2, c3, c4, c5, n1, n2, n3, n4, n5, qO_0, qO_81, w1, w2]
set_option maxHeartbeats 4000000 in
theorem lc_19_frames {L : Nat} {xs : Nat → Int32} {mu : Mu} {la : La} {ro : Ro} {et : Nat → Option va_E} {i : Nat} (hL : L ≤ 384) (hi : i + 6 ≤ L) (G : GR mu la ro) : ∃ mu2 la2 ro2, GR mu2 la2 ro2 ∧ Rr (XS L xs) 300 MLa_law 877 [.float 0, .ref 0, .ref 81, .int (nI i)] [] (Wd mu la ro et) = Rr (XS L xs) 300 MLa_law 1544 [.float 0, .ref 0, .ref 81, .int (nI i)] [] (Wd mu2 la2 ro2 et) := by
  obtain ⟨⟨c1, n1⟩, ⟨a2, c2, n2⟩, ⟨a3, c3, n3⟩, ⟨a4, c4, n4⟩, ⟨a5, c5, n5⟩⟩ := ixs hi hL
  obtain ⟨⟨g, r, j⟩, s⟩ := G
  obtain ⟨v1, mu1, la1, ro1, e1, g1, r1, j1, f1, q1⟩ := (t381 XS_ok (hand_all XS_ex) JS_B) 299 [.ref 0, .int (xs (i + 1)), .int (xs (i + 2)), .int (xs (i + 3))] mu la ro (Nat.le_of_ble_eq_true rfl) ⟨rfl, ⟨_, rfl, i_lo _, i_hi _⟩, ⟨_, rfl, i_lo _, i_hi _⟩, ⟨_, rfl, i_lo _, i_hi _⟩, trivial⟩ g r j
  obtain ⟨x1, rfl⟩ := res_i q1
  have w1 : Rr (XS L xs) 299 MTo_frames 0 [.ref 0, .int (xs (i + 1)), .int (xs (i + 2)), .int (xs (i + 3)), mkU] [] (Wd mu la ro et) = some (some (.int x1), Wd mu1 la1 ro1 et) := e1
  obtain ⟨v2, mu2, la2, ro2, e2, g2, r2, j2, f2, q2⟩ := (hand_all XS_ex h12 (by simp [handL])) 299 [.ref 81, .int (xs (i + 1)), .int (xs (i + 2)), .int (xs (i + 3))] mu1 la1 ro1 (Nat.le_of_ble_eq_true rfl) ⟨rfl, ⟨_, rfl, i_lo _, i_hi _⟩, ⟨_, rfl, i_lo _, i_hi _⟩, ⟨_, rfl, i_lo _, i_hi _⟩, trivial⟩ g1 r1 j1
  obtain ⟨x2, rfl⟩ := res_i q2
  have w2 : Rr (XS L xs) 299 MRm_frames 0 [.ref 81, .int (xs (i + 1)), .int (xs (i + 2)), .int (xs (i + 3)), mkU, mkU, mkU, mkU] [] (Wd mu1 la1 ro1 et) = some (some (.int x2), Wd mu2 la2 ro2 et) := e2
  have s2 := RTS_f (by decide +kernel) f2 (RTS_f (by decide +kernel) f1 s)
  refine ⟨mu2, la2, ro2, ⟨⟨g2, r2, j2⟩, s2⟩, ?_⟩
  simp only [r_MLa_law_877, r_MLa_law_877n, r_MLa_law_878, r_MLa_law_878f, r_MLa_law_879, r_MLa_law_880, r_MLa_law_881, r_MLa_law_882, r_MLa_law_882f, r_MLa_law_883, r_MLa_law_883f, r_MLa_law_884, r_MLa_law_885, r_MLa_law_886, r_MLa_law_887, r_MLa_law_887f, r_MLa_law_888, r_MLa_law_888f, r_MLa_law_889, r_MLa_law_890, r_MLa_law_891, r_MLa_law_892, r_MLa_law_892f, r_MLa_law_893, r_MLa_law_896, r_MLa_law_897, r_MLa_law_897n, r_MLa_law_898, r_MLa_law_898f, r_MLa_law_899, r_MLa_law_900, r_MLa_law_901, r_MLa_law_902, r_MLa_law_902f, r_MLa_law_903, r_MLa_law_903f, r_MLa_law_904, r_MLa_law_905, r_MLa_law_906, r_MLa_law_907, r_MLa_law_907f, r_MLa_law_908, r_MLa_law_908f, r_MLa_law_909, r_MLa_law_910, r_MLa_law_911, r_MLa_law_912, r_MLa_law_912f, r_MLa_law_913, r_MLa_law_916, r_MLa_law_917, sL_0, sL_1, sL_2, mk_i, mk_r, mk_f, mk_n, mk_u, mk_l, List.set_cons_succ, List.set_cons_zero, Nat.reduceAdd, ckS_0, ckS_1, ckS_2, ckS_3, ckS_4, Option.bind_some, Option.isSome_some, psh, if_true, if_false, i10, not_true_eq_false, not_false_eq_true, Bool.false_eq_true, and_self, and_true, true_and, eq_self, nI_1, a2, a3, a4, a5, c1, c2, c3, c4, c5, n1, n2, n3, n4, n5, qO_0, qO_81, w1, w2]
set_option maxHeartbeats 4000000 in
theorem lc_20_cut {L : Nat} {xs : Nat → Int32} {mu : Mu} {la : La} {ro : Ro} {et : Nat → Option va_E} {i : Nat} (hL : L ≤ 384) (hi : i + 6 ≤ L) (G : GR mu la ro) : ∃ mu2 la2 ro2, GR mu2 la2 ro2 ∧ Rr (XS L xs) 300 MLa_law 920 [.float 0, .ref 0, .ref 81, .int (nI i)] [] (Wd mu la ro et) = Rr (XS L xs) 300 MLa_law 1544 [.float 0, .ref 0, .ref 81, .int (nI i)] [] (Wd mu2 la2 ro2 et) := by
  obtain ⟨⟨c1, n1⟩, ⟨a2, c2, n2⟩, ⟨a3, c3, n3⟩, ⟨a4, c4, n4⟩, ⟨a5, c5, n5⟩⟩ := ixs hi hL
  obtain ⟨⟨g, r, j⟩, s⟩ := G
  obtain ⟨v1, mu1, la1, ro1, e1, g1, r1, j1, f1, q1⟩ := (t382 XS_ok (hand_all XS_ex) JS_B) 299 [.ref 0] mu la ro (Nat.le_of_ble_eq_true rfl) ⟨rfl, trivial⟩ g r j
  obtain ⟨x1, rfl⟩ := res_i q1
  have w1 : Rr (XS L xs) 299 MTo_cut 0 [.ref 0, mkU] [] (Wd mu la ro et) = some (some (.int x1), Wd mu1 la1 ro1 et) := e1
  obtain ⟨v2, mu2, la2, ro2, e2, g2, r2, j2, f2, q2⟩ := (hand_all XS_ex h13 (by simp [handL])) 299 [.ref 81] mu1 la1 ro1 (Nat.le_of_ble_eq_true rfl) ⟨rfl, trivial⟩ g1 r1 j1
  obtain ⟨x2, rfl⟩ := res_i q2
  have w2 : Rr (XS L xs) 299 MRm_cut 0 [.ref 81, mkU] [] (Wd mu1 la1 ro1 et) = some (some (.int x2), Wd mu2 la2 ro2 et) := e2
  have s2 := RTS_f (by decide +kernel) f2 (RTS_f (by decide +kernel) f1 s)
  refine ⟨mu2, la2, ro2, ⟨⟨g2, r2, j2⟩, s2⟩, ?_⟩
  simp only [r_MLa_law_920, r_MLa_law_920n, r_MLa_law_921, r_MLa_law_924, r_MLa_law_925, r_MLa_law_925n, r_MLa_law_926, r_MLa_law_929, r_MLa_law_930, sL_0, sL_1, sL_2, mk_i, mk_r, mk_f, mk_n, mk_u, mk_l, List.set_cons_succ, List.set_cons_zero, Nat.reduceAdd, ckS_0, ckS_1, ckS_2, ckS_3, ckS_4, Option.bind_some, Option.isSome_some, psh, if_true, if_false, i10, not_true_eq_false, not_false_eq_true, Bool.false_eq_true, and_self, and_true, true_and, eq_self, nI_1, a2, a3, a4, a5, c1, c2, c3, c4, c5, n1, n2, n3, n4, n5, qO_0, qO_81, w1, w2]
set_option maxHeartbeats 4000000 in
theorem lc_21_off {L : Nat} {xs : Nat → Int32} {mu : Mu} {la : La} {ro : Ro} {et : Nat → Option va_E} {i : Nat} (hL : L ≤ 384) (hi : i + 6 ≤ L) (G : GR mu la ro) : ∃ mu2 la2 ro2, GR mu2 la2 ro2 ∧ Rr (XS L xs) 300 MLa_law 933 [.float 0, .ref 0, .ref 81, .int (nI i)] [] (Wd mu la ro et) = Rr (XS L xs) 300 MLa_law 1544 [.float 0, .ref 0, .ref 81, .int (nI i)] [] (Wd mu2 la2 ro2 et) := by
  obtain ⟨⟨c1, n1⟩, ⟨a2, c2, n2⟩, ⟨a3, c3, n3⟩, ⟨a4, c4, n4⟩, ⟨a5, c5, n5⟩⟩ := ixs hi hL
  obtain ⟨⟨g, r, j⟩, s⟩ := G
  obtain ⟨v1, mu1, la1, ro1, e1, g1, r1, j1, f1, q1⟩ := (t383 XS_ok (hand_all XS_ex) JS_B) 299 [.ref 0, .int (xs (i + 1)), .int (xs (i + 2)), .int (xs (i + 3))] mu la ro (Nat.le_of_ble_eq_true rfl) ⟨rfl, ⟨_, rfl, i_lo _, i_hi _⟩, ⟨_, rfl, i_lo _, i_hi _⟩, ⟨_, rfl, i_lo _, i_hi _⟩, trivial⟩ g r j
  obtain ⟨x1, rfl⟩ := res_i q1
  have w1 : Rr (XS L xs) 299 MTo_off 0 [.ref 0, .int (xs (i + 1)), .int (xs (i + 2)), .int (xs (i + 3))] [] (Wd mu la ro et) = some (some (.int x1), Wd mu1 la1 ro1 et) := e1
  obtain ⟨v2, mu2, la2, ro2, e2, g2, r2, j2, f2, q2⟩ := (t456 XS_ok (hand_all XS_ex) JS_B (hand_off XS_ex XS_ok)) 299 [.ref 81, .int (xs (i + 1)), .int (xs (i + 2)), .int (xs (i + 3))] mu1 la1 ro1 (Nat.le_of_ble_eq_true rfl) ⟨rfl, ⟨_, rfl, i_lo _, i_hi _⟩, ⟨_, rfl, i_lo _, i_hi _⟩, ⟨_, rfl, i_lo _, i_hi _⟩, trivial⟩ g1 r1 j1
  obtain ⟨x2, rfl⟩ := res_i q2
  have w2 : Rr (XS L xs) 299 MRm_off 0 [.ref 81, .int (xs (i + 1)), .int (xs (i + 2)), .int (xs (i + 3))] [] (Wd mu1 la1 ro1 et) = some (some (.int x2), Wd mu2 la2 ro2 et) := e2
  have s2 := RTS_f (by decide +kernel) f2 (RTS_f (by decide +kernel) f1 s)
  refine ⟨mu2, la2, ro2, ⟨⟨g2, r2, j2⟩, s2⟩, ?_⟩
  simp only [r_MLa_law_933, r_MLa_law_933n, r_MLa_law_934, r_MLa_law_934f, r_MLa_law_935, r_MLa_law_936, r_MLa_law_937, r_MLa_law_938, r_MLa_law_938f, r_MLa_law_939, r_MLa_law_939f, r_MLa_law_940, r_MLa_law_941, r_MLa_law_942, r_MLa_law_943, r_MLa_law_943f, r_MLa_law_944, r_MLa_law_944f, r_MLa_law_945, r_MLa_law_946, r_MLa_law_947, r_MLa_law_948, r_MLa_law_948f, r_MLa_law_949, r_MLa_law_952, r_MLa_law_953, r_MLa_law_953n, r_MLa_law_954, r_MLa_law_954f, r_MLa_law_955, r_MLa_law_956, r_MLa_law_957, r_MLa_law_958, r_MLa_law_958f, r_MLa_law_959, r_MLa_law_959f, r_MLa_law_960, r_MLa_law_961, r_MLa_law_962, r_MLa_law_963, r_MLa_law_963f, r_MLa_law_964, r_MLa_law_964f, r_MLa_law_965, r_MLa_law_966, r_MLa_law_967, r_MLa_law_968, r_MLa_law_968f, r_MLa_law_969, r_MLa_law_972, r_MLa_law_973, sL_0, sL_1, sL_2, mk_i, mk_r, mk_f, mk_n, mk_u, mk_l, List.set_cons_succ, List.set_cons_zero, Nat.reduceAdd, ckS_0, ckS_1, ckS_2, ckS_3, ckS_4, Option.bind_some, Option.isSome_some, psh, if_true, if_false, i10, not_true_eq_false, not_false_eq_true, Bool.false_eq_true, and_self, and_true, true_and, eq_self, nI_1, a2, a3, a4, a5, c1, c2, c3, c4, c5, n1, n2, n3, n4, n5, qO_0, qO_81, w1, w2]
set_option maxHeartbeats 4000000 in
theorem lc_22_shape {L : Nat} {xs : Nat → Int32} {mu : Mu} {la : La} {ro : Ro} {et : Nat → Option va_E} {i : Nat} (hL : L ≤ 384) (hi : i + 6 ≤ L) (G : GR mu la ro) : ∃ mu2 la2 ro2, GR mu2 la2 ro2 ∧ Rr (XS L xs) 300 MLa_law 976 [.float 0, .ref 0, .ref 81, .int (nI i)] [] (Wd mu la ro et) = Rr (XS L xs) 300 MLa_law 1544 [.float 0, .ref 0, .ref 81, .int (nI i)] [] (Wd mu2 la2 ro2 et) := by
  obtain ⟨⟨c1, n1⟩, ⟨a2, c2, n2⟩, ⟨a3, c3, n3⟩, ⟨a4, c4, n4⟩, ⟨a5, c5, n5⟩⟩ := ixs hi hL
  obtain ⟨⟨g, r, j⟩, s⟩ := G
  obtain ⟨v1, mu1, la1, ro1, e1, g1, r1, j1, f1, q1⟩ := (t384 XS_ok (hand_all XS_ex) JS_B) 299 [.ref 0, .int (xs (i + 1)), .int (xs (i + 2)), .int (xs (i + 3))] mu la ro (Nat.le_of_ble_eq_true rfl) ⟨rfl, ⟨_, rfl, i_lo _, i_hi _⟩, ⟨_, rfl, i_lo _, i_hi _⟩, ⟨_, rfl, i_lo _, i_hi _⟩, trivial⟩ g r j
  obtain ⟨x1, rfl⟩ := res_i q1
  have w1 : Rr (XS L xs) 299 MTo_shape 0 [.ref 0, .int (xs (i + 1)), .int (xs (i + 2)), .int (xs (i + 3)), mkU, mkU, mkU, mkU] [] (Wd mu la ro et) = some (some (.int x1), Wd mu1 la1 ro1 et) := e1
  obtain ⟨v2, mu2, la2, ro2, e2, g2, r2, j2, f2, q2⟩ := (t457 XS_ok (hand_all XS_ex) JS_B (hand_off XS_ex XS_ok)) 299 [.ref 81, .int (xs (i + 1)), .int (xs (i + 2)), .int (xs (i + 3))] mu1 la1 ro1 (Nat.le_of_ble_eq_true rfl) ⟨rfl, ⟨_, rfl, i_lo _, i_hi _⟩, ⟨_, rfl, i_lo _, i_hi _⟩, ⟨_, rfl, i_lo _, i_hi _⟩, trivial⟩ g1 r1 j1
  obtain ⟨x2, rfl⟩ := res_i q2
  have w2 : Rr (XS L xs) 299 MRm_shape 0 [.ref 81, .int (xs (i + 1)), .int (xs (i + 2)), .int (xs (i + 3)), mkU, mkU, mkU, mkU] [] (Wd mu1 la1 ro1 et) = some (some (.int x2), Wd mu2 la2 ro2 et) := e2
  have s2 := RTS_f (by decide +kernel) f2 (RTS_f (by decide +kernel) f1 s)
  refine ⟨mu2, la2, ro2, ⟨⟨g2, r2, j2⟩, s2⟩, ?_⟩
  simp only [r_MLa_law_976, r_MLa_law_976n, r_MLa_law_977, r_MLa_law_977f, r_MLa_law_978, r_MLa_law_979, r_MLa_law_980, r_MLa_law_981, r_MLa_law_981f, r_MLa_law_982, r_MLa_law_982f, r_MLa_law_983, r_MLa_law_984, r_MLa_law_985, r_MLa_law_986, r_MLa_law_986f, r_MLa_law_987, r_MLa_law_987f, r_MLa_law_988, r_MLa_law_989, r_MLa_law_990, r_MLa_law_991, r_MLa_law_991f, r_MLa_law_992, r_MLa_law_995, r_MLa_law_996, r_MLa_law_996n, r_MLa_law_997, r_MLa_law_997f, r_MLa_law_998, r_MLa_law_999, r_MLa_law_1000, r_MLa_law_1001, r_MLa_law_1001f, r_MLa_law_1002, r_MLa_law_1002f, r_MLa_law_1003, r_MLa_law_1004, r_MLa_law_1005, r_MLa_law_1006, r_MLa_law_1006f, r_MLa_law_1007, r_MLa_law_1007f, r_MLa_law_1008, r_MLa_law_1009, r_MLa_law_1010, r_MLa_law_1011, r_MLa_law_1011f, r_MLa_law_1012, r_MLa_law_1015, r_MLa_law_1016, sL_0, sL_1, sL_2, mk_i, mk_r, mk_f, mk_n, mk_u, mk_l, List.set_cons_succ, List.set_cons_zero, Nat.reduceAdd, ckS_0, ckS_1, ckS_2, ckS_3, ckS_4, Option.bind_some, Option.isSome_some, psh, if_true, if_false, i10, not_true_eq_false, not_false_eq_true, Bool.false_eq_true, and_self, and_true, true_and, eq_self, nI_1, a2, a3, a4, a5, c1, c2, c3, c4, c5, n1, n2, n3, n4, n5, qO_0, qO_81, w1, w2]
set_option maxHeartbeats 4000000 in
theorem lc_23_span {L : Nat} {xs : Nat → Int32} {mu : Mu} {la : La} {ro : Ro} {et : Nat → Option va_E} {i : Nat} (hL : L ≤ 384) (hi : i + 6 ≤ L) (G : GR mu la ro) : ∃ mu2 la2 ro2, GR mu2 la2 ro2 ∧ Rr (XS L xs) 300 MLa_law 1019 [.float 0, .ref 0, .ref 81, .int (nI i)] [] (Wd mu la ro et) = Rr (XS L xs) 300 MLa_law 1544 [.float 0, .ref 0, .ref 81, .int (nI i)] [] (Wd mu2 la2 ro2 et) := by
  obtain ⟨⟨c1, n1⟩, ⟨a2, c2, n2⟩, ⟨a3, c3, n3⟩, ⟨a4, c4, n4⟩, ⟨a5, c5, n5⟩⟩ := ixs hi hL
  obtain ⟨⟨g, r, j⟩, s⟩ := G
  obtain ⟨v1, mu1, la1, ro1, e1, g1, r1, j1, f1, q1⟩ := (t385 XS_ok (hand_all XS_ex) JS_B) 299 [.ref 0, .int (xs (i + 1)), .int (xs (i + 2)), .int (xs (i + 3))] mu la ro (Nat.le_of_ble_eq_true rfl) ⟨rfl, ⟨_, rfl, i_lo _, i_hi _⟩, ⟨_, rfl, i_lo _, i_hi _⟩, ⟨_, rfl, i_lo _, i_hi _⟩, trivial⟩ g r j
  obtain ⟨x1, rfl⟩ := res_i q1
  have w1 : Rr (XS L xs) 299 MTo_span 0 [.ref 0, .int (xs (i + 1)), .int (xs (i + 2)), .int (xs (i + 3)), mkU, mkU] [] (Wd mu la ro et) = some (some (.int x1), Wd mu1 la1 ro1 et) := e1
  obtain ⟨v2, mu2, la2, ro2, e2, g2, r2, j2, f2, q2⟩ := (t458 XS_ok (hand_all XS_ex) JS_B (hand_off XS_ex XS_ok)) 299 [.ref 81, .int (xs (i + 1)), .int (xs (i + 2)), .int (xs (i + 3))] mu1 la1 ro1 (Nat.le_of_ble_eq_true rfl) ⟨rfl, ⟨_, rfl, i_lo _, i_hi _⟩, ⟨_, rfl, i_lo _, i_hi _⟩, ⟨_, rfl, i_lo _, i_hi _⟩, trivial⟩ g1 r1 j1
  obtain ⟨x2, rfl⟩ := res_i q2
  have w2 : Rr (XS L xs) 299 MRm_span 0 [.ref 81, .int (xs (i + 1)), .int (xs (i + 2)), .int (xs (i + 3)), mkU, mkU] [] (Wd mu1 la1 ro1 et) = some (some (.int x2), Wd mu2 la2 ro2 et) := e2
  have s2 := RTS_f (by decide +kernel) f2 (RTS_f (by decide +kernel) f1 s)
  refine ⟨mu2, la2, ro2, ⟨⟨g2, r2, j2⟩, s2⟩, ?_⟩
  simp only [r_MLa_law_1019, r_MLa_law_1019n, r_MLa_law_1020, r_MLa_law_1020f, r_MLa_law_1021, r_MLa_law_1022, r_MLa_law_1023, r_MLa_law_1024, r_MLa_law_1024f, r_MLa_law_1025, r_MLa_law_1025f, r_MLa_law_1026, r_MLa_law_1027, r_MLa_law_1028, r_MLa_law_1029, r_MLa_law_1029f, r_MLa_law_1030, r_MLa_law_1030f, r_MLa_law_1031, r_MLa_law_1032, r_MLa_law_1033, r_MLa_law_1034, r_MLa_law_1034f, r_MLa_law_1035, r_MLa_law_1038, r_MLa_law_1039, r_MLa_law_1039n, r_MLa_law_1040, r_MLa_law_1040f, r_MLa_law_1041, r_MLa_law_1042, r_MLa_law_1043, r_MLa_law_1044, r_MLa_law_1044f, r_MLa_law_1045, r_MLa_law_1045f, r_MLa_law_1046, r_MLa_law_1047, r_MLa_law_1048, r_MLa_law_1049, r_MLa_law_1049f, r_MLa_law_1050, r_MLa_law_1050f, r_MLa_law_1051, r_MLa_law_1052, r_MLa_law_1053, r_MLa_law_1054, r_MLa_law_1054f, r_MLa_law_1055, r_MLa_law_1058, r_MLa_law_1059, sL_0, sL_1, sL_2, mk_i, mk_r, mk_f, mk_n, mk_u, mk_l, List.set_cons_succ, List.set_cons_zero, Nat.reduceAdd, ckS_0, ckS_1, ckS_2, ckS_3, ckS_4, Option.bind_some, Option.isSome_some, psh, if_true, if_false, i10, not_true_eq_false, not_false_eq_true, Bool.false_eq_true, and_self, and_true, true_and, eq_self, nI_1, a2, a3, a4, a5, c1, c2, c3, c4, c5, n1, n2, n3, n4, n5, qO_0, qO_81, w1, w2]
set_option maxHeartbeats 4000000 in
theorem lc_24_which {L : Nat} {xs : Nat → Int32} {mu : Mu} {la : La} {ro : Ro} {et : Nat → Option va_E} {i : Nat} (hL : L ≤ 384) (hi : i + 6 ≤ L) (G : GR mu la ro) : ∃ mu2 la2 ro2, GR mu2 la2 ro2 ∧ Rr (XS L xs) 300 MLa_law 1062 [.float 0, .ref 0, .ref 81, .int (nI i)] [] (Wd mu la ro et) = Rr (XS L xs) 300 MLa_law 1544 [.float 0, .ref 0, .ref 81, .int (nI i)] [] (Wd mu2 la2 ro2 et) := by
  obtain ⟨⟨c1, n1⟩, ⟨a2, c2, n2⟩, ⟨a3, c3, n3⟩, ⟨a4, c4, n4⟩, ⟨a5, c5, n5⟩⟩ := ixs hi hL
  obtain ⟨⟨g, r, j⟩, s⟩ := G
  obtain ⟨v1, mu1, la1, ro1, e1, g1, r1, j1, f1, q1⟩ := (t386 XS_ok (hand_all XS_ex) JS_B) 299 [.ref 0, .int (xs (i + 1)), .int (xs (i + 2))] mu la ro (Nat.le_of_ble_eq_true rfl) ⟨rfl, ⟨_, rfl, i_lo _, i_hi _⟩, ⟨_, rfl, i_lo _, i_hi _⟩, trivial⟩ g r j
  obtain ⟨x1, rfl⟩ := res_i q1
  have w1 : Rr (XS L xs) 299 MTo_which 0 [.ref 0, .int (xs (i + 1)), .int (xs (i + 2)), mkU, mkU, mkU, mkU, mkU, mkU] [] (Wd mu la ro et) = some (some (.int x1), Wd mu1 la1 ro1 et) := e1
  obtain ⟨v2, mu2, la2, ro2, e2, g2, r2, j2, f2, q2⟩ := (t459 XS_ok (hand_all XS_ex) JS_B (hand_off XS_ex XS_ok)) 299 [.ref 81, .int (xs (i + 1)), .int (xs (i + 2))] mu1 la1 ro1 (Nat.le_of_ble_eq_true rfl) ⟨rfl, ⟨_, rfl, i_lo _, i_hi _⟩, ⟨_, rfl, i_lo _, i_hi _⟩, trivial⟩ g1 r1 j1
  obtain ⟨x2, rfl⟩ := res_i q2
  have w2 : Rr (XS L xs) 299 MRm_which 0 [.ref 81, .int (xs (i + 1)), .int (xs (i + 2)), mkU, mkU, mkU, mkU] [] (Wd mu1 la1 ro1 et) = some (some (.int x2), Wd mu2 la2 ro2 et) := e2
  have s2 := RTS_f (by decide +kernel) f2 (RTS_f (by decide +kernel) f1 s)
  refine ⟨mu2, la2, ro2, ⟨⟨g2, r2, j2⟩, s2⟩, ?_⟩
  simp only [r_MLa_law_1062, r_MLa_law_1062n, r_MLa_law_1063, r_MLa_law_1063f, r_MLa_law_1064, r_MLa_law_1065, r_MLa_law_1066, r_MLa_law_1067, r_MLa_law_1067f, r_MLa_law_1068, r_MLa_law_1068f, r_MLa_law_1069, r_MLa_law_1070, r_MLa_law_1071, r_MLa_law_1072, r_MLa_law_1072f, r_MLa_law_1073, r_MLa_law_1076, r_MLa_law_1077, r_MLa_law_1077n, r_MLa_law_1078, r_MLa_law_1078f, r_MLa_law_1079, r_MLa_law_1080, r_MLa_law_1081, r_MLa_law_1082, r_MLa_law_1082f, r_MLa_law_1083, r_MLa_law_1083f, r_MLa_law_1084, r_MLa_law_1085, r_MLa_law_1086, r_MLa_law_1087, r_MLa_law_1087f, r_MLa_law_1088, r_MLa_law_1091, r_MLa_law_1092, sL_0, sL_1, sL_2, mk_i, mk_r, mk_f, mk_n, mk_u, mk_l, List.set_cons_succ, List.set_cons_zero, Nat.reduceAdd, ckS_0, ckS_1, ckS_2, ckS_3, ckS_4, Option.bind_some, Option.isSome_some, psh, if_true, if_false, i10, not_true_eq_false, not_false_eq_true, Bool.false_eq_true, and_self, and_true, true_and, eq_self, nI_1, a2, a3, a4, a5, c1, c2, c3, c4, c5, n1, n2, n3, n4, n5, qO_0, qO_81, w1, w2]
set_option maxHeartbeats 4000000 in
theorem lc_25_chance {L : Nat} {xs : Nat → Int32} {mu : Mu} {la : La} {ro : Ro} {et : Nat → Option va_E} {i : Nat} (hL : L ≤ 384) (hi : i + 6 ≤ L) (G : GR mu la ro) : ∃ mu2 la2 ro2, GR mu2 la2 ro2 ∧ Rr (XS L xs) 300 MLa_law 1095 [.float 0, .ref 0, .ref 81, .int (nI i)] [] (Wd mu la ro et) = Rr (XS L xs) 300 MLa_law 1544 [.float 0, .ref 0, .ref 81, .int (nI i)] [] (Wd mu2 la2 ro2 et) := by
  obtain ⟨⟨c1, n1⟩, ⟨a2, c2, n2⟩, ⟨a3, c3, n3⟩, ⟨a4, c4, n4⟩, ⟨a5, c5, n5⟩⟩ := ixs hi hL
  obtain ⟨⟨g, r, j⟩, s⟩ := G
  obtain ⟨v1, mu1, la1, ro1, e1, g1, r1, j1, f1, q1⟩ := (hand_all XS_ex h0 (by simp [handL])) 299 [.ref 0, .int (xs (i + 1)), .int (xs (i + 2))] mu la ro (Nat.le_of_ble_eq_true rfl) ⟨rfl, ⟨_, rfl, i_lo _, i_hi _⟩, ⟨_, rfl, i_lo _, i_hi _⟩, trivial⟩ g r j
  obtain ⟨x1, rfl⟩ := res_i q1
  have w1 : Rr (XS L xs) 299 MTo_chance 0 [.ref 0, .int (xs (i + 1)), .int (xs (i + 2)), mkU, mkU, mkU, mkU, mkU, mkU] [] (Wd mu la ro et) = some (some (.int x1), Wd mu1 la1 ro1 et) := e1
  obtain ⟨v2, mu2, la2, ro2, e2, g2, r2, j2, f2, q2⟩ := (hand_all XS_ex h7 (by simp [handL])) 299 [.ref 81, .int (xs (i + 1)), .int (xs (i + 2))] mu1 la1 ro1 (Nat.le_of_ble_eq_true rfl) ⟨rfl, ⟨_, rfl, i_lo _, i_hi _⟩, ⟨_, rfl, i_lo _, i_hi _⟩, trivial⟩ g1 r1 j1
  obtain ⟨x2, rfl⟩ := res_i q2
  have w2 : Rr (XS L xs) 299 MRm_chance 0 [.ref 81, .int (xs (i + 1)), .int (xs (i + 2)), mkU, mkU, mkU, mkU, mkU, mkU] [] (Wd mu1 la1 ro1 et) = some (some (.int x2), Wd mu2 la2 ro2 et) := e2
  have s2 := RTS_f (by decide +kernel) f2 (RTS_f (by decide +kernel) f1 s)
  refine ⟨mu2, la2, ro2, ⟨⟨g2, r2, j2⟩, s2⟩, ?_⟩
  simp only [r_MLa_law_1095, r_MLa_law_1095n, r_MLa_law_1096, r_MLa_law_1096f, r_MLa_law_1097, r_MLa_law_1098, r_MLa_law_1099, r_MLa_law_1100, r_MLa_law_1100f, r_MLa_law_1101, r_MLa_law_1101f, r_MLa_law_1102, r_MLa_law_1103, r_MLa_law_1104, r_MLa_law_1105, r_MLa_law_1105f, r_MLa_law_1106, r_MLa_law_1109, r_MLa_law_1110, r_MLa_law_1110n, r_MLa_law_1111, r_MLa_law_1111f, r_MLa_law_1112, r_MLa_law_1113, r_MLa_law_1114, r_MLa_law_1115, r_MLa_law_1115f, r_MLa_law_1116, r_MLa_law_1116f, r_MLa_law_1117, r_MLa_law_1118, r_MLa_law_1119, r_MLa_law_1120, r_MLa_law_1120f, r_MLa_law_1121, r_MLa_law_1124, r_MLa_law_1125, sL_0, sL_1, sL_2, mk_i, mk_r, mk_f, mk_n, mk_u, mk_l, List.set_cons_succ, List.set_cons_zero, Nat.reduceAdd, ckS_0, ckS_1, ckS_2, ckS_3, ckS_4, Option.bind_some, Option.isSome_some, psh, if_true, if_false, i10, not_true_eq_false, not_false_eq_true, Bool.false_eq_true, and_self, and_true, true_and, eq_self, nI_1, a2, a3, a4, a5, c1, c2, c3, c4, c5, n1, n2, n3, n4, n5, qO_0, qO_81, w1, w2]
set_option maxHeartbeats 4000000 in
theorem lc_26_undo {L : Nat} {xs : Nat → Int32} {mu : Mu} {la : La} {ro : Ro} {et : Nat → Option va_E} {i : Nat} (hL : L ≤ 384) (hi : i + 6 ≤ L) (G : GR mu la ro) : ∃ mu2 la2 ro2, GR mu2 la2 ro2 ∧ Rr (XS L xs) 300 MLa_law 1128 [.float 0, .ref 0, .ref 81, .int (nI i)] [] (Wd mu la ro et) = Rr (XS L xs) 300 MLa_law 1544 [.float 0, .ref 0, .ref 81, .int (nI i)] [] (Wd mu2 la2 ro2 et) := by
  obtain ⟨⟨c1, n1⟩, ⟨a2, c2, n2⟩, ⟨a3, c3, n3⟩, ⟨a4, c4, n4⟩, ⟨a5, c5, n5⟩⟩ := ixs hi hL
  obtain ⟨⟨g, r, j⟩, s⟩ := G
  obtain ⟨mu1, mu2, x0, w1, w2, g2, j2, s2, ff⟩ := undoS (X := XS L xs) (d := 296) (la := la) (et := et) g r j s
  have r2 := r
  refine ⟨mu2, la, ro, ⟨⟨g2, r2, j2⟩, s2⟩, ?_⟩
  simp only [r_MLa_law_1128, r_MLa_law_1128n, r_MLa_law_1129, r_MLa_law_1132, r_MLa_law_1133, r_MLa_law_1133n, r_MLa_law_1134, r_MLa_law_1137, r_MLa_law_1138, sL_0, sL_1, sL_2, mk_i, mk_r, mk_f, mk_n, mk_u, mk_l, List.set_cons_succ, List.set_cons_zero, Nat.reduceAdd, ckS_0, ckS_1, ckS_2, ckS_3, ckS_4, Option.bind_some, Option.isSome_some, psh, if_true, if_false, i10, not_true_eq_false, not_false_eq_true, Bool.false_eq_true, and_self, and_true, true_and, eq_self, nI_1, a2, a3, a4, a5, c1, c2, c3, c4, c5, n1, n2, n3, n4, n5, qO_0, qO_81, w1, w2]
set_option maxHeartbeats 4000000 in
theorem lc_27_redo {L : Nat} {xs : Nat → Int32} {mu : Mu} {la : La} {ro : Ro} {et : Nat → Option va_E} {i : Nat} (hL : L ≤ 384) (hi : i + 6 ≤ L) (G : GR mu la ro) : ∃ mu2 la2 ro2, GR mu2 la2 ro2 ∧ Rr (XS L xs) 300 MLa_law 1141 [.float 0, .ref 0, .ref 81, .int (nI i)] [] (Wd mu la ro et) = Rr (XS L xs) 300 MLa_law 1544 [.float 0, .ref 0, .ref 81, .int (nI i)] [] (Wd mu2 la2 ro2 et) := by
  obtain ⟨⟨c1, n1⟩, ⟨a2, c2, n2⟩, ⟨a3, c3, n3⟩, ⟨a4, c4, n4⟩, ⟨a5, c5, n5⟩⟩ := ixs hi hL
  obtain ⟨⟨g, r, j⟩, s⟩ := G
  obtain ⟨mu1, mu2, x0, w1, w2, g2, j2, s2, ff⟩ := redoS (X := XS L xs) (d := 296) (la := la) (et := et) g r j s
  have r2 := r
  refine ⟨mu2, la, ro, ⟨⟨g2, r2, j2⟩, s2⟩, ?_⟩
  simp only [r_MLa_law_1141, r_MLa_law_1141n, r_MLa_law_1142, r_MLa_law_1145, r_MLa_law_1145n, r_MLa_law_1146, r_MLa_law_1149, r_MLa_law_1152, r_MLa_law_1153, sL_0, sL_1, sL_2, mk_i, mk_r, mk_f, mk_n, mk_u, mk_l, List.set_cons_succ, List.set_cons_zero, Nat.reduceAdd, ckS_0, ckS_1, ckS_2, ckS_3, ckS_4, Option.bind_some, Option.isSome_some, psh, if_true, if_false, i10, not_true_eq_false, not_false_eq_true, Bool.false_eq_true, and_self, and_true, true_and, eq_self, nI_1, a2, a3, a4, a5, c1, c2, c3, c4, c5, n1, n2, n3, n4, n5, qO_0, qO_81, w1, w2]
set_option maxHeartbeats 4000000 in
theorem lc_28_body {L : Nat} {xs : Nat → Int32} {mu : Mu} {la : La} {ro : Ro} {et : Nat → Option va_E} {i : Nat} (hL : L ≤ 384) (hi : i + 6 ≤ L) (G : GR mu la ro) : ∃ mu2 la2 ro2, GR mu2 la2 ro2 ∧ Rr (XS L xs) 300 MLa_law 1154 [.float 0, .ref 0, .ref 81, .int (nI i)] [] (Wd mu la ro et) = Rr (XS L xs) 300 MLa_law 1544 [.float 0, .ref 0, .ref 81, .int (nI i)] [] (Wd mu2 la2 ro2 et) := by
  obtain ⟨⟨c1, n1⟩, ⟨a2, c2, n2⟩, ⟨a3, c3, n3⟩, ⟨a4, c4, n4⟩, ⟨a5, c5, n5⟩⟩ := ixs hi hL
  obtain ⟨⟨g, r, j⟩, s⟩ := G
  obtain ⟨v1, mu1, la1, ro1, e1, g1, r1, j1, f1, q1⟩ := (t389 XS_ok (hand_all XS_ex) JS_B) 299 [.ref 0, .int (xs (i + 1))] mu la ro (Nat.le_of_ble_eq_true rfl) ⟨rfl, ⟨_, rfl, i_lo _, i_hi _⟩, trivial⟩ g r j
  obtain ⟨x1, rfl⟩ := res_i q1
  have w1 : Rr (XS L xs) 299 MTo_body 0 [.ref 0, .int (xs (i + 1))] [] (Wd mu la ro et) = some (some (.int x1), Wd mu1 la1 ro1 et) := e1
  obtain ⟨v2, mu2, la2, ro2, e2, g2, r2, j2, f2, q2⟩ := (t460 XS_ok (hand_all XS_ex) JS_B) 299 [.ref 81, .int (xs (i + 1))] mu1 la1 ro1 (Nat.le_of_ble_eq_true rfl) ⟨rfl, ⟨_, rfl, i_lo _, i_hi _⟩, trivial⟩ g1 r1 j1
  obtain ⟨x2, rfl⟩ := res_i q2
  have w2 : Rr (XS L xs) 299 MRm_body 0 [.ref 81, .int (xs (i + 1))] [] (Wd mu1 la1 ro1 et) = some (some (.int x2), Wd mu2 la2 ro2 et) := e2
  have s2 := RTS_f (by decide +kernel) f2 (RTS_f (by decide +kernel) f1 s)
  refine ⟨mu2, la2, ro2, ⟨⟨g2, r2, j2⟩, s2⟩, ?_⟩
  simp only [r_MLa_law_1154, r_MLa_law_1154n, r_MLa_law_1155, r_MLa_law_1155f, r_MLa_law_1156, r_MLa_law_1157, r_MLa_law_1158, r_MLa_law_1159, r_MLa_law_1159f, r_MLa_law_1160, r_MLa_law_1163, r_MLa_law_1164, r_MLa_law_1164n, r_MLa_law_1165, r_MLa_law_1165f, r_MLa_law_1166, r_MLa_law_1167, r_MLa_law_1168, r_MLa_law_1169, r_MLa_law_1169f, r_MLa_law_1170, r_MLa_law_1173, r_MLa_law_1174, sL_0, sL_1, sL_2, mk_i, mk_r, mk_f, mk_n, mk_u, mk_l, List.set_cons_succ, List.set_cons_zero, Nat.reduceAdd, ckS_0, ckS_1, ckS_2, ckS_3, ckS_4, Option.bind_some, Option.isSome_some, psh, if_true, if_false, i10, not_true_eq_false, not_false_eq_true, Bool.false_eq_true, and_self, and_true, true_and, eq_self, nI_1, a2, a3, a4, a5, c1, c2, c3, c4, c5, n1, n2, n3, n4, n5, qO_0, qO_81, w1, w2]
set_option maxHeartbeats 4000000 in
theorem lc_29_act {L : Nat} {xs : Nat → Int32} {mu : Mu} {la : La} {ro : Ro} {et : Nat → Option va_E} {i : Nat} (hL : L ≤ 384) (hi : i + 6 ≤ L) (G : GR mu la ro) : ∃ mu2 la2 ro2, GR mu2 la2 ro2 ∧ Rr (XS L xs) 300 MLa_law 1177 [.float 0, .ref 0, .ref 81, .int (nI i)] [] (Wd mu la ro et) = Rr (XS L xs) 300 MLa_law 1544 [.float 0, .ref 0, .ref 81, .int (nI i)] [] (Wd mu2 la2 ro2 et) := by
  obtain ⟨⟨c1, n1⟩, ⟨a2, c2, n2⟩, ⟨a3, c3, n3⟩, ⟨a4, c4, n4⟩, ⟨a5, c5, n5⟩⟩ := ixs hi hL
  obtain ⟨⟨g, r, j⟩, s⟩ := G
  obtain ⟨v1, mu1, la1, ro1, e1, g1, r1, j1, f1, q1⟩ := (hand_all XS_ex h15 (by simp [handL])) 299 [.ref 0, .int (xs (i + 1)), .int (xs (i + 2)), .int (xs (i + 3))] mu la ro (Nat.le_of_ble_eq_true rfl) ⟨rfl, ⟨_, rfl, i_lo _, i_hi _⟩, ⟨_, rfl, i_lo _, i_hi _⟩, ⟨_, rfl, i_lo _, i_hi _⟩, trivial⟩ g r j
  obtain ⟨x1, rfl⟩ := res_i q1
  have w1 : Rr (XS L xs) 299 MTo_act 0 [.ref 0, .int (xs (i + 1)), .int (xs (i + 2)), .int (xs (i + 3))] [] (Wd mu la ro et) = some (some (.int x1), Wd mu1 la1 ro1 et) := e1
  obtain ⟨v2, mu2, la2, ro2, e2, g2, r2, j2, f2, q2⟩ := (hand_all XS_ex h16 (by simp [handL])) 299 [.ref 81, .int (xs (i + 1)), .int (xs (i + 2)), .int (xs (i + 3))] mu1 la1 ro1 (Nat.le_of_ble_eq_true rfl) ⟨rfl, ⟨_, rfl, i_lo _, i_hi _⟩, ⟨_, rfl, i_lo _, i_hi _⟩, ⟨_, rfl, i_lo _, i_hi _⟩, trivial⟩ g1 r1 j1
  obtain ⟨x2, rfl⟩ := res_i q2
  have w2 : Rr (XS L xs) 299 MRm_act 0 [.ref 81, .int (xs (i + 1)), .int (xs (i + 2)), .int (xs (i + 3))] [] (Wd mu1 la1 ro1 et) = some (some (.int x2), Wd mu2 la2 ro2 et) := e2
  have s2 := RTS_f (by decide +kernel) f2 (RTS_f (by decide +kernel) f1 s)
  refine ⟨mu2, la2, ro2, ⟨⟨g2, r2, j2⟩, s2⟩, ?_⟩
  simp only [r_MLa_law_1177, r_MLa_law_1177n, r_MLa_law_1178, r_MLa_law_1178f, r_MLa_law_1179, r_MLa_law_1180, r_MLa_law_1181, r_MLa_law_1182, r_MLa_law_1182f, r_MLa_law_1183, r_MLa_law_1183f, r_MLa_law_1184, r_MLa_law_1185, r_MLa_law_1186, r_MLa_law_1187, r_MLa_law_1187f, r_MLa_law_1188, r_MLa_law_1188f, r_MLa_law_1189, r_MLa_law_1190, r_MLa_law_1191, r_MLa_law_1192, r_MLa_law_1192f, r_MLa_law_1193, r_MLa_law_1196, r_MLa_law_1197, r_MLa_law_1197n, r_MLa_law_1198, r_MLa_law_1198f, r_MLa_law_1199, r_MLa_law_1200, r_MLa_law_1201, r_MLa_law_1202, r_MLa_law_1202f, r_MLa_law_1203, r_MLa_law_1203f, r_MLa_law_1204, r_MLa_law_1205, r_MLa_law_1206, r_MLa_law_1207, r_MLa_law_1207f, r_MLa_law_1208, r_MLa_law_1208f, r_MLa_law_1209, r_MLa_law_1210, r_MLa_law_1211, r_MLa_law_1212, r_MLa_law_1212f, r_MLa_law_1213, r_MLa_law_1216, r_MLa_law_1217, sL_0, sL_1, sL_2, mk_i, mk_r, mk_f, mk_n, mk_u, mk_l, List.set_cons_succ, List.set_cons_zero, Nat.reduceAdd, ckS_0, ckS_1, ckS_2, ckS_3, ckS_4, Option.bind_some, Option.isSome_some, psh, if_true, if_false, i10, not_true_eq_false, not_false_eq_true, Bool.false_eq_true, and_self, and_true, true_and, eq_self, nI_1, a2, a3, a4, a5, c1, c2, c3, c4, c5, n1, n2, n3, n4, n5, qO_0, qO_81, w1, w2]
set_option maxHeartbeats 4000000 in
theorem lc_30_trace {L : Nat} {xs : Nat → Int32} {mu : Mu} {la : La} {ro : Ro} {et : Nat → Option va_E} {i : Nat} (hL : L ≤ 384) (hi : i + 6 ≤ L) (G : GR mu la ro) : ∃ mu2 la2 ro2, GR mu2 la2 ro2 ∧ Rr (XS L xs) 300 MLa_law 1220 [.float 0, .ref 0, .ref 81, .int (nI i)] [] (Wd mu la ro et) = Rr (XS L xs) 300 MLa_law 1544 [.float 0, .ref 0, .ref 81, .int (nI i)] [] (Wd mu2 la2 ro2 et) := by
  obtain ⟨⟨c1, n1⟩, ⟨a2, c2, n2⟩, ⟨a3, c3, n3⟩, ⟨a4, c4, n4⟩, ⟨a5, c5, n5⟩⟩ := ixs hi hL
  obtain ⟨⟨g, r, j⟩, s⟩ := G
  obtain ⟨v1, mu1, la1, ro1, e1, g1, r1, j1, f1, q1⟩ := (t390 XS_ok (hand_all XS_ex) JS_B) 299 [.ref 0, .int (xs (i + 1))] mu la ro (Nat.le_of_ble_eq_true rfl) ⟨rfl, ⟨_, rfl, i_lo _, i_hi _⟩, trivial⟩ g r j
  obtain ⟨x1, rfl⟩ := res_i q1
  have w1 : Rr (XS L xs) 299 MTo_trace 0 [.ref 0, .int (xs (i + 1))] [] (Wd mu la ro et) = some (some (.int x1), Wd mu1 la1 ro1 et) := e1
  obtain ⟨v2, mu2, la2, ro2, e2, g2, r2, j2, f2, q2⟩ := (t462 XS_ok (hand_all XS_ex) JS_B) 299 [.ref 81, .int (xs (i + 1))] mu1 la1 ro1 (Nat.le_of_ble_eq_true rfl) ⟨rfl, ⟨_, rfl, i_lo _, i_hi _⟩, trivial⟩ g1 r1 j1
  obtain ⟨x2, rfl⟩ := res_i q2
  have w2 : Rr (XS L xs) 299 MRm_trace 0 [.ref 81, .int (xs (i + 1))] [] (Wd mu1 la1 ro1 et) = some (some (.int x2), Wd mu2 la2 ro2 et) := e2
  have s2 := RTS_f (by decide +kernel) f2 (RTS_f (by decide +kernel) f1 s)
  refine ⟨mu2, la2, ro2, ⟨⟨g2, r2, j2⟩, s2⟩, ?_⟩
  simp only [r_MLa_law_1220, r_MLa_law_1220n, r_MLa_law_1221, r_MLa_law_1221f, r_MLa_law_1222, r_MLa_law_1223, r_MLa_law_1224, r_MLa_law_1225, r_MLa_law_1225f, r_MLa_law_1226, r_MLa_law_1229, r_MLa_law_1230, r_MLa_law_1230n, r_MLa_law_1231, r_MLa_law_1231f, r_MLa_law_1232, r_MLa_law_1233, r_MLa_law_1234, r_MLa_law_1235, r_MLa_law_1235f, r_MLa_law_1236, r_MLa_law_1239, r_MLa_law_1240, sL_0, sL_1, sL_2, mk_i, mk_r, mk_f, mk_n, mk_u, mk_l, List.set_cons_succ, List.set_cons_zero, Nat.reduceAdd, ckS_0, ckS_1, ckS_2, ckS_3, ckS_4, Option.bind_some, Option.isSome_some, psh, if_true, if_false, i10, not_true_eq_false, not_false_eq_true, Bool.false_eq_true, and_self, and_true, true_and, eq_self, nI_1, a2, a3, a4, a5, c1, c2, c3, c4, c5, n1, n2, n3, n4, n5, qO_0, qO_81, w1, w2]
set_option maxHeartbeats 4000000 in
theorem lc_31_keep {L : Nat} {xs : Nat → Int32} {mu : Mu} {la : La} {ro : Ro} {et : Nat → Option va_E} {i : Nat} (hL : L ≤ 384) (hi : i + 6 ≤ L) (G : GR mu la ro) : ∃ mu2 la2 ro2, GR mu2 la2 ro2 ∧ Rr (XS L xs) 300 MLa_law 1243 [.float 0, .ref 0, .ref 81, .int (nI i)] [] (Wd mu la ro et) = Rr (XS L xs) 300 MLa_law 1544 [.float 0, .ref 0, .ref 81, .int (nI i)] [] (Wd mu2 la2 ro2 et) := by
  obtain ⟨⟨c1, n1⟩, ⟨a2, c2, n2⟩, ⟨a3, c3, n3⟩, ⟨a4, c4, n4⟩, ⟨a5, c5, n5⟩⟩ := ixs hi hL
  obtain ⟨⟨g, r, j⟩, s⟩ := G
  obtain ⟨v1, mu1, la1, ro1, e1, g1, r1, j1, f1, q1⟩ := (t391 XS_ok (hand_all XS_ex) JS_B) 299 [.ref 0, .int (xs (i + 1)), .int (xs (i + 2))] mu la ro (Nat.le_of_ble_eq_true rfl) ⟨rfl, ⟨_, rfl, i_lo _, i_hi _⟩, ⟨_, rfl, i_lo _, i_hi _⟩, trivial⟩ g r j
  obtain ⟨x1, rfl⟩ := res_i q1
  have w1 : Rr (XS L xs) 299 MTo_keep 0 [.ref 0, .int (xs (i + 1)), .int (xs (i + 2)), mkU] [] (Wd mu la ro et) = some (some (.int x1), Wd mu1 la1 ro1 et) := e1
  obtain ⟨v2, mu2, la2, ro2, e2, g2, r2, j2, f2, q2⟩ := (t464 XS_ok (hand_all XS_ex) JS_B) 299 [.ref 81, .int (xs (i + 1)), .int (xs (i + 2))] mu1 la1 ro1 (Nat.le_of_ble_eq_true rfl) ⟨rfl, ⟨_, rfl, i_lo _, i_hi _⟩, ⟨_, rfl, i_lo _, i_hi _⟩, trivial⟩ g1 r1 j1
  obtain ⟨x2, rfl⟩ := res_i q2
  have w2 : Rr (XS L xs) 299 MRm_keep 0 [.ref 81, .int (xs (i + 1)), .int (xs (i + 2))] [] (Wd mu1 la1 ro1 et) = some (some (.int x2), Wd mu2 la2 ro2 et) := e2
  have s2 := RTS_f (by decide +kernel) f2 (RTS_f (by decide +kernel) f1 s)
  refine ⟨mu2, la2, ro2, ⟨⟨g2, r2, j2⟩, s2⟩, ?_⟩
  simp only [r_MLa_law_1243, r_MLa_law_1243n, r_MLa_law_1244, r_MLa_law_1244f, r_MLa_law_1245, r_MLa_law_1246, r_MLa_law_1247, r_MLa_law_1248, r_MLa_law_1248f, r_MLa_law_1249, r_MLa_law_1249f, r_MLa_law_1250, r_MLa_law_1251, r_MLa_law_1252, r_MLa_law_1253, r_MLa_law_1253f, r_MLa_law_1254, r_MLa_law_1257, r_MLa_law_1258, r_MLa_law_1258n, r_MLa_law_1259, r_MLa_law_1259f, r_MLa_law_1260, r_MLa_law_1261, r_MLa_law_1262, r_MLa_law_1263, r_MLa_law_1263f, r_MLa_law_1264, r_MLa_law_1264f, r_MLa_law_1265, r_MLa_law_1266, r_MLa_law_1267, r_MLa_law_1268, r_MLa_law_1268f, r_MLa_law_1269, r_MLa_law_1272, r_MLa_law_1273, sL_0, sL_1, sL_2, mk_i, mk_r, mk_f, mk_n, mk_u, mk_l, List.set_cons_succ, List.set_cons_zero, Nat.reduceAdd, ckS_0, ckS_1, ckS_2, ckS_3, ckS_4, Option.bind_some, Option.isSome_some, psh, if_true, if_false, i10, not_true_eq_false, not_false_eq_true, Bool.false_eq_true, and_self, and_true, true_and, eq_self, nI_1, a2, a3, a4, a5, c1, c2, c3, c4, c5, n1, n2, n3, n4, n5, qO_0, qO_81, w1, w2]
set_option maxHeartbeats 4000000 in
theorem lc_32_row {L : Nat} {xs : Nat → Int32} {mu : Mu} {la : La} {ro : Ro} {et : Nat → Option va_E} {i : Nat} (hL : L ≤ 384) (hi : i + 6 ≤ L) (G : GR mu la ro) : ∃ mu2 la2 ro2, GR mu2 la2 ro2 ∧ Rr (XS L xs) 300 MLa_law 1276 [.float 0, .ref 0, .ref 81, .int (nI i)] [] (Wd mu la ro et) = Rr (XS L xs) 300 MLa_law 1544 [.float 0, .ref 0, .ref 81, .int (nI i)] [] (Wd mu2 la2 ro2 et) := by
  obtain ⟨⟨c1, n1⟩, ⟨a2, c2, n2⟩, ⟨a3, c3, n3⟩, ⟨a4, c4, n4⟩, ⟨a5, c5, n5⟩⟩ := ixs hi hL
  obtain ⟨⟨g, r, j⟩, s⟩ := G
  obtain ⟨v1, mu1, la1, ro1, e1, g1, r1, j1, f1, q1⟩ := (t392 XS_ok (hand_all XS_ex) JS_B) 299 [.ref 0, .int (xs (i + 1)), .int (xs (i + 2)), .int (xs (i + 3))] mu la ro (Nat.le_of_ble_eq_true rfl) ⟨rfl, ⟨_, rfl, i_lo _, i_hi _⟩, ⟨_, rfl, i_lo _, i_hi _⟩, ⟨_, rfl, i_lo _, i_hi _⟩, trivial⟩ g r j
  obtain ⟨x1, rfl⟩ := res_i q1
  have w1 : Rr (XS L xs) 299 MTo_row 0 [.ref 0, .int (xs (i + 1)), .int (xs (i + 2)), .int (xs (i + 3)), mkU] [] (Wd mu la ro et) = some (some (.int x1), Wd mu1 la1 ro1 et) := e1
  obtain ⟨v2, mu2, la2, ro2, e2, g2, r2, j2, f2, q2⟩ := (t465 XS_ok (hand_all XS_ex) JS_B) 299 [.ref 81, .int (xs (i + 1)), .int (xs (i + 2)), .int (xs (i + 3))] mu1 la1 ro1 (Nat.le_of_ble_eq_true rfl) ⟨rfl, ⟨_, rfl, i_lo _, i_hi _⟩, ⟨_, rfl, i_lo _, i_hi _⟩, ⟨_, rfl, i_lo _, i_hi _⟩, trivial⟩ g1 r1 j1
  obtain ⟨x2, rfl⟩ := res_i q2
  have w2 : Rr (XS L xs) 299 MRm_row 0 [.ref 81, .int (xs (i + 1)), .int (xs (i + 2)), .int (xs (i + 3)), mkU] [] (Wd mu1 la1 ro1 et) = some (some (.int x2), Wd mu2 la2 ro2 et) := e2
  have s2 := RTS_f (by decide +kernel) f2 (RTS_f (by decide +kernel) f1 s)
  refine ⟨mu2, la2, ro2, ⟨⟨g2, r2, j2⟩, s2⟩, ?_⟩
  simp only [r_MLa_law_1276, r_MLa_law_1276n, r_MLa_law_1277, r_MLa_law_1277f, r_MLa_law_1278, r_MLa_law_1279, r_MLa_law_1280, r_MLa_law_1281, r_MLa_law_1281f, r_MLa_law_1282, r_MLa_law_1282f, r_MLa_law_1283, r_MLa_law_1284, r_MLa_law_1285, r_MLa_law_1286, r_MLa_law_1286f, r_MLa_law_1287, r_MLa_law_1287f, r_MLa_law_1288, r_MLa_law_1289, r_MLa_law_1290, r_MLa_law_1291, r_MLa_law_1291f, r_MLa_law_1292, r_MLa_law_1295, r_MLa_law_1296, r_MLa_law_1296n, r_MLa_law_1297, r_MLa_law_1297f, r_MLa_law_1298, r_MLa_law_1299, r_MLa_law_1300, r_MLa_law_1301, r_MLa_law_1301f, r_MLa_law_1302, r_MLa_law_1302f, r_MLa_law_1303, r_MLa_law_1304, r_MLa_law_1305, r_MLa_law_1306, r_MLa_law_1306f, r_MLa_law_1307, r_MLa_law_1307f, r_MLa_law_1308, r_MLa_law_1309, r_MLa_law_1310, r_MLa_law_1311, r_MLa_law_1311f, r_MLa_law_1312, r_MLa_law_1315, r_MLa_law_1316, sL_0, sL_1, sL_2, mk_i, mk_r, mk_f, mk_n, mk_u, mk_l, List.set_cons_succ, List.set_cons_zero, Nat.reduceAdd, ckS_0, ckS_1, ckS_2, ckS_3, ckS_4, Option.bind_some, Option.isSome_some, psh, if_true, if_false, i10, not_true_eq_false, not_false_eq_true, Bool.false_eq_true, and_self, and_true, true_and, eq_self, nI_1, a2, a3, a4, a5, c1, c2, c3, c4, c5, n1, n2, n3, n4, n5, qO_0, qO_81, w1, w2]
set_option maxHeartbeats 4000000 in
theorem lc_33_put {L : Nat} {xs : Nat → Int32} {mu : Mu} {la : La} {ro : Ro} {et : Nat → Option va_E} {i : Nat} (hL : L ≤ 384) (hi : i + 6 ≤ L) (G : GR mu la ro) : ∃ mu2 la2 ro2, GR mu2 la2 ro2 ∧ Rr (XS L xs) 300 MLa_law 1319 [.float 0, .ref 0, .ref 81, .int (nI i)] [] (Wd mu la ro et) = Rr (XS L xs) 300 MLa_law 1544 [.float 0, .ref 0, .ref 81, .int (nI i)] [] (Wd mu2 la2 ro2 et) := by
  obtain ⟨⟨c1, n1⟩, ⟨a2, c2, n2⟩, ⟨a3, c3, n3⟩, ⟨a4, c4, n4⟩, ⟨a5, c5, n5⟩⟩ := ixs hi hL
  obtain ⟨⟨g, r, j⟩, s⟩ := G
  obtain ⟨v1, mu1, la1, ro1, e1, g1, r1, j1, f1, q1⟩ := (t396 XS_ok (hand_all XS_ex) JS_B) 299 [.ref 0, .int (xs (i + 1)), .int (xs (i + 2)), .long (((xs (i + 3)).toInt64 <<< ((32 : Int32).toInt64 &&& 63)) ||| ((xs (i + 4)).toInt64 &&& 4294967295))] mu la ro (Nat.le_of_ble_eq_true rfl) ⟨rfl, ⟨_, rfl, i_lo _, i_hi _⟩, ⟨_, rfl, i_lo _, i_hi _⟩, ⟨_, rfl⟩, trivial⟩ g r j
  obtain ⟨x1, rfl⟩ := res_i q1
  have w1 : Rr (XS L xs) 299 MTo_put 0 [.ref 0, .int (xs (i + 1)), .int (xs (i + 2)), .long (((xs (i + 3)).toInt64 <<< ((32 : Int32).toInt64 &&& 63)) ||| ((xs (i + 4)).toInt64 &&& 4294967295)), mkU, mkU, mkU] [] (Wd mu la ro et) = some (some (.int x1), Wd mu1 la1 ro1 et) := e1
  obtain ⟨v2, mu2, la2, ro2, e2, g2, r2, j2, f2, q2⟩ := (t466 XS_ok (hand_all XS_ex) JS_B) 299 [.ref 81, .int (xs (i + 1)), .int (xs (i + 2)), .long (((xs (i + 3)).toInt64 <<< ((32 : Int32).toInt64 &&& 63)) ||| ((xs (i + 4)).toInt64 &&& 4294967295))] mu1 la1 ro1 (Nat.le_of_ble_eq_true rfl) ⟨rfl, ⟨_, rfl, i_lo _, i_hi _⟩, ⟨_, rfl, i_lo _, i_hi _⟩, ⟨_, rfl⟩, trivial⟩ g1 r1 j1
  obtain ⟨x2, rfl⟩ := res_i q2
  have w2 : Rr (XS L xs) 299 MRm_put 0 [.ref 81, .int (xs (i + 1)), .int (xs (i + 2)), .long (((xs (i + 3)).toInt64 <<< ((32 : Int32).toInt64 &&& 63)) ||| ((xs (i + 4)).toInt64 &&& 4294967295)), mkU, mkU, mkU] [] (Wd mu1 la1 ro1 et) = some (some (.int x2), Wd mu2 la2 ro2 et) := e2
  have s2 := RTS_f (by decide +kernel) f2 (RTS_f (by decide +kernel) f1 s)
  refine ⟨mu2, la2, ro2, ⟨⟨g2, r2, j2⟩, s2⟩, ?_⟩
  simp only [r_MLa_law_1319, r_MLa_law_1319n, r_MLa_law_1320, r_MLa_law_1320f, r_MLa_law_1321, r_MLa_law_1322, r_MLa_law_1323, r_MLa_law_1324, r_MLa_law_1324f, r_MLa_law_1325, r_MLa_law_1325f, r_MLa_law_1326, r_MLa_law_1327, r_MLa_law_1328, r_MLa_law_1329, r_MLa_law_1329f, r_MLa_law_1330, r_MLa_law_1330f, r_MLa_law_1331, r_MLa_law_1332, r_MLa_law_1333, r_MLa_law_1334, r_MLa_law_1334f, r_MLa_law_1335, r_MLa_law_1336, r_MLa_law_1338, r_MLa_law_1339, r_MLa_law_1339f, r_MLa_law_1340, r_MLa_law_1341, r_MLa_law_1342, r_MLa_law_1343, r_MLa_law_1343f, r_MLa_law_1344, r_MLa_law_1345, r_MLa_law_1348, r_MLa_law_1349, r_MLa_law_1350, r_MLa_law_1353, r_MLa_law_1354, r_MLa_law_1354n, r_MLa_law_1355, r_MLa_law_1355f, r_MLa_law_1356, r_MLa_law_1357, r_MLa_law_1358, r_MLa_law_1359, r_MLa_law_1359f, r_MLa_law_1360, r_MLa_law_1360f, r_MLa_law_1361, r_MLa_law_1362, r_MLa_law_1363, r_MLa_law_1364, r_MLa_law_1364f, r_MLa_law_1365, r_MLa_law_1365f, r_MLa_law_1366, r_MLa_law_1367, r_MLa_law_1368, r_MLa_law_1369, r_MLa_law_1369f, r_MLa_law_1370, r_MLa_law_1371, r_MLa_law_1373, r_MLa_law_1374, r_MLa_law_1374f, r_MLa_law_1375, r_MLa_law_1376, r_MLa_law_1377, r_MLa_law_1378, r_MLa_law_1378f, r_MLa_law_1379, r_MLa_law_1380, r_MLa_law_1383, r_MLa_law_1384, r_MLa_law_1385, r_MLa_law_1388, r_MLa_law_1389, sL_0, sL_1, sL_2, mk_i, mk_r, mk_f, mk_n, mk_u, mk_l, List.set_cons_succ, List.set_cons_zero, Nat.reduceAdd, ckS_0, ckS_1, ckS_2, ckS_3, ckS_4, Option.bind_some, Option.isSome_some, psh, if_true, if_false, i10, not_true_eq_false, not_false_eq_true, Bool.false_eq_true, and_self, and_true, true_and, eq_self, nI_1, a2, a3, a4, a5, c1, c2, c3, c4, c5, n1, n2, n3, n4, n5, qO_0, qO_81, w1, w2]
set_option maxHeartbeats 4000000 in
theorem lc_34_element {L : Nat} {xs : Nat → Int32} {mu : Mu} {la : La} {ro : Ro} {et : Nat → Option va_E} {i : Nat} (hL : L ≤ 384) (hi : i + 6 ≤ L) (G : GR mu la ro) : ∃ mu2 la2 ro2, GR mu2 la2 ro2 ∧ Rr (XS L xs) 300 MLa_law 1392 [.float 0, .ref 0, .ref 81, .int (nI i)] [] (Wd mu la ro et) = Rr (XS L xs) 300 MLa_law 1544 [.float 0, .ref 0, .ref 81, .int (nI i)] [] (Wd mu2 la2 ro2 et) := by
  obtain ⟨⟨c1, n1⟩, ⟨a2, c2, n2⟩, ⟨a3, c3, n3⟩, ⟨a4, c4, n4⟩, ⟨a5, c5, n5⟩⟩ := ixs hi hL
  obtain ⟨⟨g, r, j⟩, s⟩ := G
  obtain ⟨v1, mu1, la1, ro1, e1, g1, r1, j1, f1, q1⟩ := (t393 XS_ok (hand_all XS_ex) JS_B) 299 [.ref 0, .int (xs (i + 1)), .int (xs (i + 2))] mu la ro (Nat.le_of_ble_eq_true rfl) ⟨rfl, ⟨_, rfl, i_lo _, i_hi _⟩, ⟨_, rfl, i_lo _, i_hi _⟩, trivial⟩ g r j
  obtain ⟨x1, rfl⟩ := res_l q1
  have w1 : Rr (XS L xs) 299 MTo_element 0 [.ref 0, .int (xs (i + 1)), .int (xs (i + 2)), mkU] [] (Wd mu la ro et) = some (some (.long x1), Wd mu1 la1 ro1 et) := e1
  obtain ⟨v2, mu2, la2, ro2, e2, g2, r2, j2, f2, q2⟩ := (t467 XS_ok (hand_all XS_ex) JS_B) 299 [.ref 81, .int (xs (i + 1)), .int (xs (i + 2))] mu1 la1 ro1 (Nat.le_of_ble_eq_true rfl) ⟨rfl, ⟨_, rfl, i_lo _, i_hi _⟩, ⟨_, rfl, i_lo _, i_hi _⟩, trivial⟩ g1 r1 j1
  obtain ⟨x2, rfl⟩ := res_l q2
  have w2 : Rr (XS L xs) 299 MRm_element 0 [.ref 81, .int (xs (i + 1)), .int (xs (i + 2))] [] (Wd mu1 la1 ro1 et) = some (some (.long x2), Wd mu2 la2 ro2 et) := e2
  have s2 := RTS_f (by decide +kernel) f2 (RTS_f (by decide +kernel) f1 s)
  refine ⟨mu2, la2, ro2, ⟨⟨g2, r2, j2⟩, s2⟩, ?_⟩
  simp only [r_MLa_law_1392, r_MLa_law_1392n, r_MLa_law_1393, r_MLa_law_1393f, r_MLa_law_1394, r_MLa_law_1395, r_MLa_law_1396, r_MLa_law_1397, r_MLa_law_1397f, r_MLa_law_1398, r_MLa_law_1398f, r_MLa_law_1399, r_MLa_law_1400, r_MLa_law_1401, r_MLa_law_1402, r_MLa_law_1402f, r_MLa_law_1403, r_MLa_law_1406, r_MLa_law_1407, r_MLa_law_1407n, r_MLa_law_1408, r_MLa_law_1408f, r_MLa_law_1409, r_MLa_law_1410, r_MLa_law_1411, r_MLa_law_1412, r_MLa_law_1412f, r_MLa_law_1413, r_MLa_law_1413f, r_MLa_law_1414, r_MLa_law_1415, r_MLa_law_1416, r_MLa_law_1417, r_MLa_law_1417f, r_MLa_law_1418, r_MLa_law_1421, r_MLa_law_1422, sL_0, sL_1, sL_2, mk_i, mk_r, mk_f, mk_n, mk_u, mk_l, List.set_cons_succ, List.set_cons_zero, Nat.reduceAdd, ckS_0, ckS_1, ckS_2, ckS_3, ckS_4, Option.bind_some, Option.isSome_some, psh, if_true, if_false, i10, not_true_eq_false, not_false_eq_true, Bool.false_eq_true, and_self, and_true, true_and, eq_self, nI_1, a2, a3, a4, a5, c1, c2, c3, c4, c5, n1, n2, n3, n4, n5, qO_0, qO_81, w1, w2]
set_option maxHeartbeats 4000000 in
theorem lc_35_shift {L : Nat} {xs : Nat → Int32} {mu : Mu} {la : La} {ro : Ro} {et : Nat → Option va_E} {i : Nat} (hL : L ≤ 384) (hi : i + 6 ≤ L) (G : GR mu la ro) : ∃ mu2 la2 ro2, GR mu2 la2 ro2 ∧ Rr (XS L xs) 300 MLa_law 1425 [.float 0, .ref 0, .ref 81, .int (nI i)] [] (Wd mu la ro et) = Rr (XS L xs) 300 MLa_law 1544 [.float 0, .ref 0, .ref 81, .int (nI i)] [] (Wd mu2 la2 ro2 et) := by
  obtain ⟨⟨c1, n1⟩, ⟨a2, c2, n2⟩, ⟨a3, c3, n3⟩, ⟨a4, c4, n4⟩, ⟨a5, c5, n5⟩⟩ := ixs hi hL
  obtain ⟨⟨g, r, j⟩, s⟩ := G
  obtain ⟨v1, mu1, la1, ro1, e1, g1, r1, j1, f1, q1⟩ := (hand_all XS_ex h1 (by simp [handL])) 299 [.ref 0, .int (xs (i + 1)), .int (xs (i + 2)), .int (xs (i + 3)), .int (xs (i + 4)), .int (xs (i + 5))] mu la ro (Nat.le_of_ble_eq_true rfl) ⟨rfl, ⟨_, rfl, i_lo _, i_hi _⟩, ⟨_, rfl, i_lo _, i_hi _⟩, ⟨_, rfl, i_lo _, i_hi _⟩, ⟨_, rfl, i_lo _, i_hi _⟩, ⟨_, rfl, i_lo _, i_hi _⟩, trivial⟩ g r j
  obtain ⟨x1, rfl⟩ := res_i q1
  have w1 : Rr (XS L xs) 299 MTo_shift 0 [.ref 0, .int (xs (i + 1)), .int (xs (i + 2)), .int (xs (i + 3)), .int (xs (i + 4)), .int (xs (i + 5)), mkU, mkU] [] (Wd mu la ro et) = some (some (.int x1), Wd mu1 la1 ro1 et) := e1
  obtain ⟨v2, mu2, la2, ro2, e2, g2, r2, j2, f2, q2⟩ := (hand_all XS_ex h8 (by simp [handL])) 299 [.ref 81, .int (xs (i + 1)), .int (xs (i + 2)), .int (xs (i + 3)), .int (xs (i + 4)), .int (xs (i + 5))] mu1 la1 ro1 (Nat.le_of_ble_eq_true rfl) ⟨rfl, ⟨_, rfl, i_lo _, i_hi _⟩, ⟨_, rfl, i_lo _, i_hi _⟩, ⟨_, rfl, i_lo _, i_hi _⟩, ⟨_, rfl, i_lo _, i_hi _⟩, ⟨_, rfl, i_lo _, i_hi _⟩, trivial⟩ g1 r1 j1
  obtain ⟨x2, rfl⟩ := res_i q2
  have w2 : Rr (XS L xs) 299 MRm_shift 0 [.ref 81, .int (xs (i + 1)), .int (xs (i + 2)), .int (xs (i + 3)), .int (xs (i + 4)), .int (xs (i + 5)), mkU] [] (Wd mu1 la1 ro1 et) = some (some (.int x2), Wd mu2 la2 ro2 et) := e2
  have s2 := RTS_f (by decide +kernel) f2 (RTS_f (by decide +kernel) f1 s)
  refine ⟨mu2, la2, ro2, ⟨⟨g2, r2, j2⟩, s2⟩, ?_⟩
  simp only [r_MLa_law_1425, r_MLa_law_1425n, r_MLa_law_1426, r_MLa_law_1426f, r_MLa_law_1427, r_MLa_law_1428, r_MLa_law_1429, r_MLa_law_1430, r_MLa_law_1430f, r_MLa_law_1431, r_MLa_law_1431f, r_MLa_law_1432, r_MLa_law_1433, r_MLa_law_1434, r_MLa_law_1435, r_MLa_law_1435f, r_MLa_law_1436, r_MLa_law_1436f, r_MLa_law_1437, r_MLa_law_1438, r_MLa_law_1439, r_MLa_law_1440, r_MLa_law_1440f, r_MLa_law_1441, r_MLa_law_1441f, r_MLa_law_1442, r_MLa_law_1443, r_MLa_law_1444, r_MLa_law_1445, r_MLa_law_1445f, r_MLa_law_1446, r_MLa_law_1446f, r_MLa_law_1447, r_MLa_law_1448, r_MLa_law_1449, r_MLa_law_1450, r_MLa_law_1450f, r_MLa_law_1451, r_MLa_law_1454, r_MLa_law_1455, r_MLa_law_1455n, r_MLa_law_1456, r_MLa_law_1456f, r_MLa_law_1457, r_MLa_law_1458, r_MLa_law_1459, r_MLa_law_1460, r_MLa_law_1460f, r_MLa_law_1461, r_MLa_law_1461f, r_MLa_law_1462, r_MLa_law_1463, r_MLa_law_1464, r_MLa_law_1465, r_MLa_law_1465f, r_MLa_law_1466, r_MLa_law_1466f, r_MLa_law_1467, r_MLa_law_1468, r_MLa_law_1469, r_MLa_law_1470, r_MLa_law_1470f, r_MLa_law_1471, r_MLa_law_1471f, r_MLa_law_1472, r_MLa_law_1473, r_MLa_law_1474, r_MLa_law_1475, r_MLa_law_1475f, r_MLa_law_1476, r_MLa_law_1476f, r_MLa_law_1477, r_MLa_law_1478, r_MLa_law_1479, r_MLa_law_1480, r_MLa_law_1480f, r_MLa_law_1481, r_MLa_law_1484, r_MLa_law_1485, sL_0, sL_1, sL_2, mk_i, mk_r, mk_f, mk_n, mk_u, mk_l, List.set_cons_succ, List.set_cons_zero, Nat.reduceAdd, ckS_0, ckS_1, ckS_2, ckS_3, ckS_4, Option.bind_some, Option.isSome_some, psh, if_true, if_false, i10, not_true_eq_false, not_false_eq_true, Bool.false_eq_true, and_self, and_true, true_and, eq_self, nI_1, a2, a3, a4, a5, c1, c2, c3, c4, c5, n1, n2, n3, n4, n5, qO_0, qO_81, w1, w2]
set_option maxHeartbeats 4000000 in
theorem lc_36_taken {L : Nat} {xs : Nat → Int32} {mu : Mu} {la : La} {ro : Ro} {et : Nat → Option va_E} {i : Nat} (hL : L ≤ 384) (hi : i + 6 ≤ L) (G : GR mu la ro) : ∃ mu2 la2 ro2, GR mu2 la2 ro2 ∧ Rr (XS L xs) 300 MLa_law 1488 [.float 0, .ref 0, .ref 81, .int (nI i)] [] (Wd mu la ro et) = Rr (XS L xs) 300 MLa_law 1544 [.float 0, .ref 0, .ref 81, .int (nI i)] [] (Wd mu2 la2 ro2 et) := by
  obtain ⟨⟨c1, n1⟩, ⟨a2, c2, n2⟩, ⟨a3, c3, n3⟩, ⟨a4, c4, n4⟩, ⟨a5, c5, n5⟩⟩ := ixs hi hL
  obtain ⟨⟨g, r, j⟩, s⟩ := G
  obtain ⟨v1, mu1, la1, ro1, e1, g1, r1, j1, f1, q1⟩ := (t394 XS_ok (hand_all XS_ex) JS_B) 299 [.ref 0, .int (xs (i + 1)), .int (xs (i + 2))] mu la ro (Nat.le_of_ble_eq_true rfl) ⟨rfl, ⟨_, rfl, i_lo _, i_hi _⟩, ⟨_, rfl, i_lo _, i_hi _⟩, trivial⟩ g r j
  obtain ⟨x1, rfl⟩ := res_i q1
  have w1 : Rr (XS L xs) 299 MTo_taken 0 [.ref 0, .int (xs (i + 1)), .int (xs (i + 2)), mkU, mkU] [] (Wd mu la ro et) = some (some (.int x1), Wd mu1 la1 ro1 et) := e1
  obtain ⟨v2, mu2, la2, ro2, e2, g2, r2, j2, f2, q2⟩ := (t468 XS_ok (hand_all XS_ex) JS_B) 299 [.ref 81, .int (xs (i + 1)), .int (xs (i + 2))] mu1 la1 ro1 (Nat.le_of_ble_eq_true rfl) ⟨rfl, ⟨_, rfl, i_lo _, i_hi _⟩, ⟨_, rfl, i_lo _, i_hi _⟩, trivial⟩ g1 r1 j1
  obtain ⟨x2, rfl⟩ := res_i q2
  have w2 : Rr (XS L xs) 299 MRm_taken 0 [.ref 81, .int (xs (i + 1)), .int (xs (i + 2))] [] (Wd mu1 la1 ro1 et) = some (some (.int x2), Wd mu2 la2 ro2 et) := e2
  have s2 := RTS_f (by decide +kernel) f2 (RTS_f (by decide +kernel) f1 s)
  refine ⟨mu2, la2, ro2, ⟨⟨g2, r2, j2⟩, s2⟩, ?_⟩
  simp only [r_MLa_law_1488, r_MLa_law_1488n, r_MLa_law_1489, r_MLa_law_1489f, r_MLa_law_1490, r_MLa_law_1491, r_MLa_law_1492, r_MLa_law_1493, r_MLa_law_1493f, r_MLa_law_1494, r_MLa_law_1494f, r_MLa_law_1495, r_MLa_law_1496, r_MLa_law_1497, r_MLa_law_1498, r_MLa_law_1498f, r_MLa_law_1499, r_MLa_law_1502, r_MLa_law_1503, r_MLa_law_1503n, r_MLa_law_1504, r_MLa_law_1504f, r_MLa_law_1505, r_MLa_law_1506, r_MLa_law_1507, r_MLa_law_1508, r_MLa_law_1508f, r_MLa_law_1509, r_MLa_law_1509f, r_MLa_law_1510, r_MLa_law_1511, r_MLa_law_1512, r_MLa_law_1513, r_MLa_law_1513f, r_MLa_law_1514, r_MLa_law_1517, r_MLa_law_1518, sL_0, sL_1, sL_2, mk_i, mk_r, mk_f, mk_n, mk_u, mk_l, List.set_cons_succ, List.set_cons_zero, Nat.reduceAdd, ckS_0, ckS_1, ckS_2, ckS_3, ckS_4, Option.bind_some, Option.isSome_some, psh, if_true, if_false, i10, not_true_eq_false, not_false_eq_true, Bool.false_eq_true, and_self, and_true, true_and, eq_self, nI_1, a2, a3, a4, a5, c1, c2, c3, c4, c5, n1, n2, n3, n4, n5, qO_0, qO_81, w1, w2]
set_option maxHeartbeats 4000000 in
theorem lc_37_count {L : Nat} {xs : Nat → Int32} {mu : Mu} {la : La} {ro : Ro} {et : Nat → Option va_E} {i : Nat} (hL : L ≤ 384) (hi : i + 6 ≤ L) (G : GR mu la ro) : ∃ mu2 la2 ro2, GR mu2 la2 ro2 ∧ Rr (XS L xs) 300 MLa_law 1521 [.float 0, .ref 0, .ref 81, .int (nI i)] [] (Wd mu la ro et) = Rr (XS L xs) 300 MLa_law 1544 [.float 0, .ref 0, .ref 81, .int (nI i)] [] (Wd mu2 la2 ro2 et) := by
  obtain ⟨⟨c1, n1⟩, ⟨a2, c2, n2⟩, ⟨a3, c3, n3⟩, ⟨a4, c4, n4⟩, ⟨a5, c5, n5⟩⟩ := ixs hi hL
  obtain ⟨⟨g, r, j⟩, s⟩ := G
  obtain ⟨v1, mu1, la1, ro1, e1, g1, r1, j1, f1, q1⟩ := (t395 XS_ok (hand_all XS_ex) JS_B) 299 [.ref 0, .int (xs (i + 1))] mu la ro (Nat.le_of_ble_eq_true rfl) ⟨rfl, ⟨_, rfl, i_lo _, i_hi _⟩, trivial⟩ g r j
  obtain ⟨x1, rfl⟩ := res_i q1
  have w1 : Rr (XS L xs) 299 MTo_count 0 [.ref 0, .int (xs (i + 1))] [] (Wd mu la ro et) = some (some (.int x1), Wd mu1 la1 ro1 et) := e1
  obtain ⟨v2, mu2, la2, ro2, e2, g2, r2, j2, f2, q2⟩ := (t463 XS_ok (hand_all XS_ex) JS_B) 299 [.ref 81, .int (xs (i + 1))] mu1 la1 ro1 (Nat.le_of_ble_eq_true rfl) ⟨rfl, ⟨_, rfl, i_lo _, i_hi _⟩, trivial⟩ g1 r1 j1
  obtain ⟨x2, rfl⟩ := res_i q2
  have w2 : Rr (XS L xs) 299 MRm_count 0 [.ref 81, .int (xs (i + 1))] [] (Wd mu1 la1 ro1 et) = some (some (.int x2), Wd mu2 la2 ro2 et) := e2
  have s2 := RTS_f (by decide +kernel) f2 (RTS_f (by decide +kernel) f1 s)
  refine ⟨mu2, la2, ro2, ⟨⟨g2, r2, j2⟩, s2⟩, ?_⟩
  simp only [r_MLa_law_1521, r_MLa_law_1521n, r_MLa_law_1522, r_MLa_law_1522f, r_MLa_law_1523, r_MLa_law_1524, r_MLa_law_1525, r_MLa_law_1526, r_MLa_law_1526f, r_MLa_law_1527, r_MLa_law_1530, r_MLa_law_1531, r_MLa_law_1531n, r_MLa_law_1532, r_MLa_law_1532f, r_MLa_law_1533, r_MLa_law_1534, r_MLa_law_1535, r_MLa_law_1536, r_MLa_law_1536f, r_MLa_law_1537, r_MLa_law_1540, r_MLa_law_1541, sL_0, sL_1, sL_2, mk_i, mk_r, mk_f, mk_n, mk_u, mk_l, List.set_cons_succ, List.set_cons_zero, Nat.reduceAdd, ckS_0, ckS_1, ckS_2, ckS_3, ckS_4, Option.bind_some, Option.isSome_some, psh, if_true, if_false, i10, not_true_eq_false, not_false_eq_true, Bool.false_eq_true, and_self, and_true, true_and, eq_self, nI_1, a2, a3, a4, a5, c1, c2, c3, c4, c5, n1, n2, n3, n4, n5, qO_0, qO_81, w1, w2]
theorem in37 {x : Int32} : (x.toInt < 0 ∨ 37 < x.toInt) ∨ ∃ k : Nat, k < 38 ∧ x = nI k := by
  by_cases h : x.toInt < 0 ∨ 37 < x.toInt
  · exact Or.inl h
  · refine Or.inr ⟨x.toInt.toNat, by omega, Int32.toInt_inj.mp ?_⟩
    rw [nI_toInt (by omega)]
    omega
theorem lc_all {L : Nat} {xs : Nat → Int32} {mu : Mu} {la : La} {ro : Ro} {et : Nat → Option va_E} {i : Nat} (hL : L ≤ 384) (hi : i + 6 ≤ L) (G : GR mu la ro) (x : Int32) : ∃ mu2 la2 ro2, GR mu2 la2 ro2 ∧ Rr (XS L xs) 300 MLa_law 33 [.float 0, .ref 0, .ref 81, .int (nI i)] [.int x] (Wd mu la ro et) = Rr (XS L xs) 300 MLa_law 1544 [.float 0, .ref 0, .ref 81, .int (nI i)] [] (Wd mu2 la2 ro2 et) := by
  rcases in37 (x := x) with h | ⟨k, hk, rfl⟩
  · exact ⟨mu, la, ro, G, r_MLa_law_33D h⟩
  · match k, hk with
    | 0, _ => exact (r_MLa_law_33_0 (X := XS L xs) (d := 300) (st := []) (L := [.float 0, .ref 0, .ref 81, .int (nI i)]) (h := Wd mu la ro et)) ▸ lc_0_feed hL hi G
    | 1, _ => exact (r_MLa_law_33_1 (X := XS L xs) (d := 300) (st := []) (L := [.float 0, .ref 0, .ref 81, .int (nI i)]) (h := Wd mu la ro et)) ▸ lc_1_stone hL hi G
    | 2, _ => exact (r_MLa_law_33_2 (X := XS L xs) (d := 300) (st := []) (L := [.float 0, .ref 0, .ref 81, .int (nI i)]) (h := Wd mu la ro et)) ▸ lc_2_of hL hi G
    | 3, _ => exact (r_MLa_law_33_3 (X := XS L xs) (d := 300) (st := []) (L := [.float 0, .ref 0, .ref 81, .int (nI i)]) (h := Wd mu la ro et)) ▸ lc_3_lump hL hi G
    | 4, _ => exact (r_MLa_law_33_4 (X := XS L xs) (d := 300) (st := []) (L := [.float 0, .ref 0, .ref 81, .int (nI i)]) (h := Wd mu la ro et)) ▸ lc_4_set hL hi G
    | 5, _ => exact (r_MLa_law_33_5 (X := XS L xs) (d := 300) (st := []) (L := [.float 0, .ref 0, .ref 81, .int (nI i)]) (h := Wd mu la ro et)) ▸ lc_5_floor hL hi G
    | 6, _ => exact (r_MLa_law_33_6 (X := XS L xs) (d := 300) (st := []) (L := [.float 0, .ref 0, .ref 81, .int (nI i)]) (h := Wd mu la ro et)) ▸ lc_6_grows hL hi G
    | 7, _ => exact (r_MLa_law_33_7 (X := XS L xs) (d := 300) (st := []) (L := [.float 0, .ref 0, .ref 81, .int (nI i)]) (h := Wd mu la ro et)) ▸ lc_7_roll hL hi G
    | 8, _ => exact (r_MLa_law_33_8 (X := XS L xs) (d := 300) (st := []) (L := [.float 0, .ref 0, .ref 81, .int (nI i)]) (h := Wd mu la ro et)) ▸ lc_8_going hL hi G
    | 9, _ => exact (r_MLa_law_33_9 (X := XS L xs) (d := 300) (st := []) (L := [.float 0, .ref 0, .ref 81, .int (nI i)]) (h := Wd mu la ro et)) ▸ lc_9_back hL hi G
    | 10, _ => exact (r_MLa_law_33_10 (X := XS L xs) (d := 300) (st := []) (L := [.float 0, .ref 0, .ref 81, .int (nI i)]) (h := Wd mu la ro et)) ▸ lc_10_told hL hi G
    | 11, _ => exact (r_MLa_law_33_11 (X := XS L xs) (d := 300) (st := []) (L := [.float 0, .ref 0, .ref 81, .int (nI i)]) (h := Wd mu la ro et)) ▸ lc_11_even hL hi G
    | 12, _ => exact (r_MLa_law_33_12 (X := XS L xs) (d := 300) (st := []) (L := [.float 0, .ref 0, .ref 81, .int (nI i)]) (h := Wd mu la ro et)) ▸ lc_12_soonest hL hi G
    | 13, _ => exact (r_MLa_law_33_13 (X := XS L xs) (d := 300) (st := []) (L := [.float 0, .ref 0, .ref 81, .int (nI i)]) (h := Wd mu la ro et)) ▸ lc_13_screws hL hi G
    | 14, _ => exact (r_MLa_law_33_14 (X := XS L xs) (d := 300) (st := []) (L := [.float 0, .ref 0, .ref 81, .int (nI i)]) (h := Wd mu la ro et)) ▸ lc_14_lightest hL hi G
    | 15, _ => exact (r_MLa_law_33_15 (X := XS L xs) (d := 300) (st := []) (L := [.float 0, .ref 0, .ref 81, .int (nI i)]) (h := Wd mu la ro et)) ▸ lc_15_seen hL hi G
    | 16, _ => exact (r_MLa_law_33_16 (X := XS L xs) (d := 300) (st := []) (L := [.float 0, .ref 0, .ref 81, .int (nI i)]) (h := Wd mu la ro et)) ▸ lc_16_pressed hL hi G
    | 17, _ => exact (r_MLa_law_33_17 (X := XS L xs) (d := 300) (st := []) (L := [.float 0, .ref 0, .ref 81, .int (nI i)]) (h := Wd mu la ro et)) ▸ lc_17_hands hL hi G
    | 18, _ => exact (r_MLa_law_33_18 (X := XS L xs) (d := 300) (st := []) (L := [.float 0, .ref 0, .ref 81, .int (nI i)]) (h := Wd mu la ro et)) ▸ lc_18_frame hL hi G
    | 19, _ => exact (r_MLa_law_33_19 (X := XS L xs) (d := 300) (st := []) (L := [.float 0, .ref 0, .ref 81, .int (nI i)]) (h := Wd mu la ro et)) ▸ lc_19_frames hL hi G
    | 20, _ => exact (r_MLa_law_33_20 (X := XS L xs) (d := 300) (st := []) (L := [.float 0, .ref 0, .ref 81, .int (nI i)]) (h := Wd mu la ro et)) ▸ lc_20_cut hL hi G
    | 21, _ => exact (r_MLa_law_33_21 (X := XS L xs) (d := 300) (st := []) (L := [.float 0, .ref 0, .ref 81, .int (nI i)]) (h := Wd mu la ro et)) ▸ lc_21_off hL hi G
    | 22, _ => exact (r_MLa_law_33_22 (X := XS L xs) (d := 300) (st := []) (L := [.float 0, .ref 0, .ref 81, .int (nI i)]) (h := Wd mu la ro et)) ▸ lc_22_shape hL hi G
    | 23, _ => exact (r_MLa_law_33_23 (X := XS L xs) (d := 300) (st := []) (L := [.float 0, .ref 0, .ref 81, .int (nI i)]) (h := Wd mu la ro et)) ▸ lc_23_span hL hi G
    | 24, _ => exact (r_MLa_law_33_24 (X := XS L xs) (d := 300) (st := []) (L := [.float 0, .ref 0, .ref 81, .int (nI i)]) (h := Wd mu la ro et)) ▸ lc_24_which hL hi G
    | 25, _ => exact (r_MLa_law_33_25 (X := XS L xs) (d := 300) (st := []) (L := [.float 0, .ref 0, .ref 81, .int (nI i)]) (h := Wd mu la ro et)) ▸ lc_25_chance hL hi G
    | 26, _ => exact (r_MLa_law_33_26 (X := XS L xs) (d := 300) (st := []) (L := [.float 0, .ref 0, .ref 81, .int (nI i)]) (h := Wd mu la ro et)) ▸ lc_26_undo hL hi G
    | 27, _ => exact (r_MLa_law_33_27 (X := XS L xs) (d := 300) (st := []) (L := [.float 0, .ref 0, .ref 81, .int (nI i)]) (h := Wd mu la ro et)) ▸ lc_27_redo hL hi G
    | 28, _ => exact (r_MLa_law_33_28 (X := XS L xs) (d := 300) (st := []) (L := [.float 0, .ref 0, .ref 81, .int (nI i)]) (h := Wd mu la ro et)) ▸ lc_28_body hL hi G
    | 29, _ => exact (r_MLa_law_33_29 (X := XS L xs) (d := 300) (st := []) (L := [.float 0, .ref 0, .ref 81, .int (nI i)]) (h := Wd mu la ro et)) ▸ lc_29_act hL hi G
    | 30, _ => exact (r_MLa_law_33_30 (X := XS L xs) (d := 300) (st := []) (L := [.float 0, .ref 0, .ref 81, .int (nI i)]) (h := Wd mu la ro et)) ▸ lc_30_trace hL hi G
    | 31, _ => exact (r_MLa_law_33_31 (X := XS L xs) (d := 300) (st := []) (L := [.float 0, .ref 0, .ref 81, .int (nI i)]) (h := Wd mu la ro et)) ▸ lc_31_keep hL hi G
    | 32, _ => exact (r_MLa_law_33_32 (X := XS L xs) (d := 300) (st := []) (L := [.float 0, .ref 0, .ref 81, .int (nI i)]) (h := Wd mu la ro et)) ▸ lc_32_row hL hi G
    | 33, _ => exact (r_MLa_law_33_33 (X := XS L xs) (d := 300) (st := []) (L := [.float 0, .ref 0, .ref 81, .int (nI i)]) (h := Wd mu la ro et)) ▸ lc_33_put hL hi G
    | 34, _ => exact (r_MLa_law_33_34 (X := XS L xs) (d := 300) (st := []) (L := [.float 0, .ref 0, .ref 81, .int (nI i)]) (h := Wd mu la ro et)) ▸ lc_34_element hL hi G
    | 35, _ => exact (r_MLa_law_33_35 (X := XS L xs) (d := 300) (st := []) (L := [.float 0, .ref 0, .ref 81, .int (nI i)]) (h := Wd mu la ro et)) ▸ lc_35_shift hL hi G
    | 36, _ => exact (r_MLa_law_33_36 (X := XS L xs) (d := 300) (st := []) (L := [.float 0, .ref 0, .ref 81, .int (nI i)]) (h := Wd mu la ro et)) ▸ lc_36_taken hL hi G
    | 37, _ => exact (r_MLa_law_33_37 (X := XS L xs) (d := 300) (st := []) (L := [.float 0, .ref 0, .ref 81, .int (nI i)]) (h := Wd mu la ro et)) ▸ lc_37_count hL hi G
    | k + 38, h => exact absurd h (by omega)
set_option maxHeartbeats 4000000 in
theorem law_loop {L : Nat} {xs : Nat → Int32} {et : Nat → Option va_E} (hL : L ≤ 384) : ∀ (n i : Nat) (mu : Mu) (la : La) (ro : Ro), i ≤ 390 → L ≤ i + n → GR mu la ro → ∃ h', Rr (XS L xs) 300 MLa_law 18 [.float 0, .ref 0, .ref 81, .int (nI i)] [] (Wd mu la ro et) = some (some (.int 1), h') ∧ h'.1 ≤ 10000 := by
  intro n
  have eL : Int32.ofNat L = nI L := rfl
  have ex : ∀ (i : Nat) (mu : Mu) (la : La) (ro : Ro), i ≤ 390 → ¬ i + 6 ≤ L → ∃ h', Rr (XS L xs) 300 MLa_law 18 [.float 0, .ref 0, .ref 81, .int (nI i)] [] (Wd mu la ro et) = some (some (.int 1), h') ∧ h'.1 ≤ 10000 := by
    intro i mu la ro h0 hi
    have h1 : nI L - 6 < nI i := by
      have e : (nI L - 6).toInt = (L : Int) - 6 := by
        rw [Int32.toInt_sub, nI_toInt (by omega), show (6 : Int32).toInt = 6 from rfl]
        exact Int.bmod_eq_of_le (by omega) (by omega)
      rw [Int32.lt_iff_toInt_lt, e, nI_toInt (by omega)]
      omega
    refine ⟨Wd mu la ro et, ?_, by show 111 ≤ 10000; decide⟩
    simp only [r_MLa_law_18, r_MLa_law_19, r_MLa_law_19f, r_MLa_law_20, r_MLa_law_20f, r_MLa_law_21, r_MLa_law_23, r_MLa_law_24, r_MLa_law_27, r_MLa_law_27f, r_MLa_law_28, r_MLa_law_29, r_MLa_law_29f, r_MLa_law_30, r_MLa_law_32, r_MLa_law_1550, r_MLa_law_1551, sL_0, sL_1, sL_2, mk_i, mk_r, mk_f, mk_n, mk_u, mk_l, List.set_cons_succ, List.set_cons_zero, Nat.reduceAdd, ckS_0, ckS_1, ckS_2, ckS_3, ckS_4, Option.bind_some, Option.isSome_some, psh, if_true, if_false, i10, not_true_eq_false, not_false_eq_true, Bool.false_eq_true, and_self, and_true, true_and, eq_self, eL, h1, or_true]
  induction n with
  | zero => intro i mu la ro h0 hi G; exact ex i mu la ro h0 (by omega)
  | succ n ih =>
    intro i mu la ro h0 hi G
    by_cases c : i + 6 ≤ L
    · have h1 : ¬ nI L - 6 < nI i := by
        rw [show nI L - 6 = nI (L - 6) from pk_sub (a := L) (b := 6) (by omega)]
        exact nI_nlt (by omega) (by omega)
      have c0 : (nI i).toNatClampNeg = i := nI_clamp (by omega)
      have n0 : ¬ (nI i < 0 ∨ L ≤ i) := ix (by omega) (by omega)
      obtain ⟨mu2, la2, ro2, G2, e⟩ := lc_all (xs := xs) (et := et) hL c G (xs i &&& 63)
      obtain ⟨h', e2, hz⟩ := ih (i + 6) mu2 la2 ro2 (by omega) (by omega) G2
      refine ⟨h', ?_, hz⟩
      have a6 : nI i + 6 = nI (i + 6) := nI_add i 6
      rw [r_MLa_law_18]
      simp only [r_MLa_law_19, r_MLa_law_19f, r_MLa_law_20, r_MLa_law_20f, r_MLa_law_21, r_MLa_law_23, r_MLa_law_24, r_MLa_law_27, r_MLa_law_27f, r_MLa_law_28, r_MLa_law_29, r_MLa_law_29f, r_MLa_law_30, r_MLa_law_32, sL_0, sL_1, sL_2, mk_i, mk_r, mk_f, mk_n, mk_u, mk_l, List.set_cons_succ, List.set_cons_zero, Nat.reduceAdd, ckS_0, ckS_1, ckS_2, ckS_3, ckS_4, Option.bind_some, Option.isSome_some, psh, if_true, if_false, i10, not_true_eq_false, not_false_eq_true, Bool.false_eq_true, and_self, and_true, true_and, eq_self, eL, h1, c0, n0, e]
      rw [r_MLa_law_1544]
      simp only [r_MLa_law_1547, sL_0, sL_1, sL_2, mk_i, mk_r, mk_f, mk_n, mk_u, mk_l, List.set_cons_succ, List.set_cons_zero, Nat.reduceAdd, ckS_0, ckS_1, ckS_2, ckS_3, ckS_4, Option.bind_some, Option.isSome_some, psh, if_true, if_false, a6]
      exact e2
    · exact ex i mu la ro h0 c
theorem law_run {L : Nat} {xs : Nat → Int32} (hL : L ≤ 384) : ∃ (f : Nat) (h' : Hp), run (XS L xs) f 300 MLa_law 0 (ent MLa_law [.float 0]) [] (0, fun _ => none) = some (some (.int 1), h') ∧ h'.1 ≤ 10000 := by
  obtain ⟨mu, la, ro, et, G, i1, i2, e⟩ := law_to18 (L := L) (xs := xs)
  have G : GR mu la ro := ⟨G, ⟨⟨⟨0, by omega, i1 1 (by decide) 1 (by decide) rfl, i1 81 (by decide) 2 (by decide) rfl, fun i hi => absurd hi (by omega)⟩, ⟨0, by omega, i1 0 (by decide) 10 (by decide) rfl, i1 81 (by decide) 29 (by decide) rfl⟩, 0, by omega, i1 0 (by decide) 9 (by decide) rfl, i1 81 (by decide) 3 (by decide) rfl⟩, 0, 0, 0, ⟨by omega, by omega⟩, i1 0 (by decide) 9 (by decide) rfl, i1 81 (by decide) 3 (by decide) rfl, i1 81 (by decide) 9 (by decide) rfl, fun S hS => absurd hS (by omega), ⟨i1 14 (by decide) 1 (by decide) rfl, i1 14 (by decide) 2 (by decide) rfl, i1 81 (by decide) 12 (by decide) rfl, i1 81 (by decide) 13 (by decide) rfl⟩, fun i hi => absurd hi (by omega)⟩⟩
  obtain ⟨h', e2, hz⟩ := law_loop (xs := xs) (et := et) hL 384 0 mu la ro (by omega) (by omega) G
  obtain ⟨f, hf⟩ := (Rr_iff _).mp (e.trans e2)
  exact ⟨f, h', hf, hz⟩
