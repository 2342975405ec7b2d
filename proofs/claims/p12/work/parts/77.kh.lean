-- ===== a going, tick by tick: the model's push, its losses; both sides one step
section
variable {X : Tok} {d : Nat} {mu m m' m1 mu' : Mu} {la la' : La} {ro ro' : Ro} {et : Nat → Option va_E} {a F n i j S : Nat} {k x y z s r sz rt lo hi p q w v pc ca cb cc cd t fl : Int32} {T T' G : Nat → Int32} {ls : List Ln} {f : Option Nat} {LS : Nat → List Ln}
theorem sg_p (h : 0 < k) (s x : Int32) : s - sgF k * x = s - x ∧ s + sgF k * x = s + x := by
  have e : sgF k = 1 := by unfold sgF; rw [if_pos h]
  rw [e, Int32.one_mul]
  exact ⟨rfl, rfl⟩
theorem sg_n (h : k < 0) (s x : Int32) : s - sgF k * x = s + x ∧ s + sgF k * x = s - x := by
  have e : sgF k = -1 := by
    unfold sgF
    rw [if_neg (fun q => absurd (Int32.lt_trans h q) Int32.lt_irrefl), if_pos h]
  rw [e, ← Int32.neg_eq_neg_one_mul, Int32.sub_eq_add_neg, Int32.neg_neg]
  exact ⟨rfl, (Int32.sub_eq_add_neg _ _).symm⟩
set_option maxHeartbeats 4000000 in
theorem go_2 {x5 x6 : Int32} {l7 l8 l9 : Value} (hS : S < 6) (h2 : m 87 (4 * S + 2) = cc) (h3 : m 87 (4 * S + 3) = cd) : ∃ l7' l8' : Value, Rr X (d + 5) MRm_go 222 [.ref 81, .int (nI S), .int k, .int fl, .int t, .int x5, .int x6, l7, l8, l9] [] (Wd (moG m (gG T)) la ro et) = Rr X (d + 5) MRm_go 356 [.ref 81, .int (nI S), .int k, .int fl, .int t, .int x5, .int x6, l7', l8', l9] [] (Wd (moG m (gG (phT k cc cd T))) la ro et) := by
  have v30 : ∀ T, moG m (gG T) 81 30 = T 7 := fun T => mg_v (by omega) (by omega)
  have v31 : ∀ T, moG m (gG T) 81 31 = T 8 := fun T => mg_v (by omega) (by omega)
  have v32 : ∀ T, moG m (gG T) 81 32 = T 9 := fun T => mg_v (by omega) (by omega)
  have u30 : ∀ T x, up2 (moG m (gG T)) 81 30 x = moG m (gG (upd T 7 x)) := fun T x => mg_up (by omega)
  have u31 : ∀ T x, up2 (moG m (gG T)) 81 31 x = moG m (gG (upd T 8 x)) := fun T x => mg_up (by omega)
  have u32 : ∀ T x, up2 (moG m (gG T)) 81 32 x = moG m (gG (upd T 9 x)) := fun T x => mg_up (by omega)
  have n87 : ∀ T j, moG m (gG T) 87 j = m 87 j := fun T j => mg_o (by decide)
  have e40 : (4 : Int32) * nI S = nI (4 * S) := (Int32.ofNat_mul 4 S).symm
  have e42 : nI (4 * S) + 2 = nI (4 * S + 2) := nI_add (4 * S) 2
  have e43 : nI (4 * S) + 3 = nI (4 * S + 3) := nI_add (4 * S) 3
  have c2 : (nI (4 * S + 2)).toNatClampNeg = 4 * S + 2 := nI_clamp (by omega)
  have c3 : (nI (4 * S + 3)).toNatClampNeg = 4 * S + 3 := nI_clamp (by omega)
  have i2 := ix (j := 4 * S + 2) (N := 28) (by omega) (by decide)
  have i3 := ix (j := 4 * S + 3) (N := 28) (by omega) (by decide)
  have z : ((100 : Int32) = 0) = False := eq_false (by decide)
  have hh : ∀ m x, Rr X (d + 4) MRm_held 0 [.int x, .int (-9999), .int 9999] [] (Wd m la ro et) = some (some (.int (htF x)), Wd m la ro et) := fun m x => e_heldM (by decide)
  have d79 : ((7 : Nat) = 9) = False := by simp
  have d78 : ((7 : Nat) = 8) = False := by simp
  have d97 : ((9 : Nat) = 7) = False := by simp
  have d98 : ((9 : Nat) = 8) = False := by simp
  unfold phT
  by_cases c : k = 0
  · rw [if_pos c]
    refine ⟨l7, l8, ?_⟩
    simp only [r_MRm_go_222, r_MRm_go_223, sL_0, sL_1, sL_2, mk_i, mk_r, mk_f, mk_n, mk_u, mk_l, List.set_cons_succ, List.set_cons_zero, Nat.reduceAdd, ckS_0, ckS_1, ckS_2, ckS_3, ckS_4, Option.bind_some, Option.isSome_some, psh, if_true, if_false, i10, not_true_eq_false, not_false_eq_true, Bool.false_eq_true, and_self, and_true, true_and, eq_self, c]
  · rw [if_neg c]
    by_cases cp : 0 < k
    · have cp' : ¬ k ≤ 0 := Int32.not_le.mpr cp
      have s1 := fun s x => (sg_p cp s x).1
      have s2 := fun s x => (sg_p cp s x).2
      refine ⟨.int (T 8 * cc / 100), .int (T 9 * cd / 100), ?_⟩
      simp only [r_MRm_go_222, r_MRm_go_223, r_MRm_go_226, r_MRm_go_227, r_MRm_go_230, r_MRm_go_231, r_MRm_go_234, r_MRm_go_235, r_MRm_go_236, r_MRm_go_237, r_MRm_go_238, r_MRm_go_239, r_MRm_go_240, r_MRm_go_241, r_MRm_go_243, r_MRm_go_244, r_MRm_go_246, r_MRm_go_247, r_MRm_go_247i, r_MRm_go_248, r_MRm_go_251, r_MRm_go_253, r_MRm_go_254, r_MRm_go_257, r_MRm_go_258, r_MRm_go_259, r_MRm_go_262, r_MRm_go_263, r_MRm_go_266, r_MRm_go_268, r_MRm_go_269, r_MRm_go_272, r_MRm_go_273, r_MRm_go_276, r_MRm_go_278, r_MRm_go_279, r_MRm_go_282, r_MRm_go_285, r_MRm_go_288, r_MRm_go_291, r_MRm_go_292, r_MRm_go_295, r_MRm_go_296, r_MRm_go_299, r_MRm_go_300, r_MRm_go_301, r_MRm_go_302, r_MRm_go_303, r_MRm_go_304, r_MRm_go_305, r_MRm_go_306, r_MRm_go_308, r_MRm_go_309, r_MRm_go_311, r_MRm_go_312, r_MRm_go_312i, r_MRm_go_313, r_MRm_go_316, r_MRm_go_318, r_MRm_go_319, r_MRm_go_322, r_MRm_go_323, r_MRm_go_324, r_MRm_go_327, r_MRm_go_328, r_MRm_go_331, r_MRm_go_333, r_MRm_go_334, r_MRm_go_337, r_MRm_go_338, r_MRm_go_341, r_MRm_go_343, r_MRm_go_344, r_MRm_go_347, r_MRm_go_350, r_MRm_go_353, sL_0, sL_1, sL_2, mk_i, mk_r, mk_f, mk_n, mk_u, mk_l, List.set_cons_succ, List.set_cons_zero, Nat.reduceAdd, ckS_0, ckS_1, ckS_2, ckS_3, ckS_4, Option.bind_some, Option.isSome_some, psh, if_true, if_false, i10, not_true_eq_false, not_false_eq_true, Bool.false_eq_true, and_self, and_true, true_and, eq_self, qI_81_0, qI_81_2, qI_81_3, qI_81_9, qI_81_10, qI_81_11, qI_81_12, qI_81_13, qI_81_18, qI_81_19, qI_81_20, qI_81_21, qI_81_29, qI_81_30, qI_81_31, qI_81_32, qI_81_33, qI_81_34, qI_81_35, qI_81_39, qI_81_40, qI_81_41, qI_81_42, qI_81_43, qI_81_44, qI_81_45, qI_81_46, qI_81_47, qI_81_51, qI_81_53, qR_81_1, qRd_81_1, qR_81_4, qRd_81_4, qR_81_5, qRd_81_5, qR_81_6, qRd_81_6, qR_81_7, qRd_81_7, qR_81_8, qRd_81_8, qR_81_14, qRd_81_14, qR_81_15, qRd_81_15, qR_81_16, qRd_81_16, qR_81_17, qRd_81_17, qR_81_22, qRd_81_22, qR_81_23, qRd_81_23, qR_81_24, qRd_81_24, qR_81_25, qRd_81_25, qR_81_26, qRd_81_26, qR_81_27, qRd_81_27, qR_81_28, qRd_81_28, qR_81_36, qRd_81_36, qR_81_37, qRd_81_37, qR_81_38, qRd_81_38, qR_81_48, qRd_81_48, qR_81_49, qRd_81_49, qR_81_50, qRd_81_50, qR_81_52, qRd_81_52, qR_81_54, qRd_81_54, qR_81_55, qRd_81_55, qR_81_56, qRd_81_56, qR_81_57, qRd_81_57, qR_81_58, qRd_81_58, qA_87, qAd_87, qO_81, qL_87, qLd_87, c, cp', s1, s2, v30, v31, v32, u30, u31, u32, n87, e40, e42, e43, c2, c3, i2, i3, h2, h3, z, hh, upd_e, d79, d78, d97, d98]
    · have cp' : k ≤ 0 := Int32.not_lt.mp cp
      have cn : k < 0 := by
        have e0 : (0 : Int32).toInt = 0 := rfl
        rw [Int32.lt_iff_toInt_lt, e0] at cp ⊢
        have : ¬ k.toInt = 0 := fun q => c (Int32.toInt_inj.mp (by rw [e0]; exact q))
        omega
      have s1 := fun s x => (sg_n cn s x).1
      have s2 := fun s x => (sg_n cn s x).2
      refine ⟨.int (T 8 * cc / 100), .int (T 9 * cd / 100), ?_⟩
      simp only [r_MRm_go_222, r_MRm_go_223, r_MRm_go_226, r_MRm_go_227, r_MRm_go_230, r_MRm_go_231, r_MRm_go_234, r_MRm_go_235, r_MRm_go_236, r_MRm_go_237, r_MRm_go_238, r_MRm_go_239, r_MRm_go_240, r_MRm_go_241, r_MRm_go_243, r_MRm_go_244, r_MRm_go_246, r_MRm_go_247, r_MRm_go_247i, r_MRm_go_248, r_MRm_go_251, r_MRm_go_253, r_MRm_go_254, r_MRm_go_257, r_MRm_go_258, r_MRm_go_259, r_MRm_go_262, r_MRm_go_263, r_MRm_go_266, r_MRm_go_268, r_MRm_go_269, r_MRm_go_272, r_MRm_go_273, r_MRm_go_276, r_MRm_go_278, r_MRm_go_279, r_MRm_go_282, r_MRm_go_285, r_MRm_go_288, r_MRm_go_291, r_MRm_go_292, r_MRm_go_295, r_MRm_go_296, r_MRm_go_299, r_MRm_go_300, r_MRm_go_301, r_MRm_go_302, r_MRm_go_303, r_MRm_go_304, r_MRm_go_305, r_MRm_go_306, r_MRm_go_308, r_MRm_go_309, r_MRm_go_311, r_MRm_go_312, r_MRm_go_312i, r_MRm_go_313, r_MRm_go_316, r_MRm_go_318, r_MRm_go_319, r_MRm_go_322, r_MRm_go_323, r_MRm_go_324, r_MRm_go_327, r_MRm_go_328, r_MRm_go_331, r_MRm_go_333, r_MRm_go_334, r_MRm_go_337, r_MRm_go_338, r_MRm_go_341, r_MRm_go_343, r_MRm_go_344, r_MRm_go_347, r_MRm_go_350, r_MRm_go_353, sL_0, sL_1, sL_2, mk_i, mk_r, mk_f, mk_n, mk_u, mk_l, List.set_cons_succ, List.set_cons_zero, Nat.reduceAdd, ckS_0, ckS_1, ckS_2, ckS_3, ckS_4, Option.bind_some, Option.isSome_some, psh, if_true, if_false, i10, not_true_eq_false, not_false_eq_true, Bool.false_eq_true, and_self, and_true, true_and, eq_self, qI_81_0, qI_81_2, qI_81_3, qI_81_9, qI_81_10, qI_81_11, qI_81_12, qI_81_13, qI_81_18, qI_81_19, qI_81_20, qI_81_21, qI_81_29, qI_81_30, qI_81_31, qI_81_32, qI_81_33, qI_81_34, qI_81_35, qI_81_39, qI_81_40, qI_81_41, qI_81_42, qI_81_43, qI_81_44, qI_81_45, qI_81_46, qI_81_47, qI_81_51, qI_81_53, qR_81_1, qRd_81_1, qR_81_4, qRd_81_4, qR_81_5, qRd_81_5, qR_81_6, qRd_81_6, qR_81_7, qRd_81_7, qR_81_8, qRd_81_8, qR_81_14, qRd_81_14, qR_81_15, qRd_81_15, qR_81_16, qRd_81_16, qR_81_17, qRd_81_17, qR_81_22, qRd_81_22, qR_81_23, qRd_81_23, qR_81_24, qRd_81_24, qR_81_25, qRd_81_25, qR_81_26, qRd_81_26, qR_81_27, qRd_81_27, qR_81_28, qRd_81_28, qR_81_36, qRd_81_36, qR_81_37, qRd_81_37, qR_81_38, qRd_81_38, qR_81_48, qRd_81_48, qR_81_49, qRd_81_49, qR_81_50, qRd_81_50, qR_81_52, qRd_81_52, qR_81_54, qRd_81_54, qR_81_55, qRd_81_55, qR_81_56, qRd_81_56, qR_81_57, qRd_81_57, qR_81_58, qRd_81_58, qA_87, qAd_87, qO_81, qL_87, qLd_87, c, cp', s1, s2, v30, v31, v32, u30, u31, u32, n87, e40, e42, e43, c2, c3, i2, i3, h2, h3, z, hh, upd_e, d79, d78, d97, d98]
set_option maxHeartbeats 4000000 in
theorem go_3 {x5 x6 : Int32} {l7 l8 l9 : Value} (hn : n ≤ 4) (hs : SitM fl n f pc) (hA : AllM m LS n) (hb : Bd T) (ht : T 10 = t) : ∃ m', Rr X (d + 5) MRm_go 356 [.ref 81, .int (nI S), .int k, .int fl, .int t, .int x5, .int x6, l7, l8, l9] [] (Wd (moG m (gG T)) la ro et) = some (none, Wd (moG m' (gG (lsT (flO LS f) pc T))) la ro et) ∧ (∀ c j, ¬ c = 97 → ¬ c = 98 → m' c j = m c j) := by
  obtain ⟨h7, h8, h9⟩ := hb
  have ha := ab_b h7
  obtain ⟨m1, t1, o1⟩ := e_takenBy (X := X) (d := d) (m := m) (T := T) (la := la) (ro := ro) (et := et) (w := 0) (v := abF (T 7)) (t := t) hn hs hA ⟨ha.1, ha.2.1⟩
  have A1 : AllM m1 LS n := AllM_k (fun c j h1 h2 => o1 c j (by omega) (by omega)) hA
  obtain ⟨m2, t2, o2⟩ := e_takenBy (X := X) (d := d) (m := m1) (T := T) (la := la) (ro := ro) (et := et) (w := 1) (v := T 8) (t := t) hn hs A1 h8
  have A2 : AllM m2 LS n := AllM_k (fun c j h1 h2 => o2 c j (by omega) (by omega)) A1
  obtain ⟨m3, t3, o3⟩ := e_takenBy (X := X) (d := d) (m := m2) (T := T) (la := la) (ro := ro) (et := et) (w := 2) (v := T 9) (t := t) hn hs A2 h9
  refine ⟨m3, ?_, fun c j q1 q2 => by rw [o3 c j q1 q2, o2 c j q1 q2, o1 c j q1 q2]⟩
  have v30 : ∀ m T, moG m (gG T) 81 30 = T 7 := fun m T => mg_v (by omega) (by omega)
  have v31 : ∀ m T, moG m (gG T) 81 31 = T 8 := fun m T => mg_v (by omega) (by omega)
  have v32 : ∀ m T, moG m (gG T) 81 32 = T 9 := fun m T => mg_v (by omega) (by omega)
  have v33 : ∀ m T, moG m (gG T) 81 33 = T 14 := fun m T => mg_v (by omega) (by omega)
  have v34 : ∀ m T, moG m (gG T) 81 34 = T 15 := fun m T => mg_v (by omega) (by omega)
  have v35 : ∀ m T, moG m (gG T) 81 35 = T 16 := fun m T => mg_v (by omega) (by omega)
  have u30 : ∀ m T x, up2 (moG m (gG T)) 81 30 x = moG m (gG (upd T 7 x)) := fun m T x => mg_up (by omega)
  have u31 : ∀ m T x, up2 (moG m (gG T)) 81 31 x = moG m (gG (upd T 8 x)) := fun m T x => mg_up (by omega)
  have u32 : ∀ m T x, up2 (moG m (gG T)) 81 32 x = moG m (gG (upd T 9 x)) := fun m T x => mg_up (by omega)
  have u33 : ∀ m T x, up2 (moG m (gG T)) 81 33 x = moG m (gG (upd T 14 x)) := fun m T x => mg_up (by omega)
  have u34 : ∀ m T x, up2 (moG m (gG T)) 81 34 x = moG m (gG (upd T 15 x)) := fun m T x => mg_up (by omega)
  have u35 : ∀ m T x, up2 (moG m (gG T)) 81 35 x = moG m (gG (upd T 16 x)) := fun m T x => mg_up (by omega)
  unfold lsT loT
  rw [ht]
  by_cases cs : 0 < T 7
  · have cs' : ¬ T 7 ≤ 0 := Int32.not_le.mpr cs
    have e8 := fun x => nr_1 (x := x) cs
    simp only [r_MRm_go_356, r_MRm_go_357, r_MRm_go_358, r_MRm_go_359, r_MRm_go_360, r_MRm_go_363, r_MRm_go_366, r_MRm_go_368, r_MRm_go_371, r_MRm_go_373, r_MRm_go_374, r_MRm_go_375, r_MRm_go_376, r_MRm_go_377, r_MRm_go_380, r_MRm_go_382, r_MRm_go_385, r_MRm_go_387, r_MRm_go_388, r_MRm_go_389, r_MRm_go_390, r_MRm_go_391, r_MRm_go_394, r_MRm_go_396, r_MRm_go_399, r_MRm_go_401, r_MRm_go_402, r_MRm_go_402i, r_MRm_go_403, r_MRm_go_406, r_MRm_go_407, r_MRm_go_410, r_MRm_go_413, r_MRm_go_415, r_MRm_go_416, r_MRm_go_419, r_MRm_go_421, r_MRm_go_422, r_MRm_go_425, r_MRm_go_426, r_MRm_go_426i, r_MRm_go_427, r_MRm_go_430, r_MRm_go_432, r_MRm_go_433, r_MRm_go_436, r_MRm_go_437, r_MRm_go_437i, r_MRm_go_438, r_MRm_go_441, r_MRm_go_443, r_MRm_go_444, r_MRm_go_447, r_MRm_go_448, r_MRm_go_448i, r_MRm_go_449, r_MRm_go_452, r_MRm_go_454, r_MRm_go_455, r_MRm_go_458, r_MRm_go_459, r_MRm_go_459i, r_MRm_go_460, r_MRm_go_463, r_MRm_go_465, r_MRm_go_466, r_MRm_go_469, r_MRm_go_470, r_MRm_go_470i, r_MRm_go_471, r_MRm_go_474, r_MRm_go_476, r_MRm_go_477, r_MRm_go_480, sL_0, sL_1, sL_2, mk_i, mk_r, mk_f, mk_n, mk_u, mk_l, List.set_cons_succ, List.set_cons_zero, Nat.reduceAdd, ckS_0, ckS_1, ckS_2, ckS_3, ckS_4, Option.bind_some, Option.isSome_some, psh, if_true, if_false, i10, not_true_eq_false, not_false_eq_true, Bool.false_eq_true, and_self, and_true, true_and, eq_self, qI_81_0, qI_81_2, qI_81_3, qI_81_9, qI_81_10, qI_81_11, qI_81_12, qI_81_13, qI_81_18, qI_81_19, qI_81_20, qI_81_21, qI_81_29, qI_81_30, qI_81_31, qI_81_32, qI_81_33, qI_81_34, qI_81_35, qI_81_39, qI_81_40, qI_81_41, qI_81_42, qI_81_43, qI_81_44, qI_81_45, qI_81_46, qI_81_47, qI_81_51, qI_81_53, qR_81_1, qRd_81_1, qR_81_4, qRd_81_4, qR_81_5, qRd_81_5, qR_81_6, qRd_81_6, qR_81_7, qRd_81_7, qR_81_8, qRd_81_8, qR_81_14, qRd_81_14, qR_81_15, qRd_81_15, qR_81_16, qRd_81_16, qR_81_17, qRd_81_17, qR_81_22, qRd_81_22, qR_81_23, qRd_81_23, qR_81_24, qRd_81_24, qR_81_25, qRd_81_25, qR_81_26, qRd_81_26, qR_81_27, qRd_81_27, qR_81_28, qRd_81_28, qR_81_36, qRd_81_36, qR_81_37, qRd_81_37, qR_81_38, qRd_81_38, qR_81_48, qRd_81_48, qR_81_49, qRd_81_49, qR_81_50, qRd_81_50, qR_81_52, qRd_81_52, qR_81_54, qRd_81_54, qR_81_55, qRd_81_55, qR_81_56, qRd_81_56, qR_81_57, qRd_81_57, qR_81_58, qRd_81_58, qO_81, v30, v31, v32, v33, v34, v35, u30, u31, u32, u33, u34, u35, sz_M, t1, t2, t3, cs', e8, upd_e, Nat.reduceEqDiff]
  · have cs' : T 7 ≤ 0 := Int32.not_lt.mp cs
    have e8 := fun x => nr_2 (x := x) cs
    simp only [r_MRm_go_356, r_MRm_go_357, r_MRm_go_358, r_MRm_go_359, r_MRm_go_360, r_MRm_go_363, r_MRm_go_366, r_MRm_go_368, r_MRm_go_371, r_MRm_go_373, r_MRm_go_374, r_MRm_go_375, r_MRm_go_376, r_MRm_go_377, r_MRm_go_380, r_MRm_go_382, r_MRm_go_385, r_MRm_go_387, r_MRm_go_388, r_MRm_go_389, r_MRm_go_390, r_MRm_go_391, r_MRm_go_394, r_MRm_go_396, r_MRm_go_399, r_MRm_go_401, r_MRm_go_402, r_MRm_go_402i, r_MRm_go_403, r_MRm_go_406, r_MRm_go_407, r_MRm_go_410, r_MRm_go_413, r_MRm_go_415, r_MRm_go_416, r_MRm_go_419, r_MRm_go_421, r_MRm_go_422, r_MRm_go_425, r_MRm_go_426, r_MRm_go_426i, r_MRm_go_427, r_MRm_go_430, r_MRm_go_432, r_MRm_go_433, r_MRm_go_436, r_MRm_go_437, r_MRm_go_437i, r_MRm_go_438, r_MRm_go_441, r_MRm_go_443, r_MRm_go_444, r_MRm_go_447, r_MRm_go_448, r_MRm_go_448i, r_MRm_go_449, r_MRm_go_452, r_MRm_go_454, r_MRm_go_455, r_MRm_go_458, r_MRm_go_459, r_MRm_go_459i, r_MRm_go_460, r_MRm_go_463, r_MRm_go_465, r_MRm_go_466, r_MRm_go_469, r_MRm_go_470, r_MRm_go_470i, r_MRm_go_471, r_MRm_go_474, r_MRm_go_476, r_MRm_go_477, r_MRm_go_480, sL_0, sL_1, sL_2, mk_i, mk_r, mk_f, mk_n, mk_u, mk_l, List.set_cons_succ, List.set_cons_zero, Nat.reduceAdd, ckS_0, ckS_1, ckS_2, ckS_3, ckS_4, Option.bind_some, Option.isSome_some, psh, if_true, if_false, i10, not_true_eq_false, not_false_eq_true, Bool.false_eq_true, and_self, and_true, true_and, eq_self, qI_81_0, qI_81_2, qI_81_3, qI_81_9, qI_81_10, qI_81_11, qI_81_12, qI_81_13, qI_81_18, qI_81_19, qI_81_20, qI_81_21, qI_81_29, qI_81_30, qI_81_31, qI_81_32, qI_81_33, qI_81_34, qI_81_35, qI_81_39, qI_81_40, qI_81_41, qI_81_42, qI_81_43, qI_81_44, qI_81_45, qI_81_46, qI_81_47, qI_81_51, qI_81_53, qR_81_1, qRd_81_1, qR_81_4, qRd_81_4, qR_81_5, qRd_81_5, qR_81_6, qRd_81_6, qR_81_7, qRd_81_7, qR_81_8, qRd_81_8, qR_81_14, qRd_81_14, qR_81_15, qRd_81_15, qR_81_16, qRd_81_16, qR_81_17, qRd_81_17, qR_81_22, qRd_81_22, qR_81_23, qRd_81_23, qR_81_24, qRd_81_24, qR_81_25, qRd_81_25, qR_81_26, qRd_81_26, qR_81_27, qRd_81_27, qR_81_28, qRd_81_28, qR_81_36, qRd_81_36, qR_81_37, qRd_81_37, qR_81_38, qRd_81_38, qR_81_48, qRd_81_48, qR_81_49, qRd_81_49, qR_81_50, qRd_81_50, qR_81_52, qRd_81_52, qR_81_54, qRd_81_54, qR_81_55, qRd_81_55, qR_81_56, qRd_81_56, qR_81_57, qRd_81_57, qR_81_58, qRd_81_58, qO_81, v30, v31, v32, v33, v34, v35, u30, u31, u32, u33, u34, u35, sz_M, t1, t2, t3, cs', e8, upd_e, Nat.reduceEqDiff]
theorem gp_10 : phT k cc cd (grT k ca cb T) 10 = T 10 := by
  have e : grT k ca cb T 10 = T 10 := by
    unfold grT
    split
    · rw [upd_n (by decide), upd_n (by decide)]
    · split
      · rw [upd_n (by decide), upd_n (by decide)]
      · rfl
  unfold phT
  split
  · exact e
  · rw [upd_n (by decide), upd_n (by decide), upd_n (by decide), upd_n (by decide)]
    exact e
theorem gG_c (h7 : T 7 = T' 7) (h8 : T 8 = T' 8) (h9 : T 9 = T' 9) (h14 : T 14 = T' 14) (h15 : T 15 = T' 15) (h16 : T 16 = T' 16) : gG T = gG T' := by
  unfold gG
  rw [h7, h8, h9, h14, h15, h16]
/-- the rates of stone S, on the model's side -/
def RtM (m : Mu) (S : Nat) (ca cb cc cd : Int32) : Prop := m 87 (4 * S) = ca ∧ m 87 (4 * S + 1) = cb ∧ m 87 (4 * S + 2) = cc ∧ m 87 (4 * S + 3) = cd
/-- C, D as they may be -/
def RtB (cc cd : Int32) : Prop := (0 ≤ cc.toInt ∧ cc.toInt ≤ 100) ∧ (0 ≤ cd.toInt ∧ cd.toInt ≤ 100)
theorem e_go (hS : S < 6) (hn : n ≤ 4) (hr : RtM m S ca cb cc cd) (hB : RtB cc cd) (hs : SitM fl n f pc) (hA : AllM m LS n) (hb : Bd T) (ht : T 10 + 1 = t) : ∃ m', Rr X (d + 5) MRm_go 0 [.ref 81, .int (nI S), .int k, .int fl, .int t, mkU, mkU, mkU, mkU, mkU] [] (Wd (moG m (gG T)) la ro et) = some (none, Wd (moG m' (gG (spT k ca cb cc cd (flO LS f) pc T))) la ro et) ∧ (∀ c j, ¬ c = 97 → ¬ c = 98 → m' c j = m c j) := by
  obtain ⟨r0, r1, r2, r3⟩ := hr
  have e0 : gG T = gG (upd T 10 (T 10 + 1)) := gG_c rfl rfl rfl rfl rfl rfl
  have hb' : Bd (upd T 10 (T 10 + 1)) := ⟨by rw [upd_n (by decide)]; exact hb.1, by rw [upd_n (by decide)]; exact hb.2.1, by rw [upd_n (by decide)]; exact hb.2.2⟩
  rw [e0]
  obtain ⟨x5, x6, l7, l8, l9, s1⟩ := go_1 (X := X) (d := d) (m := m) (T := upd T 10 (T 10 + 1)) (la := la) (ro := ro) (et := et) (k := k) (fl := fl) (t := t) hS r0 r1
  obtain ⟨l7', l8', s2⟩ := go_2 (X := X) (d := d) (m := m) (T := grT k ca cb (upd T 10 (T 10 + 1))) (la := la) (ro := ro) (et := et) (k := k) (fl := fl) (t := t) (x5 := x5) (x6 := x6) (l7 := l7) (l8 := l8) (l9 := l9) hS r2 r3
  obtain ⟨m', s3, o⟩ := go_3 (X := X) (d := d) (m := m) (T := phT k cc cd (grT k ca cb (upd T 10 (T 10 + 1)))) (la := la) (ro := ro) (et := et) (S := S) (k := k) (t := t) (x5 := x5) (x6 := x6) (l7 := l7') (l8 := l8') (l9 := l9) hn hs hA (gp_bd hB.1 hB.2 hb') (by rw [gp_10, upd_s]; exact ht)
  refine ⟨m', ?_, o⟩
  rw [s1, s2, s3]
  obtain ⟨q1, q2, q3, q4, q5, q6, q7, q8⟩ := bk_789 (T := lsT (flO LS f) pc (phT k cc cd (grT k ca cb (upd T 10 (T 10 + 1)))))
  have e9 : gG (spT k ca cb cc cd (flO LS f) pc T) = gG (lsT (flO LS f) pc (phT k cc cd (grT k ca cb (upd T 10 (T 10 + 1))))) := gG_c q1 q2 q3 q6 q7 q8
  rw [e9]
theorem sp_10 : spT k ca cb cc cd (flO LS f) pc T 10 = T 10 + 1 := by
  unfold spT
  obtain ⟨q1, q2, q3, q4, _⟩ := bk_789 (T := lsT (flO LS f) pc (phT k cc cd (grT k ca cb (upd T 10 (T 10 + 1)))))
  rw [q4]
  unfold lsT loT
  rw [upd_n (by decide), upd_n (by decide), upd_n (by decide), upd_n (by decide), upd_n (by decide), upd_n (by decide), gp_10, upd_s]
/-- so many steps -/
noncomputable def spN (k ca cb cc cd : Int32) (g : Option (List Ln)) (pc : Int32) : Nat → (Nat → Int32) → (Nat → Int32)
  | 0, T => T
  | i + 1, T => spT k ca cb cc cd g pc (spN k ca cb cc cd g pc i T)
theorem sn_10 : ∀ i, T 10 = 0 → spN k ca cb cc cd (flO LS f) pc i T 10 = nI i
  | 0, h => h
  | i + 1, h => by rw [spN, sp_10, sn_10 i h, nI_1]
theorem sn_bd (hB : RtB cc cd) (hp : SitP f pc) : ∀ i, Bd T → Bd (spN k ca cb cc cd (flO LS f) pc i T)
  | 0, h => h
  | i + 1, h => by
    rw [spN]
    exact sp_bd hB.1 hB.2 hp (sn_bd hB hp i h)
end
