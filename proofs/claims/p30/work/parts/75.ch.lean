-- ===== contracts that the checker shows, 7
/-- MTo_soonest -/
noncomputable def c417 : Ctr := (103, [aR 0, aT, aT, aT, aT], some [aI (-2) 2147483647], [(6, 1), (6, 2), (6, 3), (6, 4), (6, 5), (6, 6), (6, 7), (6, 8), (6, 9), (6, 10), (6, 11), (6, 12), (6, 13), (6, 14), (6, 15), (6, 16), (6, 17), (49, 6), (49, 7), (49, 8), (49, 9), (49, 10), (49, 11), (53, 0), (54, 6), (54, 7), (54, 8), (54, 9), (54, 10), (54, 11), (58, 0), (59, 6), (59, 7), (59, 8), (59, 9), (59, 10), (59, 11), (63, 0), (64, 6), (64, 7), (64, 8), (64, 9), (64, 10), (64, 11), (68, 0)], 6)
noncomputable def p417 : Pg := ([(103, 39, [some none, some none, some none, some none, some none, some (some ((-2), 5)), some (some ((-2), 2147483647)), some (some (0, 6)), none], [], .inl 7, true)], [], [c1, c340, c342], ivG, [(6, 1), (6, 2), (6, 3), (6, 4), (6, 5), (6, 6), (6, 7), (6, 8), (6, 9), (6, 10), (6, 11), (6, 12), (6, 13), (6, 14), (6, 15), (6, 16), (6, 17), (49, 6), (49, 7), (49, 8), (49, 9), (49, 10), (49, 11), (53, 0), (54, 6), (54, 7), (54, 8), (54, 9), (54, 10), (54, 11), (58, 0), (59, 6), (59, 7), (59, 8), (59, 9), (59, 10), (59, 11), (63, 0), (64, 6), (64, 7), (64, 8), (64, 9), (64, 10), (64, 11), (68, 0)], none)
theorem k417 : chk p417 tbF 3000 c417 = true := by decide +kernel
theorem t417 {J : Jt} {X : Tok} {et : Nat → Option va_E} (hX : tOk X) (hH : HandT J X et) (hJ : JS DJ J) : ctrT ivG J X et c417 := ctr_ok tbF_ok hX hJ (by decide) rfl rfl k417 (ct1 (t1 hX hH hJ) (ct1 (t340 hX hH hJ) (ct1 (t342 hX hH hJ) ct0)))
/-- MTo_screws -/
noncomputable def c418 : Ctr := (104, [aR 0, aT, aT, aT], some [aI (-2) 1818], [], 3)
noncomputable def p418 : Pg := ([], [], [c0, c10, c21, c32, c43, c54, c65], ivG, [], none)
theorem k418 : chk p418 tbF 3000 c418 = true := by decide +kernel
theorem t418 {J : Jt} {X : Tok} {et : Nat → Option va_E} (hX : tOk X) (hH : HandT J X et) (hJ : JS DJ J) : ctrT ivG J X et c418 := ctr_ok tbF_ok hX hJ (by decide) rfl rfl k418 (ct1 (t0 hX hH hJ) (ct1 (t10 hX hH hJ) (ct1 (t21 hX hH hJ) (ct1 (t32 hX hH hJ) (ct1 (t43 hX hH hJ) (ct1 (t54 hX hH hJ) (ct1 (t65 hX hH hJ) ct0)))))))
/-- MTo_lightest -/
noncomputable def c419 : Ctr := (105, [aR 0, aT, aT], some [aI (-2) 9], [], 3)
noncomputable def p419 : Pg := ([(105, 22, [some none, some none, some none, some none, some (some (1, 10))], [], .inl 4, true)], [], [c0, c10, c21, c32, c43, c54, c65], ivG, [], none)
theorem k419 : chk p419 tbF 3000 c419 = true := by decide +kernel
theorem t419 {J : Jt} {X : Tok} {et : Nat → Option va_E} (hX : tOk X) (hH : HandT J X et) (hJ : JS DJ J) : ctrT ivG J X et c419 := ctr_ok tbF_ok hX hJ (by decide) rfl rfl k419 (ct1 (t0 hX hH hJ) (ct1 (t10 hX hH hJ) (ct1 (t21 hX hH hJ) (ct1 (t32 hX hH hJ) (ct1 (t43 hX hH hJ) (ct1 (t54 hX hH hJ) (ct1 (t65 hX hH hJ) ct0)))))))
/-- MTo_seen -/
noncomputable def c420 : Ctr := (106, [aR 0, aT, aT, aT], some [aI (-2) 9], [(6, 1), (6, 2), (6, 3), (6, 4), (6, 5), (6, 6), (6, 7), (6, 8), (6, 9), (6, 10), (6, 11), (6, 12), (6, 13), (6, 14), (6, 15), (6, 16), (6, 17), (49, 6), (49, 7), (49, 8), (49, 9), (49, 10), (49, 11), (53, 0), (54, 6), (54, 7), (54, 8), (54, 9), (54, 10), (54, 11), (58, 0), (59, 6), (59, 7), (59, 8), (59, 9), (59, 10), (59, 11), (63, 0), (64, 6), (64, 7), (64, 8), (64, 9), (64, 10), (64, 11), (68, 0)], 6)
noncomputable def p420 : Pg := ([(106, 21, [some none, some none, some none, some none, some (some (1, 10))], [], .inl 4, true)], [], [c339, c342, c352], ivG, [(6, 1), (6, 2), (6, 3), (6, 4), (6, 5), (6, 6), (6, 7), (6, 8), (6, 9), (6, 10), (6, 11), (6, 12), (6, 13), (6, 14), (6, 15), (6, 16), (6, 17), (49, 6), (49, 7), (49, 8), (49, 9), (49, 10), (49, 11), (53, 0), (54, 6), (54, 7), (54, 8), (54, 9), (54, 10), (54, 11), (58, 0), (59, 6), (59, 7), (59, 8), (59, 9), (59, 10), (59, 11), (63, 0), (64, 6), (64, 7), (64, 8), (64, 9), (64, 10), (64, 11), (68, 0)], none)
theorem k420 : chk p420 tbF 3000 c420 = true := by decide +kernel
theorem t420 {J : Jt} {X : Tok} {et : Nat → Option va_E} (hX : tOk X) (hH : HandT J X et) (hJ : JS DJ J) : ctrT ivG J X et c420 := ctr_ok tbF_ok hX hJ (by decide) rfl rfl k420 (ct1 (t339 hX hH hJ) (ct1 (t342 hX hH hJ) (ct1 (t352 hX hH hJ) ct0)))
/-- MTo_pressed -/
noncomputable def c421 : Ctr := (107, [aR 0, aT, aT], some [aT], [(6, 1), (6, 2), (6, 3), (6, 4), (6, 5), (6, 6), (6, 7), (6, 8), (6, 9), (6, 10), (6, 11), (6, 12), (6, 13), (6, 14), (6, 15), (6, 16), (6, 17), (49, 6), (49, 7), (49, 8), (49, 9), (49, 10), (49, 11), (53, 0), (54, 6), (54, 7), (54, 8), (54, 9), (54, 10), (54, 11), (58, 0), (59, 6), (59, 7), (59, 8), (59, 9), (59, 10), (59, 11), (63, 0), (64, 6), (64, 7), (64, 8), (64, 9), (64, 10), (64, 11), (68, 0)], 6)
noncomputable def p421 : Pg := ([], [], [c333, c340, c341, c352], ivG, [(6, 1), (6, 2), (6, 3), (6, 4), (6, 5), (6, 6), (6, 7), (6, 8), (6, 9), (6, 10), (6, 11), (6, 12), (6, 13), (6, 14), (6, 15), (6, 16), (6, 17), (49, 6), (49, 7), (49, 8), (49, 9), (49, 10), (49, 11), (53, 0), (54, 6), (54, 7), (54, 8), (54, 9), (54, 10), (54, 11), (58, 0), (59, 6), (59, 7), (59, 8), (59, 9), (59, 10), (59, 11), (63, 0), (64, 6), (64, 7), (64, 8), (64, 9), (64, 10), (64, 11), (68, 0)], none)
theorem k421 : chk p421 tbF 3000 c421 = true := by decide +kernel
theorem t421 {J : Jt} {X : Tok} {et : Nat → Option va_E} (hX : tOk X) (hH : HandT J X et) (hJ : JS DJ J) : ctrT ivG J X et c421 := ctr_ok tbF_ok hX hJ (by decide) rfl rfl k421 (ct1 (t333 hX hH hJ) (ct1 (t340 hX hH hJ) (ct1 (t341 hX hH hJ) (ct1 (t352 hX hH hJ) ct0))))
/-- MTo_hands -/
noncomputable def c422 : Ctr := (108, [aR 0, aT, aT, aT], some [aT], [(6, 1), (6, 2), (6, 3), (6, 4), (6, 5), (6, 6), (6, 7), (6, 8), (6, 9), (6, 10), (6, 11), (6, 12), (6, 13), (6, 14), (6, 15), (6, 16), (6, 17), (49, 6), (49, 7), (49, 8), (49, 9), (49, 10), (49, 11), (53, 0), (54, 6), (54, 7), (54, 8), (54, 9), (54, 10), (54, 11), (58, 0), (59, 6), (59, 7), (59, 8), (59, 9), (59, 10), (59, 11), (63, 0), (64, 6), (64, 7), (64, 8), (64, 9), (64, 10), (64, 11), (68, 0)], 6)
noncomputable def p422 : Pg := ([(108, 34, [some none, some none, some none, some none, some (some ((-2147483648), 2147483647)), some (some ((-2147483648), 2147483647)), some (some (0, 20)), none, none, none], [], .inl 6, true)], [], [c340, c342, c352], ivG, [(6, 1), (6, 2), (6, 3), (6, 4), (6, 5), (6, 6), (6, 7), (6, 8), (6, 9), (6, 10), (6, 11), (6, 12), (6, 13), (6, 14), (6, 15), (6, 16), (6, 17), (49, 6), (49, 7), (49, 8), (49, 9), (49, 10), (49, 11), (53, 0), (54, 6), (54, 7), (54, 8), (54, 9), (54, 10), (54, 11), (58, 0), (59, 6), (59, 7), (59, 8), (59, 9), (59, 10), (59, 11), (63, 0), (64, 6), (64, 7), (64, 8), (64, 9), (64, 10), (64, 11), (68, 0)], none)
theorem k422 : chk p422 tbF 3000 c422 = true := by decide +kernel
theorem t422 {J : Jt} {X : Tok} {et : Nat → Option va_E} (hX : tOk X) (hH : HandT J X et) (hJ : JS DJ J) : ctrT ivG J X et c422 := ctr_ok tbF_ok hX hJ (by decide) rfl rfl k422 (ct1 (t340 hX hH hJ) (ct1 (t342 hX hH hJ) (ct1 (t352 hX hH hJ) ct0)))
/-- MTo_frame -/
noncomputable def c423 : Ctr := (109, [aR 0, aT, aT], some [aT], [(11, 3), (12, 0), (13, 0)], 2)
noncomputable def p423 : Pg := ([], [], [c343, c344], ivG, [(11, 3), (12, 0), (13, 0)], none)
theorem k423 : chk p423 tbF 3000 c423 = true := by decide +kernel
theorem t423 {J : Jt} {X : Tok} {et : Nat → Option va_E} (hX : tOk X) (hH : HandT J X et) (hJ : JS DJ J) : ctrT ivG J X et c423 := ctr_ok tbF_ok hX hJ (by decide) rfl rfl k423 (ct1 (t343 hX hH hJ) (ct1 (t344 hX hH hJ) ct0))
/-- MTo_frames -/
noncomputable def c424 : Ctr := (110, [aR 0, aT, aT, aT], some [aT], [(11, 3), (12, 0), (13, 0)], 3)
noncomputable def p424 : Pg := ([], [], [c2, c345, c346, c347, c348, c349, c350], ivG, [(11, 3), (12, 0), (13, 0)], none)
theorem k424 : chk p424 tbF 3000 c424 = true := by decide +kernel
theorem t424 {J : Jt} {X : Tok} {et : Nat → Option va_E} (hX : tOk X) (hH : HandT J X et) (hJ : JS DJ J) : ctrT ivG J X et c424 := ctr_ok tbF_ok hX hJ (by decide) rfl rfl k424 (ct1 (t2 hX hH hJ) (ct1 (t345 hX hH hJ) (ct1 (t346 hX hH hJ) (ct1 (t347 hX hH hJ) (ct1 (t348 hX hH hJ) (ct1 (t349 hX hH hJ) (ct1 (t350 hX hH hJ) ct0)))))))
/-- MTo_cut -/
noncomputable def c425 : Ctr := (111, [aR 0], some [aT], [(11, 3)], 0)
noncomputable def p425 : Pg := ([], [], [], ivG, [(11, 3)], none)
theorem k425 : chk p425 tbF 3000 c425 = true := by decide +kernel
theorem t425 {J : Jt} {X : Tok} {et : Nat → Option va_E} (hX : tOk X) (hH : HandT J X et) (hJ : JS DJ J) : ctrT ivG J X et c425 := ctr_ok tbF_ok hX hJ (by decide) rfl rfl k425 ct0
/-- MTo_off -/
noncomputable def c426 : Ctr := (112, [aR 0, aT, aT, aT], some [aT], [(6, 1), (6, 2), (6, 3), (6, 4), (6, 5), (6, 6), (6, 7), (6, 8), (6, 9), (6, 10), (6, 11), (6, 12), (6, 13), (6, 14), (6, 15), (6, 16), (6, 17), (49, 6), (49, 7), (49, 8), (49, 9), (49, 10), (49, 11), (53, 0), (54, 6), (54, 7), (54, 8), (54, 9), (54, 10), (54, 11), (58, 0), (59, 6), (59, 7), (59, 8), (59, 9), (59, 10), (59, 11), (63, 0), (64, 6), (64, 7), (64, 8), (64, 9), (64, 10), (64, 11), (68, 0)], 6)
noncomputable def p426 : Pg := ([], [], [c351, c352], ivG, [(6, 1), (6, 2), (6, 3), (6, 4), (6, 5), (6, 6), (6, 7), (6, 8), (6, 9), (6, 10), (6, 11), (6, 12), (6, 13), (6, 14), (6, 15), (6, 16), (6, 17), (49, 6), (49, 7), (49, 8), (49, 9), (49, 10), (49, 11), (53, 0), (54, 6), (54, 7), (54, 8), (54, 9), (54, 10), (54, 11), (58, 0), (59, 6), (59, 7), (59, 8), (59, 9), (59, 10), (59, 11), (63, 0), (64, 6), (64, 7), (64, 8), (64, 9), (64, 10), (64, 11), (68, 0)], none)
theorem k426 : chk p426 tbF 3000 c426 = true := by decide +kernel
theorem t426 {J : Jt} {X : Tok} {et : Nat → Option va_E} (hX : tOk X) (hH : HandT J X et) (hJ : JS DJ J) : ctrT ivG J X et c426 := ctr_ok tbF_ok hX hJ (by decide) rfl rfl k426 (ct1 (t351 hX hH hJ) (ct1 (t352 hX hH hJ) ct0))
/-- MTo_shape -/
noncomputable def c427 : Ctr := (113, [aR 0, aT, aT, aT], some [aT], [(6, 1), (6, 2), (6, 3), (6, 4), (6, 5), (6, 6), (6, 7), (6, 8), (6, 9), (6, 10), (6, 11), (6, 12), (6, 13), (6, 14), (6, 15), (6, 16), (6, 17), (49, 6), (49, 7), (49, 8), (49, 9), (49, 10), (49, 11), (53, 0), (54, 6), (54, 7), (54, 8), (54, 9), (54, 10), (54, 11), (58, 0), (59, 6), (59, 7), (59, 8), (59, 9), (59, 10), (59, 11), (63, 0), (64, 6), (64, 7), (64, 8), (64, 9), (64, 10), (64, 11), (68, 0)], 6)
noncomputable def p427 : Pg := ([(113, 61, [some none, some none, some none, some none, some (some ((-9), 9)), some (some ((-2147483648), 2147483647)), some (some ((-8), 10)), none], [], .inl 6, true)], [], [c351, c352], ivG, [(6, 1), (6, 2), (6, 3), (6, 4), (6, 5), (6, 6), (6, 7), (6, 8), (6, 9), (6, 10), (6, 11), (6, 12), (6, 13), (6, 14), (6, 15), (6, 16), (6, 17), (49, 6), (49, 7), (49, 8), (49, 9), (49, 10), (49, 11), (53, 0), (54, 6), (54, 7), (54, 8), (54, 9), (54, 10), (54, 11), (58, 0), (59, 6), (59, 7), (59, 8), (59, 9), (59, 10), (59, 11), (63, 0), (64, 6), (64, 7), (64, 8), (64, 9), (64, 10), (64, 11), (68, 0)], none)
theorem k427 : chk p427 tbF 3000 c427 = true := by decide +kernel
theorem t427 {J : Jt} {X : Tok} {et : Nat → Option va_E} (hX : tOk X) (hH : HandT J X et) (hJ : JS DJ J) : ctrT ivG J X et c427 := ctr_ok tbF_ok hX hJ (by decide) rfl rfl k427 (ct1 (t351 hX hH hJ) (ct1 (t352 hX hH hJ) ct0))
/-- MTo_span -/
noncomputable def c428 : Ctr := (114, [aR 0, aT, aT, aT], some [aT], [(6, 1), (6, 2), (6, 3), (6, 4), (6, 5), (6, 6), (6, 7), (6, 8), (6, 9), (6, 10), (6, 11), (6, 12), (6, 13), (6, 14), (6, 15), (6, 16), (6, 17), (49, 6), (49, 7), (49, 8), (49, 9), (49, 10), (49, 11), (53, 0), (54, 6), (54, 7), (54, 8), (54, 9), (54, 10), (54, 11), (58, 0), (59, 6), (59, 7), (59, 8), (59, 9), (59, 10), (59, 11), (63, 0), (64, 6), (64, 7), (64, 8), (64, 9), (64, 10), (64, 11), (68, 0)], 6)
noncomputable def p428 : Pg := ([(114, 42, [some none, some none, some none, some none, some (some ((-2147483648), 2147483647)), some (some ((-9), 10))], [], .inl 5, true)], [], [c351, c352], ivG, [(6, 1), (6, 2), (6, 3), (6, 4), (6, 5), (6, 6), (6, 7), (6, 8), (6, 9), (6, 10), (6, 11), (6, 12), (6, 13), (6, 14), (6, 15), (6, 16), (6, 17), (49, 6), (49, 7), (49, 8), (49, 9), (49, 10), (49, 11), (53, 0), (54, 6), (54, 7), (54, 8), (54, 9), (54, 10), (54, 11), (58, 0), (59, 6), (59, 7), (59, 8), (59, 9), (59, 10), (59, 11), (63, 0), (64, 6), (64, 7), (64, 8), (64, 9), (64, 10), (64, 11), (68, 0)], none)
theorem k428 : chk p428 tbF 3000 c428 = true := by decide +kernel
theorem t428 {J : Jt} {X : Tok} {et : Nat → Option va_E} (hX : tOk X) (hH : HandT J X et) (hJ : JS DJ J) : ctrT ivG J X et c428 := ctr_ok tbF_ok hX hJ (by decide) rfl rfl k428 (ct1 (t351 hX hH hJ) (ct1 (t352 hX hH hJ) ct0))
/-- MTo_which -/
noncomputable def c429 : Ctr := (115, [aR 0, aT, aT], some [aI (-5) 3], [(6, 1), (6, 2), (6, 3), (6, 4), (6, 5), (6, 6), (6, 7), (6, 8), (6, 9), (6, 10), (6, 11), (6, 12), (6, 13), (6, 14), (6, 15), (6, 16), (6, 17), (49, 6), (49, 7), (49, 8), (49, 9), (49, 10), (49, 11), (53, 0), (54, 6), (54, 7), (54, 8), (54, 9), (54, 10), (54, 11), (58, 0), (59, 6), (59, 7), (59, 8), (59, 9), (59, 10), (59, 11), (63, 0), (64, 6), (64, 7), (64, 8), (64, 9), (64, 10), (64, 11), (68, 0)], 6)
noncomputable def p429 : Pg := ([(115, 65, [some none, some none, some none, some none, some none, some (some (0, 3)), some (some ((-2147483648), 2147483647)), some (some (1, 4)), none], [], .inl 7, true)], [], [c0, c8, c19, c30, c41, c52, c63, c351], ivG, [(6, 1), (6, 2), (6, 3), (6, 4), (6, 5), (6, 6), (6, 7), (6, 8), (6, 9), (6, 10), (6, 11), (6, 12), (6, 13), (6, 14), (6, 15), (6, 16), (6, 17), (49, 6), (49, 7), (49, 8), (49, 9), (49, 10), (49, 11), (53, 0), (54, 6), (54, 7), (54, 8), (54, 9), (54, 10), (54, 11), (58, 0), (59, 6), (59, 7), (59, 8), (59, 9), (59, 10), (59, 11), (63, 0), (64, 6), (64, 7), (64, 8), (64, 9), (64, 10), (64, 11), (68, 0)], none)
theorem k429 : chk p429 tbF 3000 c429 = true := by decide +kernel
theorem t429 {J : Jt} {X : Tok} {et : Nat → Option va_E} (hX : tOk X) (hH : HandT J X et) (hJ : JS DJ J) : ctrT ivG J X et c429 := ctr_ok tbF_ok hX hJ (by decide) rfl rfl k429 (ct1 (t0 hX hH hJ) (ct1 (t8 hX hH hJ) (ct1 (t19 hX hH hJ) (ct1 (t30 hX hH hJ) (ct1 (t41 hX hH hJ) (ct1 (t52 hX hH hJ) (ct1 (t63 hX hH hJ) (ct1 (t351 hX hH hJ) ct0))))))))
/-- MTo_undo -/
noncomputable def c430 : Ctr := (117, [aR 0], some [aT], [(14, 2), (19, 6), (19, 7), (19, 8), (19, 9), (19, 10), (19, 11), (20, 0), (23, 0), (24, 6), (24, 7), (24, 8), (24, 9), (24, 10), (24, 11), (25, 0), (28, 0), (29, 6), (29, 7), (29, 8), (29, 9), (29, 10), (29, 11), (30, 0), (33, 0), (34, 6), (34, 7), (34, 8), (34, 9), (34, 10), (34, 11), (35, 0), (38, 0), (39, 6), (39, 7), (39, 8), (39, 9), (39, 10), (39, 11), (40, 0), (43, 0), (44, 6), (44, 7), (44, 8), (44, 9), (44, 10), (44, 11), (45, 0), (48, 0)], 3)
noncomputable def p430 : Pg := ([], [], [c402], ivG, [(14, 2), (19, 6), (19, 7), (19, 8), (19, 9), (19, 10), (19, 11), (20, 0), (23, 0), (24, 6), (24, 7), (24, 8), (24, 9), (24, 10), (24, 11), (25, 0), (28, 0), (29, 6), (29, 7), (29, 8), (29, 9), (29, 10), (29, 11), (30, 0), (33, 0), (34, 6), (34, 7), (34, 8), (34, 9), (34, 10), (34, 11), (35, 0), (38, 0), (39, 6), (39, 7), (39, 8), (39, 9), (39, 10), (39, 11), (40, 0), (43, 0), (44, 6), (44, 7), (44, 8), (44, 9), (44, 10), (44, 11), (45, 0), (48, 0)], none)
theorem k430 : chk p430 tbF 3000 c430 = true := by decide +kernel
theorem t430 {J : Jt} {X : Tok} {et : Nat → Option va_E} (hX : tOk X) (hH : HandT J X et) (hJ : JS DJ J) : ctrT ivG J X et c430 := ctr_ok tbF_ok hX hJ (by decide) rfl rfl k430 (ct1 (t402 hX hH hJ) ct0)
/-- MTo_redo -/
noncomputable def c431 : Ctr := (118, [aR 0], some [aT], [(14, 2), (19, 6), (19, 7), (19, 8), (19, 9), (19, 10), (19, 11), (20, 0), (23, 0), (24, 6), (24, 7), (24, 8), (24, 9), (24, 10), (24, 11), (25, 0), (28, 0), (29, 6), (29, 7), (29, 8), (29, 9), (29, 10), (29, 11), (30, 0), (33, 0), (34, 6), (34, 7), (34, 8), (34, 9), (34, 10), (34, 11), (35, 0), (38, 0), (39, 6), (39, 7), (39, 8), (39, 9), (39, 10), (39, 11), (40, 0), (43, 0), (44, 6), (44, 7), (44, 8), (44, 9), (44, 10), (44, 11), (45, 0), (48, 0)], 3)
noncomputable def p431 : Pg := ([], [], [c402], ivG, [(14, 2), (19, 6), (19, 7), (19, 8), (19, 9), (19, 10), (19, 11), (20, 0), (23, 0), (24, 6), (24, 7), (24, 8), (24, 9), (24, 10), (24, 11), (25, 0), (28, 0), (29, 6), (29, 7), (29, 8), (29, 9), (29, 10), (29, 11), (30, 0), (33, 0), (34, 6), (34, 7), (34, 8), (34, 9), (34, 10), (34, 11), (35, 0), (38, 0), (39, 6), (39, 7), (39, 8), (39, 9), (39, 10), (39, 11), (40, 0), (43, 0), (44, 6), (44, 7), (44, 8), (44, 9), (44, 10), (44, 11), (45, 0), (48, 0)], none)
theorem k431 : chk p431 tbF 3000 c431 = true := by decide +kernel
theorem t431 {J : Jt} {X : Tok} {et : Nat → Option va_E} (hX : tOk X) (hH : HandT J X et) (hJ : JS DJ J) : ctrT ivG J X et c431 := ctr_ok tbF_ok hX hJ (by decide) rfl rfl k431 (ct1 (t402 hX hH hJ) ct0)
/-- MTo_body -/
noncomputable def c432 : Ctr := (119, [aR 0, aT], some [aI (-3) 49], [(16, 3), (17, 0)], 1)
noncomputable def p432 : Pg := ([], [], [], ivG, [(16, 3), (17, 0)], none)
theorem k432 : chk p432 tbF 3000 c432 = true := by decide +kernel
theorem t432 {J : Jt} {X : Tok} {et : Nat → Option va_E} (hX : tOk X) (hH : HandT J X et) (hJ : JS DJ J) : ctrT ivG J X et c432 := ctr_ok tbF_ok hX hJ (by decide) rfl rfl k432 ct0
/-- MTo_act -/
noncomputable def c433 : Ctr := (120, [aR 0, aT, aT, aT], some [aT], [(16, 4), (16, 5), (16, 6), (18, 0)], 85)
noncomputable def p433 : Pg := ([], [], [c397], ivG, [(16, 4), (16, 5), (16, 6), (18, 0)], none)
theorem k433 : chk p433 tbF 3000 c433 = true := by decide +kernel
theorem t433 {J : Jt} {X : Tok} {et : Nat → Option va_E} (hX : tOk X) (hH : HandT J X et) (hJ : JS DJ J) : ctrT ivG J X et c433 := ctr_ok tbF_ok hX hJ (by decide) rfl rfl k433 (ct1 (t397 hX hH hJ) ct0)
/-- MTo_trace -/
noncomputable def c434 : Ctr := (121, [aR 0, aT], some [aT], [], 1)
noncomputable def p434 : Pg := ([], [], [], ivG, [], none)
theorem k434 : chk p434 tbF 3000 c434 = true := by decide +kernel
theorem t434 {J : Jt} {X : Tok} {et : Nat → Option va_E} (hX : tOk X) (hH : HandT J X et) (hJ : JS DJ J) : ctrT ivG J X et c434 := ctr_ok tbF_ok hX hJ (by decide) rfl rfl k434 ct0
/-- MTo_keep -/
noncomputable def c435 : Ctr := (122, [aR 0, aT, aT], some [aI (-1) 1], [(69, 2), (69, 3), (69, 4), (71, 2), (71, 3), (71, 4), (73, 2), (73, 3), (73, 4), (75, 2), (75, 3), (75, 4), (77, 2), (77, 3), (77, 4), (79, 2), (79, 3), (79, 4)], 2)
noncomputable def p435 : Pg := ([], [], [c2], ivG, [(69, 2), (69, 3), (69, 4), (71, 2), (71, 3), (71, 4), (73, 2), (73, 3), (73, 4), (75, 2), (75, 3), (75, 4), (77, 2), (77, 3), (77, 4), (79, 2), (79, 3), (79, 4)], none)
theorem k435 : chk p435 tbF 3000 c435 = true := by decide +kernel
theorem t435 {J : Jt} {X : Tok} {et : Nat → Option va_E} (hX : tOk X) (hH : HandT J X et) (hJ : JS DJ J) : ctrT ivG J X et c435 := ctr_ok tbF_ok hX hJ (by decide) rfl rfl k435 (ct1 (t2 hX hH hJ) ct0)
/-- MTo_row -/
noncomputable def c436 : Ctr := (123, [aR 0, aT, aT, aT], some [aI (-14) 1], [(69, 2), (69, 3), (69, 4), (70, 0), (71, 2), (71, 3), (71, 4), (72, 0), (73, 2), (73, 3), (73, 4), (74, 0), (75, 2), (75, 3), (75, 4), (76, 0), (77, 2), (77, 3), (77, 4), (78, 0), (79, 2), (79, 3), (79, 4), (80, 0)], 2)
noncomputable def p436 : Pg := ([(56, 17, [some none, some none, some none, some (some (0, 60))], [], .inl 3, true)], [], [c2], ivG, [(69, 2), (69, 3), (69, 4), (70, 0), (71, 2), (71, 3), (71, 4), (72, 0), (73, 2), (73, 3), (73, 4), (74, 0), (75, 2), (75, 3), (75, 4), (76, 0), (77, 2), (77, 3), (77, 4), (78, 0), (79, 2), (79, 3), (79, 4), (80, 0)], none)
theorem k436 : chk p436 tbF 3000 c436 = true := by decide +kernel
theorem t436 {J : Jt} {X : Tok} {et : Nat → Option va_E} (hX : tOk X) (hH : HandT J X et) (hJ : JS DJ J) : ctrT ivG J X et c436 := ctr_ok tbF_ok hX hJ (by decide) rfl rfl k436 (ct1 (t2 hX hH hJ) ct0)
/-- MTo_element -/
noncomputable def c437 : Ctr := (125, [aR 0, aT, aT], some [aL], [], 3)
noncomputable def p437 : Pg := ([], [], [c2], ivG, [], none)
theorem k437 : chk p437 tbF 3000 c437 = true := by decide +kernel
theorem t437 {J : Jt} {X : Tok} {et : Nat → Option va_E} (hX : tOk X) (hH : HandT J X et) (hJ : JS DJ J) : ctrT ivG J X et c437 := ctr_ok tbF_ok hX hJ (by decide) rfl rfl k437 (ct1 (t2 hX hH hJ) ct0)
/-- MTo_taken -/
noncomputable def c438 : Ctr := (127, [aR 0, aT, aT], some [aT], [], 2)
noncomputable def p438 : Pg := ([], [], [c2, c398], ivG, [], none)
theorem k438 : chk p438 tbF 3000 c438 = true := by decide +kernel
theorem t438 {J : Jt} {X : Tok} {et : Nat → Option va_E} (hX : tOk X) (hH : HandT J X et) (hJ : JS DJ J) : ctrT ivG J X et c438 := ctr_ok tbF_ok hX hJ (by decide) rfl rfl k438 (ct1 (t2 hX hH hJ) (ct1 (t398 hX hH hJ) ct0))
/-- MTo_count -/
noncomputable def c439 : Ctr := (128, [aR 0, aT], some [aT], [], 0)
noncomputable def p439 : Pg := ([], [], [], ivG, [], none)
theorem k439 : chk p439 tbF 3000 c439 = true := by decide +kernel
theorem t439 {J : Jt} {X : Tok} {et : Nat → Option va_E} (hX : tOk X) (hH : HandT J X et) (hJ : JS DJ J) : ctrT ivG J X et c439 := ctr_ok tbF_ok hX hJ (by decide) rfl rfl k439 ct0
/-- MTo_put -/
noncomputable def c440 : Ctr := (124, [aR 0, aT, aT, aL], some [aI (-13) 1], [(70, 0), (72, 0), (74, 0), (76, 0), (78, 0), (80, 0)], 3)
noncomputable def p440 : Pg := ([], [], [c2], ivG, [(70, 0), (72, 0), (74, 0), (76, 0), (78, 0), (80, 0)], none)
theorem k440 : chk p440 tbF 3000 c440 = true := by decide +kernel
theorem t440 {J : Jt} {X : Tok} {et : Nat → Option va_E} (hX : tOk X) (hH : HandT J X et) (hJ : JS DJ J) : ctrT ivG J X et c440 := ctr_ok tbF_ok hX hJ (by decide) rfl rfl k440 (ct1 (t2 hX hH hJ) ct0)
/-- MRm_feed -/
noncomputable def c448 : Ctr := (148, [aR 81, aT, aT], some [aI (-3) 120], [(81, 3), (82, 0)], 1)
noncomputable def p448 : Pg := ([], [(148, 11, 1, none)], [], ivG, [(81, 3), (82, 0)], none)
theorem k448 : chk p448 tbF 3000 c448 = true := by decide +kernel
theorem t448 {J : Jt} {X : Tok} {et : Nat → Option va_E} (hX : tOk X) (hH : HandT J X et) (hJ : JS DJ J) : ctrT ivG J X et c448 := ctr_ok tbF_ok hX hJ (by decide) rfl rfl k448 ct0
/-- MRm_digit -/
noncomputable def c449 : Ctr := (152, [aR 81, aI 0 0], some [aI 0 9], [(81, 19), (81, 20)], 1)
noncomputable def p449 : Pg := ([], [], [], ivG, [(81, 19), (81, 20)], none)
theorem k449 : chk p449 tbF 3000 c449 = true := by decide +kernel
theorem t449 {J : Jt} {X : Tok} {et : Nat → Option va_E} (hX : tOk X) (hH : HandT J X et) (hJ : JS DJ J) : ctrT ivG J X et c449 := ctr_ok tbF_ok hX hJ (by decide) rfl rfl k449 ct0
/-- MRm_digit -/
noncomputable def c450 : Ctr := (152, [aR 81, aI 1 1], some [aI 0 9], [(81, 19), (81, 20)], 1)
noncomputable def p450 : Pg := ([], [], [], ivG, [(81, 19), (81, 20)], none)
theorem k450 : chk p450 tbF 3000 c450 = true := by decide +kernel
theorem t450 {J : Jt} {X : Tok} {et : Nat → Option va_E} (hX : tOk X) (hH : HandT J X et) (hJ : JS DJ J) : ctrT ivG J X et c450 := ctr_ok tbF_ok hX hJ (by decide) rfl rfl k450 ct0
/-- MRm_signed -/
noncomputable def c451 : Ctr := (153, [aR 81], some [aI (-9) 9], [(81, 19), (81, 20)], 2)
noncomputable def p451 : Pg := ([], [], [c449], ivG, [(81, 19), (81, 20)], none)
theorem k451 : chk p451 tbF 3000 c451 = true := by decide +kernel
theorem t451 {J : Jt} {X : Tok} {et : Nat → Option va_E} (hX : tOk X) (hH : HandT J X et) (hJ : JS DJ J) : ctrT ivG J X et c451 := ctr_ok tbF_ok hX hJ (by decide) rfl rfl k451 (ct1 (t449 hX hH hJ) ct0)
/-- MRm_takes -/
noncomputable def c452 : Ctr := (151, [aR 81, aT], none, [(81, 19), (81, 20)], 1)
noncomputable def p452 : Pg := ([], [], [], ivG, [(81, 19), (81, 20)], none)
theorem k452 : chk p452 tbF 3000 c452 = true := by decide +kernel
theorem t452 {J : Jt} {X : Tok} {et : Nat → Option va_E} (hX : tOk X) (hH : HandT J X et) (hJ : JS DJ J) : ctrT ivG J X et c452 := ctr_ok tbF_ok hX hJ (by decide) rfl rfl k452 ct0
/-- MRm_readNumber -/
noncomputable def c453 : Ctr := (154, [aR 81, aT], some [aT], [(81, 19), (81, 20)], 1)
noncomputable def p453 : Pg := ([(154, 7, [some none, some none, some none, some (some ((-2147483648), 2147483647))], [(81, 18)], .inr (.inl (81, 18)), true)], [], [], ivG, [(81, 19), (81, 20)], none)
theorem k453 : chk p453 tbF 3000 c453 = true := by decide +kernel
theorem t453 {J : Jt} {X : Tok} {et : Nat → Option va_E} (hX : tOk X) (hH : HandT J X et) (hJ : JS DJ J) : ctrT ivG J X et c453 := ctr_ok tbF_ok hX hJ (by decide) rfl rfl k453 ct0
/-- MRm_stone -/
noncomputable def c454 : Ctr := (156, [aR 81], some [aT], [(81, 3), (81, 4), (81, 19), (81, 20), (83, 0), (84, 0), (85, 0), (86, 0), (87, 0)], 4)
noncomputable def p454 : Pg := ([(156, 39, [some none, some none, none], [(83, 0), (83, 1), (83, 2), (83, 3), (83, 4), (83, 5), (84, 0), (84, 12), (84, 24), (84, 36), (84, 48), (84, 60), (85, 0), (85, 12), (85, 24), (85, 36), (85, 48), (85, 60), (86, 0), (86, 12), (86, 24), (86, 36), (86, 48), (86, 60)], .inr (.inr (83, 1)), true), (156, 85, [some none, some none, some (some (0, 4))], [], .inl 2, true)], [(156, 27, 1, none)], [c450, c451, c452, c453], ivG, [(81, 3), (81, 4), (81, 19), (81, 20), (83, 0), (84, 0), (85, 0), (86, 0), (87, 0)], none)
theorem k454 : chk p454 tbF 3000 c454 = true := by decide +kernel
theorem t454 {J : Jt} {X : Tok} {et : Nat → Option va_E} (hX : tOk X) (hH : HandT J X et) (hJ : JS DJ J) : ctrT ivG J X et c454 := ctr_ok tbF_ok hX hJ (by decide) rfl rfl k454 (ct1 (t450 hX hH hJ) (ct1 (t451 hX hH hJ) (ct1 (t452 hX hH hJ) (ct1 (t453 hX hH hJ) ct0))))
/-- MRm_sumOf -/
noncomputable def c455 : Ctr := (157, [aR 81, aI 0 5, aI 0 0, aI 0 0], some [aT], [], 0)
noncomputable def p455 : Pg := ([(157, 6, [some none, some none, some none, some none, some (some ((-2147483648), 2147483647)), some (some (0, 12)), none, none, none], [], .inl 5, true)], [], [], ivG, [], none)
theorem k455 : chk p455 tbF 3000 c455 = true := by decide +kernel
theorem t455 {J : Jt} {X : Tok} {et : Nat → Option va_E} (hX : tOk X) (hH : HandT J X et) (hJ : JS DJ J) : ctrT ivG J X et c455 := ctr_ok tbF_ok hX hJ (by decide) rfl rfl k455 ct0
/-- MRm_sumOf -/
noncomputable def c456 : Ctr := (157, [aR 81, aI 0 5, aI 2 2, aI 0 0], some [aT], [], 0)
noncomputable def p456 : Pg := ([(157, 6, [some none, some none, some none, some none, some (some ((-2147483648), 2147483647)), some (some (0, 12)), none, none, none], [], .inl 5, true), (157, 38, [some none, some none, some none, some none, some none, some none, some none, some (some ((-2147483648), 2147483647)), some (some (0, 2))], [], .inl 8, true), (157, 111, [some none, some none, some none, some none, some none, some (some ((-2147483648), 2147483647)), some (some (0, 2)), none, none], [], .inl 6, true)], [], [], ivG, [], none)
theorem k456 : chk p456 tbF 3000 c456 = true := by decide +kernel
theorem t456 {J : Jt} {X : Tok} {et : Nat → Option va_E} (hX : tOk X) (hH : HandT J X et) (hJ : JS DJ J) : ctrT ivG J X et c456 := ctr_ok tbF_ok hX hJ (by decide) rfl rfl k456 ct0
/-- MRm_sumOf -/
noncomputable def c457 : Ctr := (157, [aR 81, aI 0 5, aI 1 1, aI 0 0], some [aT], [], 0)
noncomputable def p457 : Pg := ([(157, 6, [some none, some none, some none, some none, some (some ((-2147483648), 2147483647)), some (some (0, 12)), none, none, none], [], .inl 5, true), (157, 38, [some none, some none, some none, some none, some none, some none, some none, some (some ((-2147483648), 2147483647)), some (some (0, 1))], [], .inl 8, true), (157, 111, [some none, some none, some none, some none, some none, some (some ((-2147483648), 2147483647)), some (some (0, 1)), none, none], [], .inl 6, true)], [], [], ivG, [], none)
theorem k457 : chk p457 tbF 3000 c457 = true := by decide +kernel
theorem t457 {J : Jt} {X : Tok} {et : Nat → Option va_E} (hX : tOk X) (hH : HandT J X et) (hJ : JS DJ J) : ctrT ivG J X et c457 := ctr_ok tbF_ok hX hJ (by decide) rfl rfl k457 ct0
/-- MRm_sumOf -/
noncomputable def c458 : Ctr := (157, [aR 81, aI 0 5, aI 0 0, aI 2 2], some [aT], [], 0)
noncomputable def p458 : Pg := ([(157, 6, [some none, some none, some none, some none, some (some ((-2147483648), 2147483647)), some (some (0, 12)), none, none, none], [], .inl 5, true), (157, 65, [some none, some none, some none, some none, some none, some none, some none, some (some ((-2147483648), 2147483647)), some (some (0, 2))], [], .inl 8, true), (157, 135, [some none, some none, some none, some none, some none, some (some ((-2147483648), 2147483647)), some (some (0, 2)), none, none], [], .inl 6, true)], [], [], ivG, [], none)
theorem k458 : chk p458 tbF 3000 c458 = true := by decide +kernel
theorem t458 {J : Jt} {X : Tok} {et : Nat → Option va_E} (hX : tOk X) (hH : HandT J X et) (hJ : JS DJ J) : ctrT ivG J X et c458 := ctr_ok tbF_ok hX hJ (by decide) rfl rfl k458 ct0
/-- MRm_sumOf -/
noncomputable def c459 : Ctr := (157, [aR 81, aI 0 5, aI 0 0, aI 1 1], some [aT], [], 0)
noncomputable def p459 : Pg := ([(157, 6, [some none, some none, some none, some none, some (some ((-2147483648), 2147483647)), some (some (0, 12)), none, none, none], [], .inl 5, true), (157, 65, [some none, some none, some none, some none, some none, some none, some none, some (some ((-2147483648), 2147483647)), some (some (0, 1))], [], .inl 8, true), (157, 135, [some none, some none, some none, some none, some none, some (some ((-2147483648), 2147483647)), some (some (0, 1)), none, none], [], .inl 6, true)], [], [], ivG, [], none)
theorem k459 : chk p459 tbF 3000 c459 = true := by decide +kernel
theorem t459 {J : Jt} {X : Tok} {et : Nat → Option va_E} (hX : tOk X) (hH : HandT J X et) (hJ : JS DJ J) : ctrT ivG J X et c459 := ctr_ok tbF_ok hX hJ (by decide) rfl rfl k459 ct0
/-- MRm_sumOf -/
noncomputable def c460 : Ctr := (157, [aR 81, aI 0 5, aI 1 1, aI 1 1], some [aT], [], 0)
noncomputable def p460 : Pg := ([(157, 6, [some none, some none, some none, some none, some (some ((-2147483648), 2147483647)), some (some (0, 12)), none, none, none], [], .inl 5, true), (157, 38, [some none, some none, some none, some none, some none, some none, some none, some (some ((-2147483648), 2147483647)), some (some (0, 1))], [], .inl 8, true), (157, 65, [some none, some none, some none, some none, some none, some none, some none, some (some ((-2147483648), 2147483647)), some (some (0, 1))], [], .inl 8, true), (157, 111, [some none, some none, some none, some none, some none, some (some ((-2147483648), 2147483647)), some (some (0, 1)), none, none], [], .inl 6, true), (157, 135, [some none, some none, some none, some none, some none, some (some ((-2147483648), 2147483647)), some (some (0, 1)), none, none], [], .inl 6, true)], [], [], ivG, [], none)
theorem k460 : chk p460 tbF 3000 c460 = true := by decide +kernel
theorem t460 {J : Jt} {X : Tok} {et : Nat → Option va_E} (hX : tOk X) (hH : HandT J X et) (hJ : JS DJ J) : ctrT ivG J X et c460 := ctr_ok tbF_ok hX hJ (by decide) rfl rfl k460 ct0
/-- MRm_wideX -/
noncomputable def c461 : Ctr := (158, [aR 81, aI 0 5], some [aT], [], 1)
noncomputable def p461 : Pg := ([], [], [c455, c456, c457], ivG, [], none)
theorem k461 : chk p461 tbF 3000 c461 = true := by decide +kernel
theorem t461 {J : Jt} {X : Tok} {et : Nat → Option va_E} (hX : tOk X) (hH : HandT J X et) (hJ : JS DJ J) : ctrT ivG J X et c461 := ctr_ok tbF_ok hX hJ (by decide) rfl rfl k461 (ct1 (t455 hX hH hJ) (ct1 (t456 hX hH hJ) (ct1 (t457 hX hH hJ) ct0)))
/-- MRm_wideY -/
noncomputable def c462 : Ctr := (159, [aR 81, aI 0 5], some [aT], [], 1)
noncomputable def p462 : Pg := ([], [], [c455, c458, c459], ivG, [], none)
theorem k462 : chk p462 tbF 3000 c462 = true := by decide +kernel
theorem t462 {J : Jt} {X : Tok} {et : Nat → Option va_E} (hX : tOk X) (hH : HandT J X et) (hJ : JS DJ J) : ctrT ivG J X et c462 := ctr_ok tbF_ok hX hJ (by decide) rfl rfl k462 (ct1 (t455 hX hH hJ) (ct1 (t458 hX hH hJ) (ct1 (t459 hX hH hJ) ct0)))
/-- MRm_slant -/
noncomputable def c463 : Ctr := (160, [aR 81, aI 0 5], some [aT], [], 1)
noncomputable def p463 : Pg := ([], [], [c455, c457, c459, c460], ivG, [], none)
theorem k463 : chk p463 tbF 3000 c463 = true := by decide +kernel
theorem t463 {J : Jt} {X : Tok} {et : Nat → Option va_E} (hX : tOk X) (hH : HandT J X et) (hJ : JS DJ J) : ctrT ivG J X et c463 := ctr_ok tbF_ok hX hJ (by decide) rfl rfl k463 (ct1 (t455 hX hH hJ) (ct1 (t457 hX hH hJ) (ct1 (t459 hX hH hJ) (ct1 (t460 hX hH hJ) ct0))))
/-- MRm_keenOf -/
noncomputable def c464 : Ctr := (161, [aR 81, aI 0 5], some [aI (-9) 9], [], 2)
noncomputable def p464 : Pg := ([], [], [c461, c462, c463], ivG, [], none)
theorem k464 : chk p464 tbF 3000 c464 = true := by decide +kernel
theorem t464 {J : Jt} {X : Tok} {et : Nat → Option va_E} (hX : tOk X) (hH : HandT J X et) (hJ : JS DJ J) : ctrT ivG J X et c464 := ctr_ok tbF_ok hX hJ (by decide) rfl rfl k464 (ct1 (t461 hX hH hJ) (ct1 (t462 hX hH hJ) (ct1 (t463 hX hH hJ) ct0)))
/-- MRm_of -/
noncomputable def c465 : Ctr := (162, [aR 81, aT, aT], some [aT], [], 3)
noncomputable def p465 : Pg := ([], [], [c455, c461, c462, c463, c464], ivG, [], none)
theorem k465 : chk p465 tbF 3000 c465 = true := by decide +kernel
theorem t465 {J : Jt} {X : Tok} {et : Nat → Option va_E} (hX : tOk X) (hH : HandT J X et) (hJ : JS DJ J) : ctrT ivG J X et c465 := ctr_ok tbF_ok hX hJ (by decide) rfl rfl k465 (ct1 (t455 hX hH hJ) (ct1 (t461 hX hH hJ) (ct1 (t462 hX hH hJ) (ct1 (t463 hX hH hJ) (ct1 (t464 hX hH hJ) ct0)))))
/-- MRm_lump -/
noncomputable def c466 : Ctr := (163, [aR 81, aT, aT, aT], some [aT], [], 2)
noncomputable def p466 : Pg := ([], [], [], ivG, [], none)
theorem k466 : chk p466 tbF 3000 c466 = true := by decide +kernel
theorem t466 {J : Jt} {X : Tok} {et : Nat → Option va_E} (hX : tOk X) (hH : HandT J X et) (hJ : JS DJ J) : ctrT ivG J X et c466 := ctr_ok tbF_ok hX hJ (by decide) rfl rfl k466 ct0
/-- MRm_grows -/
noncomputable def c468 : Ctr := (189, [aR 81, aT, aT], some [aI (-1) 2], [], 3)
noncomputable def p468 : Pg := ([], [], [c464], ivG, [], none)
theorem k468 : chk p468 tbF 3000 c468 = true := by decide +kernel
theorem t468 {J : Jt} {X : Tok} {et : Nat → Option va_E} (hX : tOk X) (hH : HandT J X et) (hJ : JS DJ J) : ctrT ivG J X et c468 := ctr_ok tbF_ok hX hJ (by decide) rfl rfl k468 (ct1 (t464 hX hH hJ) ct0)
/-- MRm_held -/
noncomputable def c469 : Ctr := (147, [aT, aT, aT], some [aT], [], 0)
noncomputable def p469 : Pg := ([], [], [], ivG, [], none)
theorem k469 : chk p469 tbF 3000 c469 = true := by decide +kernel
theorem t469 {J : Jt} {X : Tok} {et : Nat → Option va_E} (hX : tOk X) (hH : HandT J X et) (hJ : JS DJ J) : ctrT ivG J X et c469 := ctr_ok tbF_ok hX hJ (by decide) rfl rfl k469 ct0
/-- MRm_sizeOf -/
noncomputable def c470 : Ctr := (146, [aT], some [aT], [], 0)
noncomputable def p470 : Pg := ([], [], [], ivG, [], none)
theorem k470 : chk p470 tbF 3000 c470 = true := by decide +kernel
theorem t470 {J : Jt} {X : Tok} {et : Nat → Option va_E} (hX : tOk X) (hH : HandT J X et) (hJ : JS DJ J) : ctrT ivG J X et c470 := ctr_ok tbF_ok hX hJ (by decide) rfl rfl k470 ct0
/-- MRm_takenBy -/
noncomputable def c471 : Ctr := (193, [aR 81, aI 0 3, aT, aT, aT], some [aT], [(97, 0), (98, 0)], 5)
noncomputable def p471 : Pg := ([], [], [h5, c469, c470], ivG, [(97, 0), (98, 0)], none)
theorem k471 : chk p471 tbF 3000 c471 = true := by decide +kernel
theorem t471 {J : Jt} {X : Tok} {et : Nat → Option va_E} (hX : tOk X) (hH : HandT J X et) (hJ : JS DJ J) : ctrT ivG J X et c471 := ctr_ok tbF_ok hX hJ (by decide) rfl rfl k471 (ct1 (hH _ (by simp [handL])) (ct1 (t469 hX hH hJ) (ct1 (t470 hX hH hJ) ct0)))
/-- MRm_takenBy -/
noncomputable def c472 : Ctr := (193, [aR 81, aI 9 9, aT, aT, aT], some [aI 0 0], [], 0)
noncomputable def p472 : Pg := ([], [], [], ivG, [], none)
theorem k472 : chk p472 tbF 3000 c472 = true := by decide +kernel
theorem t472 {J : Jt} {X : Tok} {et : Nat → Option va_E} (hX : tOk X) (hH : HandT J X et) (hJ : JS DJ J) : ctrT ivG J X et c472 := ctr_ok tbF_ok hX hJ (by decide) rfl rfl k472 ct0
/-- MRm_takenBy -/
noncomputable def c473 : Ctr := (193, [aR 81, aI (-100) (-1), aT, aT, aT], some [aT], [], 1)
noncomputable def p473 : Pg := ([], [], [c469], ivG, [], none)
theorem k473 : chk p473 tbF 3000 c473 = true := by decide +kernel
theorem t473 {J : Jt} {X : Tok} {et : Nat → Option va_E} (hX : tOk X) (hH : HandT J X et) (hJ : JS DJ J) : ctrT ivG J X et c473 := ctr_ok tbF_ok hX hJ (by decide) rfl rfl k473 (ct1 (t469 hX hH hJ) ct0)
/-- MRm_go -/
noncomputable def c474 : Ctr := (194, [aR 81, aI 0 5, aT, aI 0 3, aT], none, [(81, 31), (81, 32), (81, 33), (81, 34), (81, 35), (81, 36), (97, 0), (98, 0)], 6)
noncomputable def p474 : Pg := ([], [], [c469, c470, c471], ivG, [(81, 31), (81, 32), (81, 33), (81, 34), (81, 35), (81, 36), (97, 0), (98, 0)], none)
theorem k474 : chk p474 tbF 3000 c474 = true := by decide +kernel
theorem t474 {J : Jt} {X : Tok} {et : Nat → Option va_E} (hX : tOk X) (hH : HandT J X et) (hJ : JS DJ J) : ctrT ivG J X et c474 := ctr_ok tbF_ok hX hJ (by decide) rfl rfl k474 (ct1 (t469 hX hH hJ) (ct1 (t470 hX hH hJ) (ct1 (t471 hX hH hJ) ct0)))
