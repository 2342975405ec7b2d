-- ===== contracts that the checker shows, 6
/-- ask15 -/
noncomputable def c381 : Ctr := (8, [aR 16, aT, aT, aT, aI 15 15], some [aT], [(16, 4), (18, 0)], 53)
noncomputable def p381 : Pg := ([(8, 6, [some none, some none, some none, some none, some none, some (some ((-2147483648), 2147483647)), some (some (0, 8))], [], .inl 6, true)], [], [c353, c354, c380], ivG, [(16, 4), (18, 0)], none)
theorem k381 : chk p381 tbF 3000 c381 = true := by decide +kernel
theorem t381 {J : Jt} {X : Tok} {et : Nat → Option va_E} (hX : tOk X) (hH : HandT J X et) (hJ : JS DJ J) : ctrT ivG J X et c381 := ctr_ok tbF_ok hX hJ (by decide) rfl rfl k381 (ct1 (t353 hX hH hJ) (ct1 (t354 hX hH hJ) (ct1 (t380 hX hH hJ) ct0)))
/-- ask14 -/
noncomputable def c382 : Ctr := (8, [aR 16, aT, aT, aT, aI 14 14], some [aT], [(16, 4), (18, 0)], 55)
noncomputable def p382 : Pg := ([(8, 6, [some none, some none, some none, some none, some none, some (some ((-2147483648), 2147483647)), some (some (0, 8))], [], .inl 6, true)], [], [c353, c354, c381], ivG, [(16, 4), (18, 0)], none)
theorem k382 : chk p382 tbF 3000 c382 = true := by decide +kernel
theorem t382 {J : Jt} {X : Tok} {et : Nat → Option va_E} (hX : tOk X) (hH : HandT J X et) (hJ : JS DJ J) : ctrT ivG J X et c382 := ctr_ok tbF_ok hX hJ (by decide) rfl rfl k382 (ct1 (t353 hX hH hJ) (ct1 (t354 hX hH hJ) (ct1 (t381 hX hH hJ) ct0)))
/-- ask13 -/
noncomputable def c383 : Ctr := (8, [aR 16, aT, aT, aT, aI 13 13], some [aT], [(16, 4), (18, 0)], 57)
noncomputable def p383 : Pg := ([(8, 6, [some none, some none, some none, some none, some none, some (some ((-2147483648), 2147483647)), some (some (0, 8))], [], .inl 6, true)], [], [c353, c354, c382], ivG, [(16, 4), (18, 0)], none)
theorem k383 : chk p383 tbF 3000 c383 = true := by decide +kernel
theorem t383 {J : Jt} {X : Tok} {et : Nat → Option va_E} (hX : tOk X) (hH : HandT J X et) (hJ : JS DJ J) : ctrT ivG J X et c383 := ctr_ok tbF_ok hX hJ (by decide) rfl rfl k383 (ct1 (t353 hX hH hJ) (ct1 (t354 hX hH hJ) (ct1 (t382 hX hH hJ) ct0)))
/-- ask12 -/
noncomputable def c384 : Ctr := (8, [aR 16, aT, aT, aT, aI 12 12], some [aT], [(16, 4), (18, 0)], 59)
noncomputable def p384 : Pg := ([(8, 6, [some none, some none, some none, some none, some none, some (some ((-2147483648), 2147483647)), some (some (0, 8))], [], .inl 6, true)], [], [c353, c354, c383], ivG, [(16, 4), (18, 0)], none)
theorem k384 : chk p384 tbF 3000 c384 = true := by decide +kernel
theorem t384 {J : Jt} {X : Tok} {et : Nat → Option va_E} (hX : tOk X) (hH : HandT J X et) (hJ : JS DJ J) : ctrT ivG J X et c384 := ctr_ok tbF_ok hX hJ (by decide) rfl rfl k384 (ct1 (t353 hX hH hJ) (ct1 (t354 hX hH hJ) (ct1 (t383 hX hH hJ) ct0)))
/-- ask11 -/
noncomputable def c385 : Ctr := (8, [aR 16, aT, aT, aT, aI 11 11], some [aT], [(16, 4), (18, 0)], 61)
noncomputable def p385 : Pg := ([(8, 6, [some none, some none, some none, some none, some none, some (some ((-2147483648), 2147483647)), some (some (0, 8))], [], .inl 6, true)], [], [c353, c354, c384], ivG, [(16, 4), (18, 0)], none)
theorem k385 : chk p385 tbF 3000 c385 = true := by decide +kernel
theorem t385 {J : Jt} {X : Tok} {et : Nat → Option va_E} (hX : tOk X) (hH : HandT J X et) (hJ : JS DJ J) : ctrT ivG J X et c385 := ctr_ok tbF_ok hX hJ (by decide) rfl rfl k385 (ct1 (t353 hX hH hJ) (ct1 (t354 hX hH hJ) (ct1 (t384 hX hH hJ) ct0)))
/-- ask10 -/
noncomputable def c386 : Ctr := (8, [aR 16, aT, aT, aT, aI 10 10], some [aT], [(16, 4), (18, 0)], 63)
noncomputable def p386 : Pg := ([(8, 6, [some none, some none, some none, some none, some none, some (some ((-2147483648), 2147483647)), some (some (0, 8))], [], .inl 6, true)], [], [c353, c354, c385], ivG, [(16, 4), (18, 0)], none)
theorem k386 : chk p386 tbF 3000 c386 = true := by decide +kernel
theorem t386 {J : Jt} {X : Tok} {et : Nat → Option va_E} (hX : tOk X) (hH : HandT J X et) (hJ : JS DJ J) : ctrT ivG J X et c386 := ctr_ok tbF_ok hX hJ (by decide) rfl rfl k386 (ct1 (t353 hX hH hJ) (ct1 (t354 hX hH hJ) (ct1 (t385 hX hH hJ) ct0)))
/-- ask9 -/
noncomputable def c387 : Ctr := (8, [aR 16, aT, aT, aT, aI 9 9], some [aT], [(16, 4), (18, 0)], 65)
noncomputable def p387 : Pg := ([(8, 6, [some none, some none, some none, some none, some none, some (some ((-2147483648), 2147483647)), some (some (0, 8))], [], .inl 6, true)], [], [c353, c354, c386], ivG, [(16, 4), (18, 0)], none)
theorem k387 : chk p387 tbF 3000 c387 = true := by decide +kernel
theorem t387 {J : Jt} {X : Tok} {et : Nat → Option va_E} (hX : tOk X) (hH : HandT J X et) (hJ : JS DJ J) : ctrT ivG J X et c387 := ctr_ok tbF_ok hX hJ (by decide) rfl rfl k387 (ct1 (t353 hX hH hJ) (ct1 (t354 hX hH hJ) (ct1 (t386 hX hH hJ) ct0)))
/-- ask8 -/
noncomputable def c388 : Ctr := (8, [aR 16, aT, aT, aT, aI 8 8], some [aT], [(16, 4), (18, 0)], 67)
noncomputable def p388 : Pg := ([(8, 6, [some none, some none, some none, some none, some none, some (some ((-2147483648), 2147483647)), some (some (0, 8))], [], .inl 6, true)], [], [c353, c354, c387], ivG, [(16, 4), (18, 0)], none)
theorem k388 : chk p388 tbF 3000 c388 = true := by decide +kernel
theorem t388 {J : Jt} {X : Tok} {et : Nat → Option va_E} (hX : tOk X) (hH : HandT J X et) (hJ : JS DJ J) : ctrT ivG J X et c388 := ctr_ok tbF_ok hX hJ (by decide) rfl rfl k388 (ct1 (t353 hX hH hJ) (ct1 (t354 hX hH hJ) (ct1 (t387 hX hH hJ) ct0)))
/-- ask7 -/
noncomputable def c389 : Ctr := (8, [aR 16, aT, aT, aT, aI 7 7], some [aT], [(16, 4), (18, 0)], 69)
noncomputable def p389 : Pg := ([(8, 6, [some none, some none, some none, some none, some none, some (some ((-2147483648), 2147483647)), some (some (0, 8))], [], .inl 6, true)], [], [c353, c354, c388], ivG, [(16, 4), (18, 0)], none)
theorem k389 : chk p389 tbF 3000 c389 = true := by decide +kernel
theorem t389 {J : Jt} {X : Tok} {et : Nat → Option va_E} (hX : tOk X) (hH : HandT J X et) (hJ : JS DJ J) : ctrT ivG J X et c389 := ctr_ok tbF_ok hX hJ (by decide) rfl rfl k389 (ct1 (t353 hX hH hJ) (ct1 (t354 hX hH hJ) (ct1 (t388 hX hH hJ) ct0)))
/-- ask6 -/
noncomputable def c390 : Ctr := (8, [aR 16, aT, aT, aT, aI 6 6], some [aT], [(16, 4), (18, 0)], 71)
noncomputable def p390 : Pg := ([(8, 6, [some none, some none, some none, some none, some none, some (some ((-2147483648), 2147483647)), some (some (0, 8))], [], .inl 6, true)], [], [c353, c354, c389], ivG, [(16, 4), (18, 0)], none)
theorem k390 : chk p390 tbF 3000 c390 = true := by decide +kernel
theorem t390 {J : Jt} {X : Tok} {et : Nat → Option va_E} (hX : tOk X) (hH : HandT J X et) (hJ : JS DJ J) : ctrT ivG J X et c390 := ctr_ok tbF_ok hX hJ (by decide) rfl rfl k390 (ct1 (t353 hX hH hJ) (ct1 (t354 hX hH hJ) (ct1 (t389 hX hH hJ) ct0)))
/-- ask5 -/
noncomputable def c391 : Ctr := (8, [aR 16, aT, aT, aT, aI 5 5], some [aT], [(16, 4), (18, 0)], 73)
noncomputable def p391 : Pg := ([(8, 6, [some none, some none, some none, some none, some none, some (some ((-2147483648), 2147483647)), some (some (0, 8))], [], .inl 6, true)], [], [c353, c354, c390], ivG, [(16, 4), (18, 0)], none)
theorem k391 : chk p391 tbF 3000 c391 = true := by decide +kernel
theorem t391 {J : Jt} {X : Tok} {et : Nat → Option va_E} (hX : tOk X) (hH : HandT J X et) (hJ : JS DJ J) : ctrT ivG J X et c391 := ctr_ok tbF_ok hX hJ (by decide) rfl rfl k391 (ct1 (t353 hX hH hJ) (ct1 (t354 hX hH hJ) (ct1 (t390 hX hH hJ) ct0)))
/-- ask4 -/
noncomputable def c392 : Ctr := (8, [aR 16, aT, aT, aT, aI 4 4], some [aT], [(16, 4), (18, 0)], 75)
noncomputable def p392 : Pg := ([(8, 6, [some none, some none, some none, some none, some none, some (some ((-2147483648), 2147483647)), some (some (0, 8))], [], .inl 6, true)], [], [c353, c354, c391], ivG, [(16, 4), (18, 0)], none)
theorem k392 : chk p392 tbF 3000 c392 = true := by decide +kernel
theorem t392 {J : Jt} {X : Tok} {et : Nat → Option va_E} (hX : tOk X) (hH : HandT J X et) (hJ : JS DJ J) : ctrT ivG J X et c392 := ctr_ok tbF_ok hX hJ (by decide) rfl rfl k392 (ct1 (t353 hX hH hJ) (ct1 (t354 hX hH hJ) (ct1 (t391 hX hH hJ) ct0)))
/-- ask3 -/
noncomputable def c393 : Ctr := (8, [aR 16, aT, aT, aT, aI 3 3], some [aT], [(16, 4), (18, 0)], 77)
noncomputable def p393 : Pg := ([(8, 6, [some none, some none, some none, some none, some none, some (some ((-2147483648), 2147483647)), some (some (0, 8))], [], .inl 6, true)], [], [c353, c354, c392], ivG, [(16, 4), (18, 0)], none)
theorem k393 : chk p393 tbF 3000 c393 = true := by decide +kernel
theorem t393 {J : Jt} {X : Tok} {et : Nat → Option va_E} (hX : tOk X) (hH : HandT J X et) (hJ : JS DJ J) : ctrT ivG J X et c393 := ctr_ok tbF_ok hX hJ (by decide) rfl rfl k393 (ct1 (t353 hX hH hJ) (ct1 (t354 hX hH hJ) (ct1 (t392 hX hH hJ) ct0)))
/-- ask2 -/
noncomputable def c394 : Ctr := (8, [aR 16, aT, aT, aT, aI 2 2], some [aT], [(16, 4), (18, 0)], 79)
noncomputable def p394 : Pg := ([(8, 6, [some none, some none, some none, some none, some none, some (some ((-2147483648), 2147483647)), some (some (0, 8))], [], .inl 6, true)], [], [c353, c354, c393], ivG, [(16, 4), (18, 0)], none)
theorem k394 : chk p394 tbF 3000 c394 = true := by decide +kernel
theorem t394 {J : Jt} {X : Tok} {et : Nat → Option va_E} (hX : tOk X) (hH : HandT J X et) (hJ : JS DJ J) : ctrT ivG J X et c394 := ctr_ok tbF_ok hX hJ (by decide) rfl rfl k394 (ct1 (t353 hX hH hJ) (ct1 (t354 hX hH hJ) (ct1 (t393 hX hH hJ) ct0)))
/-- ask1 -/
noncomputable def c395 : Ctr := (8, [aR 16, aT, aT, aT, aI 1 1], some [aT], [(16, 4), (18, 0)], 81)
noncomputable def p395 : Pg := ([(8, 6, [some none, some none, some none, some none, some none, some (some ((-2147483648), 2147483647)), some (some (0, 8))], [], .inl 6, true)], [], [c353, c354, c394], ivG, [(16, 4), (18, 0)], none)
theorem k395 : chk p395 tbF 3000 c395 = true := by decide +kernel
theorem t395 {J : Jt} {X : Tok} {et : Nat → Option va_E} (hX : tOk X) (hH : HandT J X et) (hJ : JS DJ J) : ctrT ivG J X et c395 := ctr_ok tbF_ok hX hJ (by decide) rfl rfl k395 (ct1 (t353 hX hH hJ) (ct1 (t354 hX hH hJ) (ct1 (t394 hX hH hJ) ct0)))
/-- ask0 -/
noncomputable def c396 : Ctr := (8, [aR 16, aT, aT, aT, aI 0 0], some [aT], [(16, 4), (18, 0)], 83)
noncomputable def p396 : Pg := ([(8, 6, [some none, some none, some none, some none, some none, some (some ((-2147483648), 2147483647)), some (some (0, 8))], [], .inl 6, true)], [], [c353, c354, c395], ivG, [(16, 4), (18, 0)], none)
theorem k396 : chk p396 tbF 3000 c396 = true := by decide +kernel
theorem t396 {J : Jt} {X : Tok} {et : Nat → Option va_E} (hX : tOk X) (hH : HandT J X et) (hJ : JS DJ J) : ctrT ivG J X et c396 := ctr_ok tbF_ok hX hJ (by decide) rfl rfl k396 (ct1 (t353 hX hH hJ) (ct1 (t354 hX hH hJ) (ct1 (t395 hX hH hJ) ct0)))
/-- MBo_perform -/
noncomputable def c397 : Ctr := (7, [aR 16, aT, aT, aT], some [aT], [(16, 4), (16, 5), (16, 6), (18, 0)], 84)
noncomputable def p397 : Pg := ([], [], [c396], ivG, [(16, 4), (16, 5), (16, 6), (18, 0)], none)
theorem k397 : chk p397 tbF 3000 c397 = true := by decide +kernel
theorem t397 {J : Jt} {X : Tok} {et : Nat → Option va_E} (hX : tOk X) (hH : HandT J X et) (hJ : JS DJ J) : ctrT ivG J X et c397 := ctr_ok tbF_ok hX hJ (by decide) rfl rfl k397 (ct1 (t396 hX hH hJ) ct0)
/-- MBo_isUnder -/
noncomputable def c398 : Ctr := (4, [aT, aT], some [aI 0 1], [], 1)
noncomputable def p398 : Pg := ([(4, 4, [some none, some none, some (some ((-2147483648), 2147483647)), some (some (0, 8))], [], .inl 3, true)], [], [c354], ivG, [], none)
theorem k398 : chk p398 tbF 3000 c398 = true := by decide +kernel
theorem t398 {J : Jt} {X : Tok} {et : Nat → Option va_E} (hX : tOk X) (hH : HandT J X et) (hJ : JS DJ J) : ctrT ivG J X et c398 := ctr_ok tbF_ok hX hJ (by decide) rfl rfl k398 (ct1 (t354 hX hH hJ) ct0)
/-- MCh_write -/
noncomputable def c399 : Ctr := (12, [aR 14, aT, aT], none, [(15, 0)], 0)
noncomputable def p399 : Pg := ([], [], [], ivG, [(15, 0)], none)
theorem k399 : chk p399 tbF 3000 c399 = true := by decide +kernel
theorem t399 {J : Jt} {X : Tok} {et : Nat → Option va_E} (hX : tOk X) (hH : HandT J X et) (hJ : JS DJ J) : ctrT ivG J X et c399 := ctr_ok tbF_ok hX hJ (by decide) rfl rfl k399 ct0
/-- MCh_note -/
noncomputable def c400 : Ctr := (11, [aR 14, aT, aT, aT, aT], none, [(14, 2), (14, 3), (15, 0)], 1)
noncomputable def p400 : Pg := ([], [], [c399], ivG, [(14, 2), (14, 3), (15, 0)], none)
theorem k400 : chk p400 tbF 3000 c400 = true := by decide +kernel
theorem t400 {J : Jt} {X : Tok} {et : Nat → Option va_E} (hX : tOk X) (hH : HandT J X et) (hJ : JS DJ J) : ctrT ivG J X et c400 := ctr_ok tbF_ok hX hJ (by decide) rfl rfl k400 (ct1 (t399 hX hH hJ) ct0)
/-- MCh_part -/
noncomputable def c401 : Ctr := (13, [aR 14, aT, aT], some [aT], [], 0)
noncomputable def p401 : Pg := ([], [], [], ivG, [], none)
theorem k401 : chk p401 tbF 3000 c401 = true := by decide +kernel
theorem t401 {J : Jt} {X : Tok} {et : Nat → Option va_E} (hX : tOk X) (hH : HandT J X et) (hJ : JS DJ J) : ctrT ivG J X et c401 := ctr_ok tbF_ok hX hJ (by decide) rfl rfl k401 ct0
/-- MTo_changeTo -/
noncomputable def c402 : Ctr := (143, [aR 0, aT], none, [(19, 6), (19, 7), (19, 8), (19, 9), (19, 10), (19, 11), (20, 0), (23, 0), (24, 6), (24, 7), (24, 8), (24, 9), (24, 10), (24, 11), (25, 0), (28, 0), (29, 6), (29, 7), (29, 8), (29, 9), (29, 10), (29, 11), (30, 0), (33, 0), (34, 6), (34, 7), (34, 8), (34, 9), (34, 10), (34, 11), (35, 0), (38, 0), (39, 6), (39, 7), (39, 8), (39, 9), (39, 10), (39, 11), (40, 0), (43, 0), (44, 6), (44, 7), (44, 8), (44, 9), (44, 10), (44, 11), (45, 0), (48, 0)], 2)
noncomputable def p402 : Pg := ([], [], [c0, c15, c26, c37, c48, c59, c70, c401], ivG, [(19, 6), (19, 7), (19, 8), (19, 9), (19, 10), (19, 11), (20, 0), (23, 0), (24, 6), (24, 7), (24, 8), (24, 9), (24, 10), (24, 11), (25, 0), (28, 0), (29, 6), (29, 7), (29, 8), (29, 9), (29, 10), (29, 11), (30, 0), (33, 0), (34, 6), (34, 7), (34, 8), (34, 9), (34, 10), (34, 11), (35, 0), (38, 0), (39, 6), (39, 7), (39, 8), (39, 9), (39, 10), (39, 11), (40, 0), (43, 0), (44, 6), (44, 7), (44, 8), (44, 9), (44, 10), (44, 11), (45, 0), (48, 0)], none)
theorem k402 : chk p402 tbF 3000 c402 = true := by decide +kernel
theorem t402 {J : Jt} {X : Tok} {et : Nat → Option va_E} (hX : tOk X) (hH : HandT J X et) (hJ : JS DJ J) : ctrT ivG J X et c402 := ctr_ok tbF_ok hX hJ (by decide) rfl rfl k402 (ct1 (t0 hX hH hJ) (ct1 (t15 hX hH hJ) (ct1 (t26 hX hH hJ) (ct1 (t37 hX hH hJ) (ct1 (t48 hX hH hJ) (ct1 (t59 hX hH hJ) (ct1 (t70 hX hH hJ) (ct1 (t401 hX hH hJ) ct0))))))))
