-- ===== contracts that the checker shows, 6
/-- ask13 -/
noncomputable def c383 : Ctr := (8, [aR 16, aT, aT, aT, aI 13 13], some [aT], [(16, 4), (18, 0)], 57)
noncomputable def p383 : Pg := ([(8, 6, [some none, some none, some none, some none, some none, some (some ((-2147483648), 2147483647)), some (some (0, 8))], [], .inl 6, true)], [], [c353, c354, c382], ivG, [(16, 4), (18, 0)], none)
theorem k383 : chk p383 tbF 3000 c383 = true := by decide +kernel
theorem t383 {J : Jt} {X : Tok} {et : Nat → Option va_E} (hX : tOk X) (hH : HandT J X et) (hJ : JS DJ J) : ctrT ivG J X et c383 := ctr_ok tbF_ok hX hJ (by decide) rfl rfl k383 (ct1 (t353 hX hH hJ) (ct1 (t354 hX hH hJ) (ct1 (t382 hX hH hJ) ct0)))
/-- ask12 -/
noncomputable def c384 : Ctr := (8, [aR 16, aT, aT, aT, aI 12 12], some [aT], [(16, 4), (18, 0)], 59)
noncomputable def p384 : Pg := ([(8, 6, [some none, some none, some none, some none, some none, some (some ((-2147483648), 2147483647)), some (some (0, 8))], [], .inl 6, true)], [], [c353, c354, c383], ivG, [(16, 4), (18, 0)], none)
theorem k384 : chk p384 tbF 3000 c384 = true := by decide +kernel
theorem t384 {J : Jt} {X : Tok} {et : Nat → Option va_E} (hX : tOk X) (hH : HandT J X et) (hJ : JS DJ J) : ctrT ivG J X et c384 := ctr_ok tbF_ok hX hJ (by decide) rfl rfl k384 (ct1 (t353 hX hH hJ) (ct1 (t354 hX hH hJ) (ct1 (t383 hX hH hJ) ct0)))
/-- ask11 -/
noncomputable def c385 : Ctr := (8, [aR 16, aT, aT, aT, aI 11 11], some [aT], [(16, 4), (18, 0)], 61)
noncomputable def p385 : Pg := ([(8, 6, [some none, some none, some none, some none, some none, some (some ((-2147483648), 2147483647)), some (some (0, 8))], [], .inl 6, true)], [], [c353, c354, c384], ivG, [(16, 4), (18, 0)], none)
theorem k385 : chk p385 tbF 3000 c385 = true := by decide +kernel
theorem t385 {J : Jt} {X : Tok} {et : Nat → Option va_E} (hX : tOk X) (hH : HandT J X et) (hJ : JS DJ J) : ctrT ivG J X et c385 := ctr_ok tbF_ok hX hJ (by decide) rfl rfl k385 (ct1 (t353 hX hH hJ) (ct1 (t354 hX hH hJ) (ct1 (t384 hX hH hJ) ct0)))
/-- ask10 -/
noncomputable def c386 : Ctr := (8, [aR 16, aT, aT, aT, aI 10 10], some [aT], [(16, 4), (18, 0)], 63)
noncomputable def p386 : Pg := ([(8, 6, [some none, some none, some none, some none, some none, some (some ((-2147483648), 2147483647)), some (some (0, 8))], [], .inl 6, true)], [], [c353, c354, c385], ivG, [(16, 4), (18, 0)], none)
theorem k386 : chk p386 tbF 3000 c386 = true := by decide +kernel
theorem t386 {J : Jt} {X : Tok} {et : Nat → Option va_E} (hX : tOk X) (hH : HandT J X et) (hJ : JS DJ J) : ctrT ivG J X et c386 := ctr_ok tbF_ok hX hJ (by decide) rfl rfl k386 (ct1 (t353 hX hH hJ) (ct1 (t354 hX hH hJ) (ct1 (t385 hX hH hJ) ct0)))
/-- ask9 -/
noncomputable def c387 : Ctr := (8, [aR 16, aT, aT, aT, aI 9 9], some [aT], [(16, 4), (18, 0)], 65)
noncomputable def p387 : Pg := ([(8, 6, [some none, some none, some none, some none, some none, some (some ((-2147483648), 2147483647)), some (some (0, 8))], [], .inl 6, true)], [], [c353, c354, c386], ivG, [(16, 4), (18, 0)], none)
theorem k387 : chk p387 tbF 3000 c387 = true := by decide +kernel
theorem t387 {J : Jt} {X : Tok} {et : Nat → Option va_E} (hX : tOk X) (hH : HandT J X et) (hJ : JS DJ J) : ctrT ivG J X et c387 := ctr_ok tbF_ok hX hJ (by decide) rfl rfl k387 (ct1 (t353 hX hH hJ) (ct1 (t354 hX hH hJ) (ct1 (t386 hX hH hJ) ct0)))
/-- ask8 -/
noncomputable def c388 : Ctr := (8, [aR 16, aT, aT, aT, aI 8 8], some [aT], [(16, 4), (18, 0)], 67)
noncomputable def p388 : Pg := ([(8, 6, [some none, some none, some none, some none, some none, some (some ((-2147483648), 2147483647)), some (some (0, 8))], [], .inl 6, true)], [], [c353, c354, c387], ivG, [(16, 4), (18, 0)], none)
theorem k388 : chk p388 tbF 3000 c388 = true := by decide +kernel
theorem t388 {J : Jt} {X : Tok} {et : Nat → Option va_E} (hX : tOk X) (hH : HandT J X et) (hJ : JS DJ J) : ctrT ivG J X et c388 := ctr_ok tbF_ok hX hJ (by decide) rfl rfl k388 (ct1 (t353 hX hH hJ) (ct1 (t354 hX hH hJ) (ct1 (t387 hX hH hJ) ct0)))
/-- ask7 -/
noncomputable def c389 : Ctr := (8, [aR 16, aT, aT, aT, aI 7 7], some [aT], [(16, 4), (18, 0)], 69)
noncomputable def p389 : Pg := ([(8, 6, [some none, some none, some none, some none, some none, some (some ((-2147483648), 2147483647)), some (some (0, 8))], [], .inl 6, true)], [], [c353, c354, c388], ivG, [(16, 4), (18, 0)], none)
theorem k389 : chk p389 tbF 3000 c389 = true := by decide +kernel
theorem t389 {J : Jt} {X : Tok} {et : Nat → Option va_E} (hX : tOk X) (hH : HandT J X et) (hJ : JS DJ J) : ctrT ivG J X et c389 := ctr_ok tbF_ok hX hJ (by decide) rfl rfl k389 (ct1 (t353 hX hH hJ) (ct1 (t354 hX hH hJ) (ct1 (t388 hX hH hJ) ct0)))
/-- ask6 -/
noncomputable def c390 : Ctr := (8, [aR 16, aT, aT, aT, aI 6 6], some [aT], [(16, 4), (18, 0)], 71)
noncomputable def p390 : Pg := ([(8, 6, [some none, some none, some none, some none, some none, some (some ((-2147483648), 2147483647)), some (some (0, 8))], [], .inl 6, true)], [], [c353, c354, c389], ivG, [(16, 4), (18, 0)], none)
theorem k390 : chk p390 tbF 3000 c390 = true := by decide +kernel
theorem t390 {J : Jt} {X : Tok} {et : Nat → Option va_E} (hX : tOk X) (hH : HandT J X et) (hJ : JS DJ J) : ctrT ivG J X et c390 := ctr_ok tbF_ok hX hJ (by decide) rfl rfl k390 (ct1 (t353 hX hH hJ) (ct1 (t354 hX hH hJ) (ct1 (t389 hX hH hJ) ct0)))
/-- ask5 -/
noncomputable def c391 : Ctr := (8, [aR 16, aT, aT, aT, aI 5 5], some [aT], [(16, 4), (18, 0)], 73)
noncomputable def p391 : Pg := ([(8, 6, [some none, some none, some none, some none, some none, some (some ((-2147483648), 2147483647)), some (some (0, 8))], [], .inl 6, true)], [], [c353, c354, c390], ivG, [(16, 4), (18, 0)], none)
theorem k391 : chk p391 tbF 3000 c391 = true := by decide +kernel
theorem t391 {J : Jt} {X : Tok} {et : Nat → Option va_E} (hX : tOk X) (hH : HandT J X et) (hJ : JS DJ J) : ctrT ivG J X et c391 := ctr_ok tbF_ok hX hJ (by decide) rfl rfl k391 (ct1 (t353 hX hH hJ) (ct1 (t354 hX hH hJ) (ct1 (t390 hX hH hJ) ct0)))
/-- ask4 -/
noncomputable def c392 : Ctr := (8, [aR 16, aT, aT, aT, aI 4 4], some [aT], [(16, 4), (18, 0)], 75)
noncomputable def p392 : Pg := ([(8, 6, [some none, some none, some none, some none, some none, some (some ((-2147483648), 2147483647)), some (some (0, 8))], [], .inl 6, true)], [], [c353, c354, c391], ivG, [(16, 4), (18, 0)], none)
theorem k392 : chk p392 tbF 3000 c392 = true := by decide +kernel
theorem t392 {J : Jt} {X : Tok} {et : Nat → Option va_E} (hX : tOk X) (hH : HandT J X et) (hJ : JS DJ J) : ctrT ivG J X et c392 := ctr_ok tbF_ok hX hJ (by decide) rfl rfl k392 (ct1 (t353 hX hH hJ) (ct1 (t354 hX hH hJ) (ct1 (t391 hX hH hJ) ct0)))
/-- ask3 -/
noncomputable def c393 : Ctr := (8, [aR 16, aT, aT, aT, aI 3 3], some [aT], [(16, 4), (18, 0)], 77)
noncomputable def p393 : Pg := ([(8, 6, [some none, some none, some none, some none, some none, some (some ((-2147483648), 2147483647)), some (some (0, 8))], [], .inl 6, true)], [], [c353, c354, c392], ivG, [(16, 4), (18, 0)], none)
theorem k393 : chk p393 tbF 3000 c393 = true := by decide +kernel
theorem t393 {J : Jt} {X : Tok} {et : Nat → Option va_E} (hX : tOk X) (hH : HandT J X et) (hJ : JS DJ J) : ctrT ivG J X et c393 := ctr_ok tbF_ok hX hJ (by decide) rfl rfl k393 (ct1 (t353 hX hH hJ) (ct1 (t354 hX hH hJ) (ct1 (t392 hX hH hJ) ct0)))
/-- ask2 -/
noncomputable def c394 : Ctr := (8, [aR 16, aT, aT, aT, aI 2 2], some [aT], [(16, 4), (18, 0)], 79)
noncomputable def p394 : Pg := ([(8, 6, [some none, some none, some none, some none, some none, some (some ((-2147483648), 2147483647)), some (some (0, 8))], [], .inl 6, true)], [], [c353, c354, c393], ivG, [(16, 4), (18, 0)], none)
theorem k394 : chk p394 tbF 3000 c394 = true := by decide +kernel
theorem t394 {J : Jt} {X : Tok} {et : Nat → Option va_E} (hX : tOk X) (hH : HandT J X et) (hJ : JS DJ J) : ctrT ivG J X et c394 := ctr_ok tbF_ok hX hJ (by decide) rfl rfl k394 (ct1 (t353 hX hH hJ) (ct1 (t354 hX hH hJ) (ct1 (t393 hX hH hJ) ct0)))
/-- ask1 -/
noncomputable def c395 : Ctr := (8, [aR 16, aT, aT, aT, aI 1 1], some [aT], [(16, 4), (18, 0)], 81)
noncomputable def p395 : Pg := ([(8, 6, [some none, some none, some none, some none, some none, some (some ((-2147483648), 2147483647)), some (some (0, 8))], [], .inl 6, true)], [], [c353, c354, c394], ivG, [(16, 4), (18, 0)], none)
theorem k395 : chk p395 tbF 3000 c395 = true := by decide +kernel
theorem t395 {J : Jt} {X : Tok} {et : Nat → Option va_E} (hX : tOk X) (hH : HandT J X et) (hJ : JS DJ J) : ctrT ivG J X et c395 := ctr_ok tbF_ok hX hJ (by decide) rfl rfl k395 (ct1 (t353 hX hH hJ) (ct1 (t354 hX hH hJ) (ct1 (t394 hX hH hJ) ct0)))
/-- ask0 -/
noncomputable def c396 : Ctr := (8, [aR 16, aT, aT, aT, aI 0 0], some [aT], [(16, 4), (18, 0)], 83)
noncomputable def p396 : Pg := ([(8, 6, [some none, some none, some none, some none, some none, some (some ((-2147483648), 2147483647)), some (some (0, 8))], [], .inl 6, true)], [], [c353, c354, c395], ivG, [(16, 4), (18, 0)], none)
theorem k396 : chk p396 tbF 3000 c396 = true := by decide +kernel
theorem t396 {J : Jt} {X : Tok} {et : Nat → Option va_E} (hX : tOk X) (hH : HandT J X et) (hJ : JS DJ J) : ctrT ivG J X et c396 := ctr_ok tbF_ok hX hJ (by decide) rfl rfl k396 (ct1 (t353 hX hH hJ) (ct1 (t354 hX hH hJ) (ct1 (t395 hX hH hJ) ct0)))
/-- MBo_perform -/
noncomputable def c397 : Ctr := (7, [aR 16, aT, aT, aT], some [aT], [(16, 4), (16, 5), (16, 6), (18, 0)], 84)
noncomputable def p397 : Pg := ([], [], [c396], ivG, [(16, 4), (16, 5), (16, 6), (18, 0)], none)
theorem k397 : chk p397 tbF 3000 c397 = true := by decide +kernel
theorem t397 {J : Jt} {X : Tok} {et : Nat → Option va_E} (hX : tOk X) (hH : HandT J X et) (hJ : JS DJ J) : ctrT ivG J X et c397 := ctr_ok tbF_ok hX hJ (by decide) rfl rfl k397 (ct1 (t396 hX hH hJ) ct0)
/-- MBo_isUnder -/
noncomputable def c398 : Ctr := (4, [aT, aT], some [aI 0 1], [], 1)
noncomputable def p398 : Pg := ([(4, 4, [some none, some none, some (some ((-2147483648), 2147483647)), some (some (0, 8))], [], .inl 3, true)], [], [c354], ivG, [], none)
theorem k398 : chk p398 tbF 3000 c398 = true := by decide +kernel
theorem t398 {J : Jt} {X : Tok} {et : Nat → Option va_E} (hX : tOk X) (hH : HandT J X et) (hJ : JS DJ J) : ctrT ivG J X et c398 := ctr_ok tbF_ok hX hJ (by decide) rfl rfl k398 (ct1 (t354 hX hH hJ) ct0)
/-- MCh_write -/
noncomputable def c399 : Ctr := (12, [aR 14, aT, aT], none, [(15, 0)], 0)
noncomputable def p399 : Pg := ([], [], [], ivG, [(15, 0)], none)
theorem k399 : chk p399 tbF 3000 c399 = true := by decide +kernel
theorem t399 {J : Jt} {X : Tok} {et : Nat → Option va_E} (hX : tOk X) (hH : HandT J X et) (hJ : JS DJ J) : ctrT ivG J X et c399 := ctr_ok tbF_ok hX hJ (by decide) rfl rfl k399 ct0
/-- MCh_note -/
noncomputable def c400 : Ctr := (11, [aR 14, aT, aT, aT, aT], none, [(14, 2), (14, 3), (15, 0)], 1)
noncomputable def p400 : Pg := ([], [], [c399], ivG, [(14, 2), (14, 3), (15, 0)], none)
theorem k400 : chk p400 tbF 3000 c400 = true := by decide +kernel
theorem t400 {J : Jt} {X : Tok} {et : Nat → Option va_E} (hX : tOk X) (hH : HandT J X et) (hJ : JS DJ J) : ctrT ivG J X et c400 := ctr_ok tbF_ok hX hJ (by decide) rfl rfl k400 (ct1 (t399 hX hH hJ) ct0)
/-- MCh_part -/
noncomputable def c401 : Ctr := (13, [aR 14, aT, aT], some [aT], [], 0)
noncomputable def p401 : Pg := ([], [], [], ivG, [], none)
theorem k401 : chk p401 tbF 3000 c401 = true := by decide +kernel
theorem t401 {J : Jt} {X : Tok} {et : Nat → Option va_E} (hX : tOk X) (hH : HandT J X et) (hJ : JS DJ J) : ctrT ivG J X et c401 := ctr_ok tbF_ok hX hJ (by decide) rfl rfl k401 ct0
/-- MTo_changeTo -/
noncomputable def c402 : Ctr := (143, [aR 0, aT], none, [(19, 6), (19, 7), (19, 8), (19, 9), (19, 10), (19, 11), (20, 0), (23, 0), (24, 6), (24, 7), (24, 8), (24, 9), (24, 10), (24, 11), (25, 0), (28, 0), (29, 6), (29, 7), (29, 8), (29, 9), (29, 10), (29, 11), (30, 0), (33, 0), (34, 6), (34, 7), (34, 8), (34, 9), (34, 10), (34, 11), (35, 0), (38, 0), (39, 6), (39, 7), (39, 8), (39, 9), (39, 10), (39, 11), (40, 0), (43, 0), (44, 6), (44, 7), (44, 8), (44, 9), (44, 10), (44, 11), (45, 0), (48, 0)], 2)
noncomputable def p402 : Pg := ([], [], [c0, c15, c26, c37, c48, c59, c70, c401], ivG, [(19, 6), (19, 7), (19, 8), (19, 9), (19, 10), (19, 11), (20, 0), (23, 0), (24, 6), (24, 7), (24, 8), (24, 9), (24, 10), (24, 11), (25, 0), (28, 0), (29, 6), (29, 7), (29, 8), (29, 9), (29, 10), (29, 11), (30, 0), (33, 0), (34, 6), (34, 7), (34, 8), (34, 9), (34, 10), (34, 11), (35, 0), (38, 0), (39, 6), (39, 7), (39, 8), (39, 9), (39, 10), (39, 11), (40, 0), (43, 0), (44, 6), (44, 7), (44, 8), (44, 9), (44, 10), (44, 11), (45, 0), (48, 0)], none)
theorem k402 : chk p402 tbF 3000 c402 = true := by decide +kernel
theorem t402 {J : Jt} {X : Tok} {et : Nat → Option va_E} (hX : tOk X) (hH : HandT J X et) (hJ : JS DJ J) : ctrT ivG J X et c402 := ctr_ok tbF_ok hX hJ (by decide) rfl rfl k402 (ct1 (t0 hX hH hJ) (ct1 (t15 hX hH hJ) (ct1 (t26 hX hH hJ) (ct1 (t37 hX hH hJ) (ct1 (t48 hX hH hJ) (ct1 (t59 hX hH hJ) (ct1 (t70 hX hH hJ) (ct1 (t401 hX hH hJ) ct0))))))))
/-- MTo_feed -/
noncomputable def c405 : Ctr := (91, [aR 0, aT, aT], some [aT], [(1, 2), (2, 0)], 1)
noncomputable def p405 : Pg := ([(91, 30, [some none, some none, some none, some (some (0, 4))], [(1, 1)], .inl 3, true)], [], [], ivG, [(1, 2), (2, 0)], none)
theorem k405 : chk p405 tbF 3000 c405 = true := by decide +kernel
theorem t405 {J : Jt} {X : Tok} {et : Nat → Option va_E} (hX : tOk X) (hH : HandT J X et) (hJ : JS DJ J) : ctrT ivG J X et c405 := ctr_ok tbF_ok hX hJ (by decide) rfl rfl k405 ct0
/-- MTo_stone -/
noncomputable def c406 : Ctr := (92, [aR 0], some [aT], [(0, 10), (1, 2), (1, 3), (19, 5), (19, 6), (19, 7), (19, 8), (19, 9), (19, 10), (19, 11), (20, 0), (21, 0), (22, 0), (23, 0), (24, 5), (24, 6), (24, 7), (24, 8), (24, 9), (24, 10), (24, 11), (25, 0), (26, 0), (27, 0), (28, 0), (29, 5), (29, 6), (29, 7), (29, 8), (29, 9), (29, 10), (29, 11), (30, 0), (31, 0), (32, 0), (33, 0), (34, 5), (34, 6), (34, 7), (34, 8), (34, 9), (34, 10), (34, 11), (35, 0), (36, 0), (37, 0), (38, 0), (39, 5), (39, 6), (39, 7), (39, 8), (39, 9), (39, 10), (39, 11), (40, 0), (41, 0), (42, 0), (43, 0), (44, 5), (44, 6), (44, 7), (44, 8), (44, 9), (44, 10), (44, 11), (45, 0), (46, 0), (47, 0), (48, 0)], 5)
noncomputable def p406 : Pg := ([], [], [c13, c24, c35, c46, c57, c68], ivG, [(0, 10), (1, 2), (1, 3), (19, 5), (19, 6), (19, 7), (19, 8), (19, 9), (19, 10), (19, 11), (20, 0), (21, 0), (22, 0), (23, 0), (24, 5), (24, 6), (24, 7), (24, 8), (24, 9), (24, 10), (24, 11), (25, 0), (26, 0), (27, 0), (28, 0), (29, 5), (29, 6), (29, 7), (29, 8), (29, 9), (29, 10), (29, 11), (30, 0), (31, 0), (32, 0), (33, 0), (34, 5), (34, 6), (34, 7), (34, 8), (34, 9), (34, 10), (34, 11), (35, 0), (36, 0), (37, 0), (38, 0), (39, 5), (39, 6), (39, 7), (39, 8), (39, 9), (39, 10), (39, 11), (40, 0), (41, 0), (42, 0), (43, 0), (44, 5), (44, 6), (44, 7), (44, 8), (44, 9), (44, 10), (44, 11), (45, 0), (46, 0), (47, 0), (48, 0)], none)
theorem k406 : chk p406 tbF 3000 c406 = true := by decide +kernel
theorem t406 {J : Jt} {X : Tok} {et : Nat → Option va_E} (hX : tOk X) (hH : HandT J X et) (hJ : JS DJ J) : ctrT ivG J X et c406 := ctr_ok tbF_ok hX hJ (by decide) rfl rfl k406 (ct1 (t13 hX hH hJ) (ct1 (t24 hX hH hJ) (ct1 (t35 hX hH hJ) (ct1 (t46 hX hH hJ) (ct1 (t57 hX hH hJ) (ct1 (t68 hX hH hJ) ct0))))))
/-- MTo_of -/
noncomputable def c407 : Ctr := (93, [aR 0, aT, aT], some [aT], [], 4)
noncomputable def p407 : Pg := ([], [], [c0, c14, c25, c36, c47, c58, c69], ivG, [], none)
theorem k407 : chk p407 tbF 3000 c407 = true := by decide +kernel
theorem t407 {J : Jt} {X : Tok} {et : Nat → Option va_E} (hX : tOk X) (hH : HandT J X et) (hJ : JS DJ J) : ctrT ivG J X et c407 := ctr_ok tbF_ok hX hJ (by decide) rfl rfl k407 (ct1 (t0 hX hH hJ) (ct1 (t14 hX hH hJ) (ct1 (t25 hX hH hJ) (ct1 (t36 hX hH hJ) (ct1 (t47 hX hH hJ) (ct1 (t58 hX hH hJ) (ct1 (t69 hX hH hJ) ct0)))))))
/-- MTo_lump -/
noncomputable def c408 : Ctr := (94, [aR 0, aT, aT, aT], some [aT], [], 2)
noncomputable def p408 : Pg := ([], [], [c0], ivG, [], none)
theorem k408 : chk p408 tbF 3000 c408 = true := by decide +kernel
theorem t408 {J : Jt} {X : Tok} {et : Nat → Option va_E} (hX : tOk X) (hH : HandT J X et) (hJ : JS DJ J) : ctrT ivG J X et c408 := ctr_ok tbF_ok hX hJ (by decide) rfl rfl k408 (ct1 (t0 hX hH hJ) ct0)
/-- MTo_set -/
noncomputable def c409 : Ctr := (95, [aR 0, aT, aT, aT], some [aT], [(14, 2), (14, 3), (15, 0), (19, 6), (19, 7), (19, 8), (19, 9), (19, 10), (19, 11), (20, 0), (23, 0), (24, 6), (24, 7), (24, 8), (24, 9), (24, 10), (24, 11), (25, 0), (28, 0), (29, 6), (29, 7), (29, 8), (29, 9), (29, 10), (29, 11), (30, 0), (33, 0), (34, 6), (34, 7), (34, 8), (34, 9), (34, 10), (34, 11), (35, 0), (38, 0), (39, 6), (39, 7), (39, 8), (39, 9), (39, 10), (39, 11), (40, 0), (43, 0), (44, 6), (44, 7), (44, 8), (44, 9), (44, 10), (44, 11), (45, 0), (48, 0)], 2)
noncomputable def p409 : Pg := ([], [], [c0, c15, c17, c26, c28, c37, c39, c48, c50, c59, c61, c70, c72, c400], ivG, [(14, 2), (14, 3), (15, 0), (19, 6), (19, 7), (19, 8), (19, 9), (19, 10), (19, 11), (20, 0), (23, 0), (24, 6), (24, 7), (24, 8), (24, 9), (24, 10), (24, 11), (25, 0), (28, 0), (29, 6), (29, 7), (29, 8), (29, 9), (29, 10), (29, 11), (30, 0), (33, 0), (34, 6), (34, 7), (34, 8), (34, 9), (34, 10), (34, 11), (35, 0), (38, 0), (39, 6), (39, 7), (39, 8), (39, 9), (39, 10), (39, 11), (40, 0), (43, 0), (44, 6), (44, 7), (44, 8), (44, 9), (44, 10), (44, 11), (45, 0), (48, 0)], none)
theorem k409 : chk p409 tbF 3000 c409 = true := by decide +kernel
theorem t409 {J : Jt} {X : Tok} {et : Nat → Option va_E} (hX : tOk X) (hH : HandT J X et) (hJ : JS DJ J) : ctrT ivG J X et c409 := ctr_ok tbF_ok hX hJ (by decide) rfl rfl k409 (ct1 (t0 hX hH hJ) (ct1 (t15 hX hH hJ) (ct1 (t17 hX hH hJ) (ct1 (t26 hX hH hJ) (ct1 (t28 hX hH hJ) (ct1 (t37 hX hH hJ) (ct1 (t39 hX hH hJ) (ct1 (t48 hX hH hJ) (ct1 (t50 hX hH hJ) (ct1 (t59 hX hH hJ) (ct1 (t61 hX hH hJ) (ct1 (t70 hX hH hJ) (ct1 (t72 hX hH hJ) (ct1 (t400 hX hH hJ) ct0))))))))))))))
/-- MTo_floor -/
noncomputable def c410 : Ctr := (96, [aR 0], some [aT], [(0, 11), (1, 2), (1, 3), (49, 5), (50, 0), (51, 0), (52, 0), (53, 0), (54, 5), (55, 0), (56, 0), (57, 0), (58, 0), (59, 5), (60, 0), (61, 0), (62, 0), (63, 0), (64, 5), (65, 0), (66, 0), (67, 0), (68, 0)], 60)
noncomputable def p410 : Pg := ([], [], [c125, c181, c237, c293], ivG, [(0, 11), (1, 2), (1, 3), (49, 5), (50, 0), (51, 0), (52, 0), (53, 0), (54, 5), (55, 0), (56, 0), (57, 0), (58, 0), (59, 5), (60, 0), (61, 0), (62, 0), (63, 0), (64, 5), (65, 0), (66, 0), (67, 0), (68, 0)], none)
theorem k410 : chk p410 tbF 3000 c410 = true := by decide +kernel
theorem t410 {J : Jt} {X : Tok} {et : Nat → Option va_E} (hX : tOk X) (hH : HandT J X et) (hJ : JS DJ J) : ctrT ivG J X et c410 := ctr_ok tbF_ok hX hJ (by decide) rfl rfl k410 (ct1 (t125 hX hH hJ) (ct1 (t181 hX hH hJ) (ct1 (t237 hX hH hJ) (ct1 (t293 hX hH hJ) ct0))))
/-- MTo_grows -/
noncomputable def c411 : Ctr := (97, [aR 0, aT, aT], some [aI (-1) 2], [], 3)
noncomputable def p411 : Pg := ([], [], [c0, c8, c19, c30, c41, c52, c63], ivG, [], none)
theorem k411 : chk p411 tbF 3000 c411 = true := by decide +kernel
theorem t411 {J : Jt} {X : Tok} {et : Nat → Option va_E} (hX : tOk X) (hH : HandT J X et) (hJ : JS DJ J) : ctrT ivG J X et c411 := ctr_ok tbF_ok hX hJ (by decide) rfl rfl k411 (ct1 (t0 hX hH hJ) (ct1 (t8 hX hH hJ) (ct1 (t19 hX hH hJ) (ct1 (t30 hX hH hJ) (ct1 (t41 hX hH hJ) (ct1 (t52 hX hH hJ) (ct1 (t63 hX hH hJ) ct0)))))))
/-- MTo_roll -/
noncomputable def c412 : Ctr := (98, [aR 0, aT, aT, aT, aT], some [aT], [(6, 1), (6, 2), (6, 3), (6, 4), (6, 5), (6, 6), (6, 7), (6, 8), (6, 9), (6, 10), (6, 11), (6, 12), (6, 13), (6, 14), (6, 15), (6, 16), (6, 17), (7, 4), (7, 5), (7, 6), (7, 7), (7, 8), (7, 9), (8, 0), (9, 0), (10, 0), (49, 6), (49, 7), (49, 8), (49, 9), (49, 10), (49, 11), (53, 0), (54, 6), (54, 7), (54, 8), (54, 9), (54, 10), (54, 11), (58, 0), (59, 6), (59, 7), (59, 8), (59, 9), (59, 10), (59, 11), (63, 0), (64, 6), (64, 7), (64, 8), (64, 9), (64, 10), (64, 11), (68, 0)], 6)
noncomputable def p412 : Pg := ([], [], [c335, c340, c341, c352], ivG, [(6, 1), (6, 2), (6, 3), (6, 4), (6, 5), (6, 6), (6, 7), (6, 8), (6, 9), (6, 10), (6, 11), (6, 12), (6, 13), (6, 14), (6, 15), (6, 16), (6, 17), (7, 4), (7, 5), (7, 6), (7, 7), (7, 8), (7, 9), (8, 0), (9, 0), (10, 0), (49, 6), (49, 7), (49, 8), (49, 9), (49, 10), (49, 11), (53, 0), (54, 6), (54, 7), (54, 8), (54, 9), (54, 10), (54, 11), (58, 0), (59, 6), (59, 7), (59, 8), (59, 9), (59, 10), (59, 11), (63, 0), (64, 6), (64, 7), (64, 8), (64, 9), (64, 10), (64, 11), (68, 0)], none)
theorem k412 : chk p412 tbF 3000 c412 = true := by decide +kernel
theorem t412 {J : Jt} {X : Tok} {et : Nat → Option va_E} (hX : tOk X) (hH : HandT J X et) (hJ : JS DJ J) : ctrT ivG J X et c412 := ctr_ok tbF_ok hX hJ (by decide) rfl rfl k412 (ct1 (t335 hX hH hJ) (ct1 (t340 hX hH hJ) (ct1 (t341 hX hH hJ) (ct1 (t352 hX hH hJ) ct0))))
/-- MTo_going -/
noncomputable def c413 : Ctr := (99, [aR 0, aT, aT], some [aT], [], 1)
noncomputable def p413 : Pg := ([], [], [c336], ivG, [], none)
theorem k413 : chk p413 tbF 3000 c413 = true := by decide +kernel
theorem t413 {J : Jt} {X : Tok} {et : Nat → Option va_E} (hX : tOk X) (hH : HandT J X et) (hJ : JS DJ J) : ctrT ivG J X et c413 := ctr_ok tbF_ok hX hJ (by decide) rfl rfl k413 (ct1 (t336 hX hH hJ) ct0)
/-- MTo_back -/
noncomputable def c414 : Ctr := (100, [aR 0, aT], some [aT], [], 2)
noncomputable def p414 : Pg := ([], [], [c337], ivG, [], none)
theorem k414 : chk p414 tbF 3000 c414 = true := by decide +kernel
theorem t414 {J : Jt} {X : Tok} {et : Nat → Option va_E} (hX : tOk X) (hH : HandT J X et) (hJ : JS DJ J) : ctrT ivG J X et c414 := ctr_ok tbF_ok hX hJ (by decide) rfl rfl k414 (ct1 (t337 hX hH hJ) ct0)
/-- MTo_told -/
noncomputable def c415 : Ctr := (101, [aR 0, aT], some [aT], [], 2)
noncomputable def p415 : Pg := ([], [], [c338], ivG, [], none)
theorem k415 : chk p415 tbF 3000 c415 = true := by decide +kernel
theorem t415 {J : Jt} {X : Tok} {et : Nat → Option va_E} (hX : tOk X) (hH : HandT J X et) (hJ : JS DJ J) : ctrT ivG J X et c415 := ctr_ok tbF_ok hX hJ (by decide) rfl rfl k415 (ct1 (t338 hX hH hJ) ct0)
/-- MTo_even -/
noncomputable def c416 : Ctr := (102, [aR 0, aT, aT, aT, aT], some [aT], [(6, 1), (6, 2), (6, 3), (6, 4), (6, 5), (6, 6), (6, 7), (6, 8), (6, 9), (6, 10), (6, 11), (6, 12), (6, 13), (6, 14), (6, 15), (6, 16), (6, 17), (49, 6), (49, 7), (49, 8), (49, 9), (49, 10), (49, 11), (53, 0), (54, 6), (54, 7), (54, 8), (54, 9), (54, 10), (54, 11), (58, 0), (59, 6), (59, 7), (59, 8), (59, 9), (59, 10), (59, 11), (63, 0), (64, 6), (64, 7), (64, 8), (64, 9), (64, 10), (64, 11), (68, 0)], 6)
noncomputable def p416 : Pg := ([], [], [c0, c8, c19, c30, c41, c52, c63, c298, c303, c308, c313, c318, c323, c333, c341], ivG, [(6, 1), (6, 2), (6, 3), (6, 4), (6, 5), (6, 6), (6, 7), (6, 8), (6, 9), (6, 10), (6, 11), (6, 12), (6, 13), (6, 14), (6, 15), (6, 16), (6, 17), (49, 6), (49, 7), (49, 8), (49, 9), (49, 10), (49, 11), (53, 0), (54, 6), (54, 7), (54, 8), (54, 9), (54, 10), (54, 11), (58, 0), (59, 6), (59, 7), (59, 8), (59, 9), (59, 10), (59, 11), (63, 0), (64, 6), (64, 7), (64, 8), (64, 9), (64, 10), (64, 11), (68, 0)], none)
theorem k416 : chk p416 tbF 3000 c416 = true := by decide +kernel
theorem t416 {J : Jt} {X : Tok} {et : Nat → Option va_E} (hX : tOk X) (hH : HandT J X et) (hJ : JS DJ J) : ctrT ivG J X et c416 := ctr_ok tbF_ok hX hJ (by decide) rfl rfl k416 (ct1 (t0 hX hH hJ) (ct1 (t8 hX hH hJ) (ct1 (t19 hX hH hJ) (ct1 (t30 hX hH hJ) (ct1 (t41 hX hH hJ) (ct1 (t52 hX hH hJ) (ct1 (t63 hX hH hJ) (ct1 (t298 hX hH hJ) (ct1 (t303 hX hH hJ) (ct1 (t308 hX hH hJ) (ct1 (t313 hX hH hJ) (ct1 (t318 hX hH hJ) (ct1 (t323 hX hH hJ) (ct1 (t333 hX hH hJ) (ct1 (t341 hX hH hJ) ct0)))))))))))))))
