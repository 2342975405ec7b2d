-- ===== contracts that the checker shows, 4
/-- MMo_rule -/
noncomputable def c320 : Ctr := (42, [aR 6, aR 39, aT, aR 54], none, [(6, 1), (6, 2), (6, 3), (6, 4), (6, 5), (6, 6), (6, 7)], 1)
noncomputable def p320 : Pg := ([], [], [c60], ivG, [(6, 1), (6, 2), (6, 3), (6, 4), (6, 5), (6, 6), (6, 7)], none)
theorem k320 : chk p320 tbF 3000 c320 = true := by decide +kernel
theorem t320 {J : Jt} {X : Tok} {et : Nat → Option va_E} (hX : tOk X) (hH : HandT J X et) (hJ : JS DJ J) : ctrT ivG J X et c320 := ctr_ok tbF_ok hX hJ (by decide) rfl rfl k320 (ct1 (t60 hX hH hJ) ct0)
/-- MMo_rule -/
noncomputable def c321 : Ctr := (42, [aR 6, aR 39, aT, aR 59], none, [(6, 1), (6, 2), (6, 3), (6, 4), (6, 5), (6, 6), (6, 7)], 1)
noncomputable def p321 : Pg := ([], [], [c60], ivG, [(6, 1), (6, 2), (6, 3), (6, 4), (6, 5), (6, 6), (6, 7)], none)
theorem k321 : chk p321 tbF 3000 c321 = true := by decide +kernel
theorem t321 {J : Jt} {X : Tok} {et : Nat → Option va_E} (hX : tOk X) (hH : HandT J X et) (hJ : JS DJ J) : ctrT ivG J X et c321 := ctr_ok tbF_ok hX hJ (by decide) rfl rfl k321 (ct1 (t60 hX hH hJ) ct0)
/-- MMo_rule -/
noncomputable def c322 : Ctr := (42, [aR 6, aR 39, aT, aR 64], none, [(6, 1), (6, 2), (6, 3), (6, 4), (6, 5), (6, 6), (6, 7)], 1)
noncomputable def p322 : Pg := ([], [], [c60], ivG, [(6, 1), (6, 2), (6, 3), (6, 4), (6, 5), (6, 6), (6, 7)], none)
theorem k322 : chk p322 tbF 3000 c322 = true := by decide +kernel
theorem t322 {J : Jt} {X : Tok} {et : Nat → Option va_E} (hX : tOk X) (hH : HandT J X et) (hJ : JS DJ J) : ctrT ivG J X et c322 := ctr_ok tbF_ok hX hJ (by decide) rfl rfl k322 (ct1 (t60 hX hH hJ) ct0)
/-- MMo_rule -/
noncomputable def c323 : Ctr := (42, [aR 6, aR 44, aT, aN], none, [(6, 1), (6, 2), (6, 3), (6, 4), (6, 5), (6, 6), (6, 7)], 1)
noncomputable def p323 : Pg := ([], [], [c71], ivG, [(6, 1), (6, 2), (6, 3), (6, 4), (6, 5), (6, 6), (6, 7)], none)
theorem k323 : chk p323 tbF 3000 c323 = true := by decide +kernel
theorem t323 {J : Jt} {X : Tok} {et : Nat → Option va_E} (hX : tOk X) (hH : HandT J X et) (hJ : JS DJ J) : ctrT ivG J X et c323 := ctr_ok tbF_ok hX hJ (by decide) rfl rfl k323 (ct1 (t71 hX hH hJ) ct0)
/-- MMo_rule -/
noncomputable def c324 : Ctr := (42, [aR 6, aR 44, aT, aR 49], none, [(6, 1), (6, 2), (6, 3), (6, 4), (6, 5), (6, 6), (6, 7)], 1)
noncomputable def p324 : Pg := ([], [], [c71], ivG, [(6, 1), (6, 2), (6, 3), (6, 4), (6, 5), (6, 6), (6, 7)], none)
theorem k324 : chk p324 tbF 3000 c324 = true := by decide +kernel
theorem t324 {J : Jt} {X : Tok} {et : Nat → Option va_E} (hX : tOk X) (hH : HandT J X et) (hJ : JS DJ J) : ctrT ivG J X et c324 := ctr_ok tbF_ok hX hJ (by decide) rfl rfl k324 (ct1 (t71 hX hH hJ) ct0)
/-- MMo_rule -/
noncomputable def c325 : Ctr := (42, [aR 6, aR 44, aT, aR 54], none, [(6, 1), (6, 2), (6, 3), (6, 4), (6, 5), (6, 6), (6, 7)], 1)
noncomputable def p325 : Pg := ([], [], [c71], ivG, [(6, 1), (6, 2), (6, 3), (6, 4), (6, 5), (6, 6), (6, 7)], none)
theorem k325 : chk p325 tbF 3000 c325 = true := by decide +kernel
theorem t325 {J : Jt} {X : Tok} {et : Nat → Option va_E} (hX : tOk X) (hH : HandT J X et) (hJ : JS DJ J) : ctrT ivG J X et c325 := ctr_ok tbF_ok hX hJ (by decide) rfl rfl k325 (ct1 (t71 hX hH hJ) ct0)
/-- MMo_rule -/
noncomputable def c326 : Ctr := (42, [aR 6, aR 44, aT, aR 59], none, [(6, 1), (6, 2), (6, 3), (6, 4), (6, 5), (6, 6), (6, 7)], 1)
noncomputable def p326 : Pg := ([], [], [c71], ivG, [(6, 1), (6, 2), (6, 3), (6, 4), (6, 5), (6, 6), (6, 7)], none)
theorem k326 : chk p326 tbF 3000 c326 = true := by decide +kernel
theorem t326 {J : Jt} {X : Tok} {et : Nat → Option va_E} (hX : tOk X) (hH : HandT J X et) (hJ : JS DJ J) : ctrT ivG J X et c326 := ctr_ok tbF_ok hX hJ (by decide) rfl rfl k326 (ct1 (t71 hX hH hJ) ct0)
/-- MMo_rule -/
noncomputable def c327 : Ctr := (42, [aR 6, aR 44, aT, aR 64], none, [(6, 1), (6, 2), (6, 3), (6, 4), (6, 5), (6, 6), (6, 7)], 1)
noncomputable def p327 : Pg := ([], [], [c71], ivG, [(6, 1), (6, 2), (6, 3), (6, 4), (6, 5), (6, 6), (6, 7)], none)
theorem k327 : chk p327 tbF 3000 c327 = true := by decide +kernel
theorem t327 {J : Jt} {X : Tok} {et : Nat → Option va_E} (hX : tOk X) (hH : HandT J X et) (hJ : JS DJ J) : ctrT ivG J X et c327 := ctr_ok tbF_ok hX hJ (by decide) rfl rfl k327 (ct1 (t71 hX hH hJ) ct0)
/-- MMo_start -/
noncomputable def c328 : Ctr := (43, [aR 6, aT, aT, aT, aT], none, [(6, 8), (6, 9), (6, 10), (6, 11), (6, 12), (6, 13), (6, 14), (6, 15), (6, 16), (6, 17)], 1)
noncomputable def p328 : Pg := ([], [], [], ivG, [(6, 8), (6, 9), (6, 10), (6, 11), (6, 12), (6, 13), (6, 14), (6, 15), (6, 16), (6, 17)], none)
theorem k328 : chk p328 tbF 3000 c328 = true := by decide +kernel
theorem t328 {J : Jt} {X : Tok} {et : Nat → Option va_E} (hX : tOk X) (hH : HandT J X et) (hJ : JS DJ J) : ctrT ivG J X et c328 := ctr_ok tbF_ok hX hJ (by decide) rfl rfl k328 ct0
/-- MMo_grown -/
noncomputable def c329 : Ctr := (47, [aR 6, aT, aT, aT], some [aT], [], 1)
noncomputable def p329 : Pg := ([], [], [], ivG, [], none)
theorem k329 : chk p329 tbF 3000 c329 = true := by decide +kernel
theorem t329 {J : Jt} {X : Tok} {et : Nat → Option va_E} (hX : tOk X) (hH : HandT J X et) (hJ : JS DJ J) : ctrT ivG J X et c329 := ctr_ok tbF_ok hX hJ (by decide) rfl rfl k329 ct0
/-- MMo_growRattle -/
noncomputable def c330 : Ctr := (46, [aR 6], none, [(6, 8), (6, 9), (6, 10)], 2)
noncomputable def p330 : Pg := ([], [], [c329], ivG, [(6, 8), (6, 9), (6, 10)], none)
theorem k330 : chk p330 tbF 3000 c330 = true := by decide +kernel
theorem t330 {J : Jt} {X : Tok} {et : Nat → Option va_E} (hX : tOk X) (hH : HandT J X et) (hJ : JS DJ J) : ctrT ivG J X et c330 := ctr_ok tbF_ok hX hJ (by decide) rfl rfl k330 (ct1 (t329 hX hH hJ) ct0)
/-- MMo_pushTurn -/
noncomputable def c331 : Ctr := (48, [aR 6], none, [(6, 8), (6, 9), (6, 10)], 2)
noncomputable def p331 : Pg := ([], [], [], ivG, [(6, 8), (6, 9), (6, 10)], none)
theorem k331 : chk p331 tbF 3000 c331 = true := by decide +kernel
theorem t331 {J : Jt} {X : Tok} {et : Nat → Option va_E} (hX : tOk X) (hH : HandT J X et) (hJ : JS DJ J) : ctrT ivG J X et c331 := ctr_ok tbF_ok hX hJ (by decide) rfl rfl k331 ct0
/-- MMo_step -/
noncomputable def c332 : Ctr := (45, [aR 6], none, [(6, 8), (6, 9), (6, 10), (6, 11), (6, 12), (6, 13), (6, 14), (6, 15), (6, 16), (6, 17), (49, 6), (49, 7), (49, 8), (49, 9), (49, 10), (49, 11), (53, 0), (54, 6), (54, 7), (54, 8), (54, 9), (54, 10), (54, 11), (58, 0), (59, 6), (59, 7), (59, 8), (59, 9), (59, 10), (59, 11), (63, 0), (64, 6), (64, 7), (64, 8), (64, 9), (64, 10), (64, 11), (68, 0)], 4)
noncomputable def p332 : Pg := ([], [], [c297, c330, c331], ivG, [(6, 8), (6, 9), (6, 10), (6, 11), (6, 12), (6, 13), (6, 14), (6, 15), (6, 16), (6, 17), (49, 6), (49, 7), (49, 8), (49, 9), (49, 10), (49, 11), (53, 0), (54, 6), (54, 7), (54, 8), (54, 9), (54, 10), (54, 11), (58, 0), (59, 6), (59, 7), (59, 8), (59, 9), (59, 10), (59, 11), (63, 0), (64, 6), (64, 7), (64, 8), (64, 9), (64, 10), (64, 11), (68, 0)], none)
theorem k332 : chk p332 tbF 3000 c332 = true := by decide +kernel
theorem t332 {J : Jt} {X : Tok} {et : Nat → Option va_E} (hX : tOk X) (hH : HandT J X et) (hJ : JS DJ J) : ctrT ivG J X et c332 := ctr_ok tbF_ok hX hJ (by decide) rfl rfl k332 (ct1 (t297 hX hH hJ) (ct1 (t330 hX hH hJ) (ct1 (t331 hX hH hJ) ct0)))
/-- MMo_run -/
noncomputable def c333 : Ctr := (44, [aR 6, aT], none, [(6, 8), (6, 9), (6, 10), (6, 11), (6, 12), (6, 13), (6, 14), (6, 15), (6, 16), (6, 17), (49, 6), (49, 7), (49, 8), (49, 9), (49, 10), (49, 11), (53, 0), (54, 6), (54, 7), (54, 8), (54, 9), (54, 10), (54, 11), (58, 0), (59, 6), (59, 7), (59, 8), (59, 9), (59, 10), (59, 11), (63, 0), (64, 6), (64, 7), (64, 8), (64, 9), (64, 10), (64, 11), (68, 0)], 5)
noncomputable def p333 : Pg := ([(44, 2, [some none, some none, some (some (0, 2147483647))], [], .inl 2, true)], [], [c332], ivG, [(6, 8), (6, 9), (6, 10), (6, 11), (6, 12), (6, 13), (6, 14), (6, 15), (6, 16), (6, 17), (49, 6), (49, 7), (49, 8), (49, 9), (49, 10), (49, 11), (53, 0), (54, 6), (54, 7), (54, 8), (54, 9), (54, 10), (54, 11), (58, 0), (59, 6), (59, 7), (59, 8), (59, 9), (59, 10), (59, 11), (63, 0), (64, 6), (64, 7), (64, 8), (64, 9), (64, 10), (64, 11), (68, 0)], none)
theorem k333 : chk p333 tbF 3000 c333 = true := by decide +kernel
theorem t333 {J : Jt} {X : Tok} {et : Nat → Option va_E} (hX : tOk X) (hH : HandT J X et) (hJ : JS DJ J) : ctrT ivG J X et c333 := ctr_ok tbF_ok hX hJ (by decide) rfl rfl k333 (ct1 (t332 hX hH hJ) ct0)
/-- MGo_note -/
noncomputable def c334 : Ctr := (36, [aR 7, aR 6, aT], none, [(8, 0), (9, 0), (10, 0)], 0)
noncomputable def p334 : Pg := ([], [], [], ivG, [(8, 0), (9, 0), (10, 0)], none)
theorem k334 : chk p334 tbF 3000 c334 = true := by decide +kernel
theorem t334 {J : Jt} {X : Tok} {et : Nat → Option va_E} (hX : tOk X) (hH : HandT J X et) (hJ : JS DJ J) : ctrT ivG J X et c334 := ctr_ok tbF_ok hX hJ (by decide) rfl rfl k334 ct0
/-- MGo_record -/
noncomputable def c335 : Ctr := (35, [aR 7, aR 6, aI 0 400], none, [(6, 8), (6, 9), (6, 10), (6, 11), (6, 12), (6, 13), (6, 14), (6, 15), (6, 16), (6, 17), (7, 4), (7, 5), (7, 6), (7, 7), (7, 8), (7, 9), (8, 0), (9, 0), (10, 0), (49, 6), (49, 7), (49, 8), (49, 9), (49, 10), (49, 11), (53, 0), (54, 6), (54, 7), (54, 8), (54, 9), (54, 10), (54, 11), (58, 0), (59, 6), (59, 7), (59, 8), (59, 9), (59, 10), (59, 11), (63, 0), (64, 6), (64, 7), (64, 8), (64, 9), (64, 10), (64, 11), (68, 0)], 5)
noncomputable def p335 : Pg := ([(35, 13, [some none, some none, some none, some (some (1, 401))], [], .inl 3, true)], [], [c332, c334], ivG, [(6, 8), (6, 9), (6, 10), (6, 11), (6, 12), (6, 13), (6, 14), (6, 15), (6, 16), (6, 17), (7, 4), (7, 5), (7, 6), (7, 7), (7, 8), (7, 9), (8, 0), (9, 0), (10, 0), (49, 6), (49, 7), (49, 8), (49, 9), (49, 10), (49, 11), (53, 0), (54, 6), (54, 7), (54, 8), (54, 9), (54, 10), (54, 11), (58, 0), (59, 6), (59, 7), (59, 8), (59, 9), (59, 10), (59, 11), (63, 0), (64, 6), (64, 7), (64, 8), (64, 9), (64, 10), (64, 11), (68, 0)], none)
theorem k335 : chk p335 tbF 3000 c335 = true := by decide +kernel
theorem t335 {J : Jt} {X : Tok} {et : Nat → Option va_E} (hX : tOk X) (hH : HandT J X et) (hJ : JS DJ J) : ctrT ivG J X et c335 := ctr_ok tbF_ok hX hJ (by decide) rfl rfl k335 (ct1 (t332 hX hH hJ) (ct1 (t334 hX hH hJ) ct0))
/-- MGo_at -/
noncomputable def c336 : Ctr := (37, [aR 7, aT, aT], some [aT], [], 0)
noncomputable def p336 : Pg := ([], [], [], ivG, [], none)
theorem k336 : chk p336 tbF 3000 c336 = true := by decide +kernel
theorem t336 {J : Jt} {X : Tok} {et : Nat → Option va_E} (hX : tOk X) (hH : HandT J X et) (hJ : JS DJ J) : ctrT ivG J X et c336 := ctr_ok tbF_ok hX hJ (by decide) rfl rfl k336 ct0
/-- MGo_backTick -/
noncomputable def c337 : Ctr := (38, [aR 7, aT], some [aI (-1) 400], [], 1)
noncomputable def p337 : Pg := ([(38, 7, [some none, some none, some (some ((-2147483648), 2147483647)), some (some ((-2147483648), 2147483647)), some (some (0, 401)), none], [], .inl 4, true)], [], [], ivG, [], none)
theorem k337 : chk p337 tbF 3000 c337 = true := by decide +kernel
theorem t337 {J : Jt} {X : Tok} {et : Nat → Option va_E} (hX : tOk X) (hH : HandT J X et) (hJ : JS DJ J) : ctrT ivG J X et c337 := ctr_ok tbF_ok hX hJ (by decide) rfl rfl k337 ct0
/-- MGo_summary -/
noncomputable def c338 : Ctr := (39, [aR 7, aT], some [aT], [], 1)
noncomputable def p338 : Pg := ([(40, 2, [some none, some (some (0, 401))], [], .inl 1, true)], [], [], ivG, [], none)
theorem k338 : chk p338 tbF 3000 c338 = true := by decide +kernel
theorem t338 {J : Jt} {X : Tok} {et : Nat → Option va_E} (hX : tOk X) (hH : HandT J X et) (hJ : JS DJ J) : ctrT ivG J X et c338 := ctr_ok tbF_ok hX hJ (by decide) rfl rfl k338 ct0
/-- MTo_lay -/
noncomputable def c339 : Ctr := (138, [aR 0, aT, aT], none, [(6, 1), (6, 2), (6, 3), (6, 4), (6, 5), (6, 6), (6, 7)], 2)
noncomputable def p339 : Pg := ([], [], [c0, c1, c298, c299, c300, c301, c302, c303, c304, c305, c306, c307, c308, c309, c310, c311, c312, c313, c314, c315, c316, c317, c318, c319, c320, c321, c322, c323, c324, c325, c326, c327], ivG, [(6, 1), (6, 2), (6, 3), (6, 4), (6, 5), (6, 6), (6, 7)], none)
theorem k339 : chk p339 tbF 3000 c339 = true := by decide +kernel
theorem t339 {J : Jt} {X : Tok} {et : Nat → Option va_E} (hX : tOk X) (hH : HandT J X et) (hJ : JS DJ J) : ctrT ivG J X et c339 := ctr_ok tbF_ok hX hJ (by decide) rfl rfl k339 (ct1 (t0 hX hH hJ) (ct1 (t1 hX hH hJ) (ct1 (t298 hX hH hJ) (ct1 (t299 hX hH hJ) (ct1 (t300 hX hH hJ) (ct1 (t301 hX hH hJ) (ct1 (t302 hX hH hJ) (ct1 (t303 hX hH hJ) (ct1 (t304 hX hH hJ) (ct1 (t305 hX hH hJ) (ct1 (t306 hX hH hJ) (ct1 (t307 hX hH hJ) (ct1 (t308 hX hH hJ) (ct1 (t309 hX hH hJ) (ct1 (t310 hX hH hJ) (ct1 (t311 hX hH hJ) (ct1 (t312 hX hH hJ) (ct1 (t313 hX hH hJ) (ct1 (t314 hX hH hJ) (ct1 (t315 hX hH hJ) (ct1 (t316 hX hH hJ) (ct1 (t317 hX hH hJ) (ct1 (t318 hX hH hJ) (ct1 (t319 hX hH hJ) (ct1 (t320 hX hH hJ) (ct1 (t321 hX hH hJ) (ct1 (t322 hX hH hJ) (ct1 (t323 hX hH hJ) (ct1 (t324 hX hH hJ) (ct1 (t325 hX hH hJ) (ct1 (t326 hX hH hJ) (ct1 (t327 hX hH hJ) ct0))))))))))))))))))))))))))))))))
/-- MTo_layOwn -/
noncomputable def c340 : Ctr := (139, [aR 0, aT], none, [(6, 1), (6, 2), (6, 3), (6, 4), (6, 5), (6, 6), (6, 7)], 3)
noncomputable def p340 : Pg := ([], [], [c0, c8, c19, c30, c41, c52, c63, c339], ivG, [(6, 1), (6, 2), (6, 3), (6, 4), (6, 5), (6, 6), (6, 7)], none)
theorem k340 : chk p340 tbF 3000 c340 = true := by decide +kernel
theorem t340 {J : Jt} {X : Tok} {et : Nat → Option va_E} (hX : tOk X) (hH : HandT J X et) (hJ : JS DJ J) : ctrT ivG J X et c340 := ctr_ok tbF_ok hX hJ (by decide) rfl rfl k340 (ct1 (t0 hX hH hJ) (ct1 (t8 hX hH hJ) (ct1 (t19 hX hH hJ) (ct1 (t30 hX hH hJ) (ct1 (t41 hX hH hJ) (ct1 (t52 hX hH hJ) (ct1 (t63 hX hH hJ) (ct1 (t339 hX hH hJ) ct0))))))))
/-- MTo_start -/
noncomputable def c341 : Ctr := (140, [aR 0, aT, aT], none, [(6, 8), (6, 9), (6, 10), (6, 11), (6, 12), (6, 13), (6, 14), (6, 15), (6, 16), (6, 17)], 2)
noncomputable def p341 : Pg := ([], [], [c328], ivG, [(6, 8), (6, 9), (6, 10), (6, 11), (6, 12), (6, 13), (6, 14), (6, 15), (6, 16), (6, 17)], none)
theorem k341 : chk p341 tbF 3000 c341 = true := by decide +kernel
theorem t341 {J : Jt} {X : Tok} {et : Nat → Option va_E} (hX : tOk X) (hH : HandT J X et) (hJ : JS DJ J) : ctrT ivG J X et c341 := ctr_ok tbF_ok hX hJ (by decide) rfl rfl k341 (ct1 (t328 hX hH hJ) ct0)
/-- MTo_firstBack -/
noncomputable def c342 : Ctr := (141, [aR 0, aT, aT], some [aT], [(6, 8), (6, 9), (6, 10), (6, 11), (6, 12), (6, 13), (6, 14), (6, 15), (6, 16), (6, 17), (49, 6), (49, 7), (49, 8), (49, 9), (49, 10), (49, 11), (53, 0), (54, 6), (54, 7), (54, 8), (54, 9), (54, 10), (54, 11), (58, 0), (59, 6), (59, 7), (59, 8), (59, 9), (59, 10), (59, 11), (63, 0), (64, 6), (64, 7), (64, 8), (64, 9), (64, 10), (64, 11), (68, 0)], 5)
noncomputable def p342 : Pg := ([(141, 8, [some none, some none, some none, some (some (0, 400))], [], .inl 3, true)], [], [c332, c341], ivG, [(6, 8), (6, 9), (6, 10), (6, 11), (6, 12), (6, 13), (6, 14), (6, 15), (6, 16), (6, 17), (49, 6), (49, 7), (49, 8), (49, 9), (49, 10), (49, 11), (53, 0), (54, 6), (54, 7), (54, 8), (54, 9), (54, 10), (54, 11), (58, 0), (59, 6), (59, 7), (59, 8), (59, 9), (59, 10), (59, 11), (63, 0), (64, 6), (64, 7), (64, 8), (64, 9), (64, 10), (64, 11), (68, 0)], none)
theorem k342 : chk p342 tbF 3000 c342 = true := by decide +kernel
theorem t342 {J : Jt} {X : Tok} {et : Nat → Option va_E} (hX : tOk X) (hH : HandT J X et) (hJ : JS DJ J) : ctrT ivG J X et c342 := ctr_ok tbF_ok hX hJ (by decide) rfl rfl k342 (ct1 (t332 hX hH hJ) (ct1 (t341 hX hH hJ) ct0))
/-- MFi_mayCome -/
noncomputable def c343 : Ctr := (15, [aR 11, aT, aT], some [aI 0 1], [], 1)
noncomputable def p343 : Pg := ([], [], [], ivG, [], none)
theorem k343 : chk p343 tbF 3000 c343 = true := by decide +kernel
theorem t343 {J : Jt} {X : Tok} {et : Nat → Option va_E} (hX : tOk X) (hH : HandT J X et) (hJ : JS DJ J) : ctrT ivG J X et c343 := ctr_ok tbF_ok hX hJ (by decide) rfl rfl k343 ct0
/-- MFi_append -/
noncomputable def c344 : Ctr := (16, [aR 11, aT, aT], some [aI 0 1], [(11, 3), (12, 0), (13, 0)], 0)
noncomputable def p344 : Pg := ([], [], [], ivG, [(11, 3), (12, 0), (13, 0)], none)
theorem k344 : chk p344 tbF 3000 c344 = true := by decide +kernel
theorem t344 {J : Jt} {X : Tok} {et : Nat → Option va_E} (hX : tOk X) (hH : HandT J X et) (hJ : JS DJ J) : ctrT ivG J X et c344 := ctr_ok tbF_ok hX hJ (by decide) rfl rfl k344 ct0
/-- MFi_takeFrom -/
noncomputable def c345 : Ctr := (17, [aR 11, aR 69, aT, aT], some [aT], [(11, 3), (12, 0), (13, 0)], 2)
noncomputable def p345 : Pg := ([(17, 9, [some none, some none, some none, some none, some (some ((-2147483648), 2147483647)), some (some (0, 1)), some (some (0, 2147483647)), none, none], [], .inl 6, true)], [], [c343, c344], ivG, [(11, 3), (12, 0), (13, 0)], none)
theorem k345 : chk p345 tbF 3000 c345 = true := by decide +kernel
theorem t345 {J : Jt} {X : Tok} {et : Nat → Option va_E} (hX : tOk X) (hH : HandT J X et) (hJ : JS DJ J) : ctrT ivG J X et c345 := ctr_ok tbF_ok hX hJ (by decide) rfl rfl k345 (ct1 (t343 hX hH hJ) (ct1 (t344 hX hH hJ) ct0))
/-- MFi_takeFrom -/
noncomputable def c346 : Ctr := (17, [aR 11, aR 71, aT, aT], some [aT], [(11, 3), (12, 0), (13, 0)], 2)
noncomputable def p346 : Pg := ([(17, 9, [some none, some none, some none, some none, some (some ((-2147483648), 2147483647)), some (some (0, 1)), some (some (0, 2147483647)), none, none], [], .inl 6, true)], [], [c343, c344], ivG, [(11, 3), (12, 0), (13, 0)], none)
theorem k346 : chk p346 tbF 3000 c346 = true := by decide +kernel
theorem t346 {J : Jt} {X : Tok} {et : Nat → Option va_E} (hX : tOk X) (hH : HandT J X et) (hJ : JS DJ J) : ctrT ivG J X et c346 := ctr_ok tbF_ok hX hJ (by decide) rfl rfl k346 (ct1 (t343 hX hH hJ) (ct1 (t344 hX hH hJ) ct0))
/-- MFi_takeFrom -/
noncomputable def c347 : Ctr := (17, [aR 11, aR 73, aT, aT], some [aT], [(11, 3), (12, 0), (13, 0)], 2)
noncomputable def p347 : Pg := ([(17, 9, [some none, some none, some none, some none, some (some ((-2147483648), 2147483647)), some (some (0, 1)), some (some (0, 2147483647)), none, none], [], .inl 6, true)], [], [c343, c344], ivG, [(11, 3), (12, 0), (13, 0)], none)
theorem k347 : chk p347 tbF 3000 c347 = true := by decide +kernel
theorem t347 {J : Jt} {X : Tok} {et : Nat → Option va_E} (hX : tOk X) (hH : HandT J X et) (hJ : JS DJ J) : ctrT ivG J X et c347 := ctr_ok tbF_ok hX hJ (by decide) rfl rfl k347 (ct1 (t343 hX hH hJ) (ct1 (t344 hX hH hJ) ct0))
/-- MFi_takeFrom -/
noncomputable def c348 : Ctr := (17, [aR 11, aR 75, aT, aT], some [aT], [(11, 3), (12, 0), (13, 0)], 2)
noncomputable def p348 : Pg := ([(17, 9, [some none, some none, some none, some none, some (some ((-2147483648), 2147483647)), some (some (0, 1)), some (some (0, 2147483647)), none, none], [], .inl 6, true)], [], [c343, c344], ivG, [(11, 3), (12, 0), (13, 0)], none)
theorem k348 : chk p348 tbF 3000 c348 = true := by decide +kernel
theorem t348 {J : Jt} {X : Tok} {et : Nat → Option va_E} (hX : tOk X) (hH : HandT J X et) (hJ : JS DJ J) : ctrT ivG J X et c348 := ctr_ok tbF_ok hX hJ (by decide) rfl rfl k348 (ct1 (t343 hX hH hJ) (ct1 (t344 hX hH hJ) ct0))
/-- MFi_takeFrom -/
noncomputable def c349 : Ctr := (17, [aR 11, aR 77, aT, aT], some [aT], [(11, 3), (12, 0), (13, 0)], 2)
noncomputable def p349 : Pg := ([(17, 9, [some none, some none, some none, some none, some (some ((-2147483648), 2147483647)), some (some (0, 1)), some (some (0, 2147483647)), none, none], [], .inl 6, true)], [], [c343, c344], ivG, [(11, 3), (12, 0), (13, 0)], none)
theorem k349 : chk p349 tbF 3000 c349 = true := by decide +kernel
theorem t349 {J : Jt} {X : Tok} {et : Nat → Option va_E} (hX : tOk X) (hH : HandT J X et) (hJ : JS DJ J) : ctrT ivG J X et c349 := ctr_ok tbF_ok hX hJ (by decide) rfl rfl k349 (ct1 (t343 hX hH hJ) (ct1 (t344 hX hH hJ) ct0))
/-- MFi_takeFrom -/
noncomputable def c350 : Ctr := (17, [aR 11, aR 79, aT, aT], some [aT], [(11, 3), (12, 0), (13, 0)], 2)
noncomputable def p350 : Pg := ([(17, 9, [some none, some none, some none, some none, some (some ((-2147483648), 2147483647)), some (some (0, 1)), some (some (0, 2147483647)), none, none], [], .inl 6, true)], [], [c343, c344], ivG, [(11, 3), (12, 0), (13, 0)], none)
theorem k350 : chk p350 tbF 3000 c350 = true := by decide +kernel
theorem t350 {J : Jt} {X : Tok} {et : Nat → Option va_E} (hX : tOk X) (hH : HandT J X et) (hJ : JS DJ J) : ctrT ivG J X et c350 := ctr_ok tbF_ok hX hJ (by decide) rfl rfl k350 (ct1 (t343 hX hH hJ) (ct1 (t344 hX hH hJ) ct0))
/-- MTo_offBy -/
noncomputable def c351 : Ctr := (142, [aR 0, aT, aT, aT], some [aT], [(6, 1), (6, 2), (6, 3), (6, 4), (6, 5), (6, 6), (6, 7), (6, 8), (6, 9), (6, 10), (6, 11), (6, 12), (6, 13), (6, 14), (6, 15), (6, 16), (6, 17), (49, 6), (49, 7), (49, 8), (49, 9), (49, 10), (49, 11), (53, 0), (54, 6), (54, 7), (54, 8), (54, 9), (54, 10), (54, 11), (58, 0), (59, 6), (59, 7), (59, 8), (59, 9), (59, 10), (59, 11), (63, 0), (64, 6), (64, 7), (64, 8), (64, 9), (64, 10), (64, 11), (68, 0)], 5)
noncomputable def p351 : Pg := ([(142, 45, [some none, some none, some none, some none, some (some ((-2147483648), 2147483647)), some (some (1, 2147483647)), none], [], .inl 5, true), (142, 76, [some none, some none, some none, some none, some none, some none, some (some ((-2147483648), 2147483647))], [(6, 10)], .inl 6, false)], [], [c328, c332, c339], ivG, [(6, 1), (6, 2), (6, 3), (6, 4), (6, 5), (6, 6), (6, 7), (6, 8), (6, 9), (6, 10), (6, 11), (6, 12), (6, 13), (6, 14), (6, 15), (6, 16), (6, 17), (49, 6), (49, 7), (49, 8), (49, 9), (49, 10), (49, 11), (53, 0), (54, 6), (54, 7), (54, 8), (54, 9), (54, 10), (54, 11), (58, 0), (59, 6), (59, 7), (59, 8), (59, 9), (59, 10), (59, 11), (63, 0), (64, 6), (64, 7), (64, 8), (64, 9), (64, 10), (64, 11), (68, 0)], none)
theorem k351 : chk p351 tbF 3000 c351 = true := by decide +kernel
theorem t351 {J : Jt} {X : Tok} {et : Nat → Option va_E} (hX : tOk X) (hH : HandT J X et) (hJ : JS DJ J) : ctrT ivG J X et c351 := ctr_ok tbF_ok hX hJ (by decide) rfl rfl k351 (ct1 (t328 hX hH hJ) (ct1 (t332 hX hH hJ) (ct1 (t339 hX hH hJ) ct0)))
/-- MTo_isGround -/
noncomputable def c352 : Ctr := (137, [aR 0, aT], some [aI 0 1], [], 3)
noncomputable def p352 : Pg := ([], [], [c0, c1], ivG, [], none)
theorem k352 : chk p352 tbF 3000 c352 = true := by decide +kernel
theorem t352 {J : Jt} {X : Tok} {et : Nat → Option va_E} (hX : tOk X) (hH : HandT J X et) (hJ : JS DJ J) : ctrT ivG J X et c352 := ctr_ok tbF_ok hX hJ (by decide) rfl rfl k352 (ct1 (t0 hX hH hJ) (ct1 (t1 hX hH hJ) ct0))
/-- MBo_ownNumber -/
noncomputable def c353 : Ctr := (5, [aT, aT], some [aI 0 81], [], 0)
noncomputable def p353 : Pg := ([], [], [], ivG, [], none)
theorem k353 : chk p353 tbF 3000 c353 = true := by decide +kernel
theorem t353 {J : Jt} {X : Tok} {et : Nat → Option va_E} (hX : tOk X) (hH : HandT J X et) (hJ : JS DJ J) : ctrT ivG J X et c353 := ctr_ok tbF_ok hX hJ (by decide) rfl rfl k353 ct0
/-- MBo_above -/
noncomputable def c354 : Ctr := (3, [aT], some [aI (-1) 6], [], 0)
noncomputable def p354 : Pg := ([], [], [], ivG, [], none)
theorem k354 : chk p354 tbF 3000 c354 = true := by decide +kernel
theorem t354 {J : Jt} {X : Tok} {et : Nat → Option va_E} (hX : tOk X) (hH : HandT J X et) (hJ : JS DJ J) : ctrT ivG J X et c354 := ctr_ok tbF_ok hX hJ (by decide) rfl rfl k354 ct0
/-- ask41 -/
noncomputable def c355 : Ctr := (8, [aR 16, aT, aT, aT, aI 41 41], some [aI 0 0], [], 1)
noncomputable def p355 : Pg := ([(8, 6, [some none, some none, some none, some none, some none, some (some ((-2147483648), 2147483647)), some (some (0, 8))], [], .inl 6, true)], [], [c353, c354], ivG, [], none)
theorem k355 : chk p355 tbF 3000 c355 = true := by decide +kernel
theorem t355 {J : Jt} {X : Tok} {et : Nat → Option va_E} (hX : tOk X) (hH : HandT J X et) (hJ : JS DJ J) : ctrT ivG J X et c355 := ctr_ok tbF_ok hX hJ (by decide) rfl rfl k355 (ct1 (t353 hX hH hJ) (ct1 (t354 hX hH hJ) ct0))
/-- ask40 -/
noncomputable def c356 : Ctr := (8, [aR 16, aT, aT, aT, aI 40 40], some [aT], [(16, 4), (18, 0)], 3)
noncomputable def p356 : Pg := ([(8, 6, [some none, some none, some none, some none, some none, some (some ((-2147483648), 2147483647)), some (some (0, 8))], [], .inl 6, true)], [], [c353, c354, c355], ivG, [(16, 4), (18, 0)], none)
theorem k356 : chk p356 tbF 3000 c356 = true := by decide +kernel
theorem t356 {J : Jt} {X : Tok} {et : Nat → Option va_E} (hX : tOk X) (hH : HandT J X et) (hJ : JS DJ J) : ctrT ivG J X et c356 := ctr_ok tbF_ok hX hJ (by decide) rfl rfl k356 (ct1 (t353 hX hH hJ) (ct1 (t354 hX hH hJ) (ct1 (t355 hX hH hJ) ct0)))
/-- ask39 -/
noncomputable def c357 : Ctr := (8, [aR 16, aT, aT, aT, aI 39 39], some [aT], [(16, 4), (18, 0)], 5)
noncomputable def p357 : Pg := ([(8, 6, [some none, some none, some none, some none, some none, some (some ((-2147483648), 2147483647)), some (some (0, 8))], [], .inl 6, true)], [], [c353, c354, c356], ivG, [(16, 4), (18, 0)], none)
theorem k357 : chk p357 tbF 3000 c357 = true := by decide +kernel
theorem t357 {J : Jt} {X : Tok} {et : Nat → Option va_E} (hX : tOk X) (hH : HandT J X et) (hJ : JS DJ J) : ctrT ivG J X et c357 := ctr_ok tbF_ok hX hJ (by decide) rfl rfl k357 (ct1 (t353 hX hH hJ) (ct1 (t354 hX hH hJ) (ct1 (t356 hX hH hJ) ct0)))
/-- ask38 -/
noncomputable def c358 : Ctr := (8, [aR 16, aT, aT, aT, aI 38 38], some [aT], [(16, 4), (18, 0)], 7)
noncomputable def p358 : Pg := ([(8, 6, [some none, some none, some none, some none, some none, some (some ((-2147483648), 2147483647)), some (some (0, 8))], [], .inl 6, true)], [], [c353, c354, c357], ivG, [(16, 4), (18, 0)], none)
theorem k358 : chk p358 tbF 3000 c358 = true := by decide +kernel
theorem t358 {J : Jt} {X : Tok} {et : Nat → Option va_E} (hX : tOk X) (hH : HandT J X et) (hJ : JS DJ J) : ctrT ivG J X et c358 := ctr_ok tbF_ok hX hJ (by decide) rfl rfl k358 (ct1 (t353 hX hH hJ) (ct1 (t354 hX hH hJ) (ct1 (t357 hX hH hJ) ct0)))
/-- ask37 -/
noncomputable def c359 : Ctr := (8, [aR 16, aT, aT, aT, aI 37 37], some [aT], [(16, 4), (18, 0)], 9)
noncomputable def p359 : Pg := ([(8, 6, [some none, some none, some none, some none, some none, some (some ((-2147483648), 2147483647)), some (some (0, 8))], [], .inl 6, true)], [], [c353, c354, c358], ivG, [(16, 4), (18, 0)], none)
theorem k359 : chk p359 tbF 3000 c359 = true := by decide +kernel
theorem t359 {J : Jt} {X : Tok} {et : Nat → Option va_E} (hX : tOk X) (hH : HandT J X et) (hJ : JS DJ J) : ctrT ivG J X et c359 := ctr_ok tbF_ok hX hJ (by decide) rfl rfl k359 (ct1 (t353 hX hH hJ) (ct1 (t354 hX hH hJ) (ct1 (t358 hX hH hJ) ct0)))
/-- ask36 -/
noncomputable def c360 : Ctr := (8, [aR 16, aT, aT, aT, aI 36 36], some [aT], [(16, 4), (18, 0)], 11)
noncomputable def p360 : Pg := ([(8, 6, [some none, some none, some none, some none, some none, some (some ((-2147483648), 2147483647)), some (some (0, 8))], [], .inl 6, true)], [], [c353, c354, c359], ivG, [(16, 4), (18, 0)], none)
theorem k360 : chk p360 tbF 3000 c360 = true := by decide +kernel
theorem t360 {J : Jt} {X : Tok} {et : Nat → Option va_E} (hX : tOk X) (hH : HandT J X et) (hJ : JS DJ J) : ctrT ivG J X et c360 := ctr_ok tbF_ok hX hJ (by decide) rfl rfl k360 (ct1 (t353 hX hH hJ) (ct1 (t354 hX hH hJ) (ct1 (t359 hX hH hJ) ct0)))
/-- ask35 -/
noncomputable def c361 : Ctr := (8, [aR 16, aT, aT, aT, aI 35 35], some [aT], [(16, 4), (18, 0)], 13)
noncomputable def p361 : Pg := ([(8, 6, [some none, some none, some none, some none, some none, some (some ((-2147483648), 2147483647)), some (some (0, 8))], [], .inl 6, true)], [], [c353, c354, c360], ivG, [(16, 4), (18, 0)], none)
theorem k361 : chk p361 tbF 3000 c361 = true := by decide +kernel
theorem t361 {J : Jt} {X : Tok} {et : Nat → Option va_E} (hX : tOk X) (hH : HandT J X et) (hJ : JS DJ J) : ctrT ivG J X et c361 := ctr_ok tbF_ok hX hJ (by decide) rfl rfl k361 (ct1 (t353 hX hH hJ) (ct1 (t354 hX hH hJ) (ct1 (t360 hX hH hJ) ct0)))
/-- ask34 -/
noncomputable def c362 : Ctr := (8, [aR 16, aT, aT, aT, aI 34 34], some [aT], [(16, 4), (18, 0)], 15)
noncomputable def p362 : Pg := ([(8, 6, [some none, some none, some none, some none, some none, some (some ((-2147483648), 2147483647)), some (some (0, 8))], [], .inl 6, true)], [], [c353, c354, c361], ivG, [(16, 4), (18, 0)], none)
theorem k362 : chk p362 tbF 3000 c362 = true := by decide +kernel
theorem t362 {J : Jt} {X : Tok} {et : Nat → Option va_E} (hX : tOk X) (hH : HandT J X et) (hJ : JS DJ J) : ctrT ivG J X et c362 := ctr_ok tbF_ok hX hJ (by decide) rfl rfl k362 (ct1 (t353 hX hH hJ) (ct1 (t354 hX hH hJ) (ct1 (t361 hX hH hJ) ct0)))
/-- ask33 -/
noncomputable def c363 : Ctr := (8, [aR 16, aT, aT, aT, aI 33 33], some [aT], [(16, 4), (18, 0)], 17)
noncomputable def p363 : Pg := ([(8, 6, [some none, some none, some none, some none, some none, some (some ((-2147483648), 2147483647)), some (some (0, 8))], [], .inl 6, true)], [], [c353, c354, c362], ivG, [(16, 4), (18, 0)], none)
theorem k363 : chk p363 tbF 3000 c363 = true := by decide +kernel
theorem t363 {J : Jt} {X : Tok} {et : Nat → Option va_E} (hX : tOk X) (hH : HandT J X et) (hJ : JS DJ J) : ctrT ivG J X et c363 := ctr_ok tbF_ok hX hJ (by decide) rfl rfl k363 (ct1 (t353 hX hH hJ) (ct1 (t354 hX hH hJ) (ct1 (t362 hX hH hJ) ct0)))
/-- ask32 -/
noncomputable def c364 : Ctr := (8, [aR 16, aT, aT, aT, aI 32 32], some [aT], [(16, 4), (18, 0)], 19)
noncomputable def p364 : Pg := ([(8, 6, [some none, some none, some none, some none, some none, some (some ((-2147483648), 2147483647)), some (some (0, 8))], [], .inl 6, true)], [], [c353, c354, c363], ivG, [(16, 4), (18, 0)], none)
theorem k364 : chk p364 tbF 3000 c364 = true := by decide +kernel
theorem t364 {J : Jt} {X : Tok} {et : Nat → Option va_E} (hX : tOk X) (hH : HandT J X et) (hJ : JS DJ J) : ctrT ivG J X et c364 := ctr_ok tbF_ok hX hJ (by decide) rfl rfl k364 (ct1 (t353 hX hH hJ) (ct1 (t354 hX hH hJ) (ct1 (t363 hX hH hJ) ct0)))
/-- ask31 -/
noncomputable def c365 : Ctr := (8, [aR 16, aT, aT, aT, aI 31 31], some [aT], [(16, 4), (18, 0)], 21)
noncomputable def p365 : Pg := ([(8, 6, [some none, some none, some none, some none, some none, some (some ((-2147483648), 2147483647)), some (some (0, 8))], [], .inl 6, true)], [], [c353, c354, c364], ivG, [(16, 4), (18, 0)], none)
theorem k365 : chk p365 tbF 3000 c365 = true := by decide +kernel
theorem t365 {J : Jt} {X : Tok} {et : Nat → Option va_E} (hX : tOk X) (hH : HandT J X et) (hJ : JS DJ J) : ctrT ivG J X et c365 := ctr_ok tbF_ok hX hJ (by decide) rfl rfl k365 (ct1 (t353 hX hH hJ) (ct1 (t354 hX hH hJ) (ct1 (t364 hX hH hJ) ct0)))
/-- ask30 -/
noncomputable def c366 : Ctr := (8, [aR 16, aT, aT, aT, aI 30 30], some [aT], [(16, 4), (18, 0)], 23)
noncomputable def p366 : Pg := ([(8, 6, [some none, some none, some none, some none, some none, some (some ((-2147483648), 2147483647)), some (some (0, 8))], [], .inl 6, true)], [], [c353, c354, c365], ivG, [(16, 4), (18, 0)], none)
theorem k366 : chk p366 tbF 3000 c366 = true := by decide +kernel
theorem t366 {J : Jt} {X : Tok} {et : Nat → Option va_E} (hX : tOk X) (hH : HandT J X et) (hJ : JS DJ J) : ctrT ivG J X et c366 := ctr_ok tbF_ok hX hJ (by decide) rfl rfl k366 (ct1 (t353 hX hH hJ) (ct1 (t354 hX hH hJ) (ct1 (t365 hX hH hJ) ct0)))
