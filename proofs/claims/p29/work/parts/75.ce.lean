-- ===== contracts that the checker shows, 4
/-- MMo_rule -/
noncomputable def c320 : Ctr := (42, [aR 6, aR 39, aT, aR 54], none, [(6, 1), (6, 2), (6, 3), (6, 4), (6, 5), (6, 6), (6, 7)], 1)
noncomputable def p320 : Pg := ([], [], [c60], ivG, [(6, 1), (6, 2), (6, 3), (6, 4), (6, 5), (6, 6), (6, 7)], none)
theorem k320 : chk p320 tbF 3000 c320 = true := by decide +kernel
theorem t320 {J : Jt} {X : Tok} {et : Nat → Option va_E} (hX : tOk X) (hH : HandT J X et) (hJ : JS DJ J) : ctrT ivG J X et c320 := ctr_ok (tb := tbF) (P := p320) (c := c320) (f := 3000) tbF_ok hX hJ (by decide) rfl rfl k320 (ct1 (t60 hX hH hJ) ct0)
/-- MMo_rule -/
noncomputable def c321 : Ctr := (42, [aR 6, aR 39, aT, aR 59], none, [(6, 1), (6, 2), (6, 3), (6, 4), (6, 5), (6, 6), (6, 7)], 1)
noncomputable def p321 : Pg := ([], [], [c60], ivG, [(6, 1), (6, 2), (6, 3), (6, 4), (6, 5), (6, 6), (6, 7)], none)
theorem k321 : chk p321 tbF 3000 c321 = true := by decide +kernel
theorem t321 {J : Jt} {X : Tok} {et : Nat → Option va_E} (hX : tOk X) (hH : HandT J X et) (hJ : JS DJ J) : ctrT ivG J X et c321 := ctr_ok (tb := tbF) (P := p321) (c := c321) (f := 3000) tbF_ok hX hJ (by decide) rfl rfl k321 (ct1 (t60 hX hH hJ) ct0)
/-- MMo_rule -/
noncomputable def c322 : Ctr := (42, [aR 6, aR 39, aT, aR 64], none, [(6, 1), (6, 2), (6, 3), (6, 4), (6, 5), (6, 6), (6, 7)], 1)
noncomputable def p322 : Pg := ([], [], [c60], ivG, [(6, 1), (6, 2), (6, 3), (6, 4), (6, 5), (6, 6), (6, 7)], none)
theorem k322 : chk p322 tbF 3000 c322 = true := by decide +kernel
theorem t322 {J : Jt} {X : Tok} {et : Nat → Option va_E} (hX : tOk X) (hH : HandT J X et) (hJ : JS DJ J) : ctrT ivG J X et c322 := ctr_ok (tb := tbF) (P := p322) (c := c322) (f := 3000) tbF_ok hX hJ (by decide) rfl rfl k322 (ct1 (t60 hX hH hJ) ct0)
/-- MMo_rule -/
noncomputable def c323 : Ctr := (42, [aR 6, aR 44, aT, aN], none, [(6, 1), (6, 2), (6, 3), (6, 4), (6, 5), (6, 6), (6, 7)], 1)
noncomputable def p323 : Pg := ([], [], [c71], ivG, [(6, 1), (6, 2), (6, 3), (6, 4), (6, 5), (6, 6), (6, 7)], none)
theorem k323 : chk p323 tbF 3000 c323 = true := by decide +kernel
theorem t323 {J : Jt} {X : Tok} {et : Nat → Option va_E} (hX : tOk X) (hH : HandT J X et) (hJ : JS DJ J) : ctrT ivG J X et c323 := ctr_ok (tb := tbF) (P := p323) (c := c323) (f := 3000) tbF_ok hX hJ (by decide) rfl rfl k323 (ct1 (t71 hX hH hJ) ct0)
/-- MMo_rule -/
noncomputable def c324 : Ctr := (42, [aR 6, aR 44, aT, aR 49], none, [(6, 1), (6, 2), (6, 3), (6, 4), (6, 5), (6, 6), (6, 7)], 1)
noncomputable def p324 : Pg := ([], [], [c71], ivG, [(6, 1), (6, 2), (6, 3), (6, 4), (6, 5), (6, 6), (6, 7)], none)
theorem k324 : chk p324 tbF 3000 c324 = true := by decide +kernel
theorem t324 {J : Jt} {X : Tok} {et : Nat → Option va_E} (hX : tOk X) (hH : HandT J X et) (hJ : JS DJ J) : ctrT ivG J X et c324 := ctr_ok (tb := tbF) (P := p324) (c := c324) (f := 3000) tbF_ok hX hJ (by decide) rfl rfl k324 (ct1 (t71 hX hH hJ) ct0)
/-- MMo_rule -/
noncomputable def c325 : Ctr := (42, [aR 6, aR 44, aT, aR 54], none, [(6, 1), (6, 2), (6, 3), (6, 4), (6, 5), (6, 6), (6, 7)], 1)
noncomputable def p325 : Pg := ([], [], [c71], ivG, [(6, 1), (6, 2), (6, 3), (6, 4), (6, 5), (6, 6), (6, 7)], none)
theorem k325 : chk p325 tbF 3000 c325 = true := by decide +kernel
theorem t325 {J : Jt} {X : Tok} {et : Nat → Option va_E} (hX : tOk X) (hH : HandT J X et) (hJ : JS DJ J) : ctrT ivG J X et c325 := ctr_ok (tb := tbF) (P := p325) (c := c325) (f := 3000) tbF_ok hX hJ (by decide) rfl rfl k325 (ct1 (t71 hX hH hJ) ct0)
/-- MMo_rule -/
noncomputable def c326 : Ctr := (42, [aR 6, aR 44, aT, aR 59], none, [(6, 1), (6, 2), (6, 3), (6, 4), (6, 5), (6, 6), (6, 7)], 1)
noncomputable def p326 : Pg := ([], [], [c71], ivG, [(6, 1), (6, 2), (6, 3), (6, 4), (6, 5), (6, 6), (6, 7)], none)
theorem k326 : chk p326 tbF 3000 c326 = true := by decide +kernel
theorem t326 {J : Jt} {X : Tok} {et : Nat → Option va_E} (hX : tOk X) (hH : HandT J X et) (hJ : JS DJ J) : ctrT ivG J X et c326 := ctr_ok (tb := tbF) (P := p326) (c := c326) (f := 3000) tbF_ok hX hJ (by decide) rfl rfl k326 (ct1 (t71 hX hH hJ) ct0)
/-- MMo_rule -/
noncomputable def c327 : Ctr := (42, [aR 6, aR 44, aT, aR 64], none, [(6, 1), (6, 2), (6, 3), (6, 4), (6, 5), (6, 6), (6, 7)], 1)
noncomputable def p327 : Pg := ([], [], [c71], ivG, [(6, 1), (6, 2), (6, 3), (6, 4), (6, 5), (6, 6), (6, 7)], none)
theorem k327 : chk p327 tbF 3000 c327 = true := by decide +kernel
theorem t327 {J : Jt} {X : Tok} {et : Nat → Option va_E} (hX : tOk X) (hH : HandT J X et) (hJ : JS DJ J) : ctrT ivG J X et c327 := ctr_ok (tb := tbF) (P := p327) (c := c327) (f := 3000) tbF_ok hX hJ (by decide) rfl rfl k327 (ct1 (t71 hX hH hJ) ct0)
/-- MMo_start -/
noncomputable def c328 : Ctr := (43, [aR 6, aT, aT, aT, aT], none, [(6, 8), (6, 9), (6, 10), (6, 11), (6, 12), (6, 13), (6, 14), (6, 15), (6, 16), (6, 17)], 1)
noncomputable def p328 : Pg := ([], [], [], ivG, [(6, 8), (6, 9), (6, 10), (6, 11), (6, 12), (6, 13), (6, 14), (6, 15), (6, 16), (6, 17)], none)
theorem k328 : chk p328 tbF 3000 c328 = true := by decide +kernel
theorem t328 {J : Jt} {X : Tok} {et : Nat → Option va_E} (hX : tOk X) (hH : HandT J X et) (hJ : JS DJ J) : ctrT ivG J X et c328 := ctr_ok (tb := tbF) (P := p328) (c := c328) (f := 3000) tbF_ok hX hJ (by decide) rfl rfl k328 ct0
/-- MMo_grown -/
noncomputable def c329 : Ctr := (47, [aR 6, aT, aT, aT], some [aT], [], 1)
noncomputable def p329 : Pg := ([], [], [], ivG, [], none)
theorem k329 : chk p329 tbF 3000 c329 = true := by decide +kernel
theorem t329 {J : Jt} {X : Tok} {et : Nat → Option va_E} (hX : tOk X) (hH : HandT J X et) (hJ : JS DJ J) : ctrT ivG J X et c329 := ctr_ok (tb := tbF) (P := p329) (c := c329) (f := 3000) tbF_ok hX hJ (by decide) rfl rfl k329 ct0
/-- MMo_growRattle -/
noncomputable def c330 : Ctr := (46, [aR 6], none, [(6, 8), (6, 9), (6, 10)], 2)
noncomputable def p330 : Pg := ([], [], [c329], ivG, [(6, 8), (6, 9), (6, 10)], none)
theorem k330 : chk p330 tbF 3000 c330 = true := by decide +kernel
theorem t330 {J : Jt} {X : Tok} {et : Nat → Option va_E} (hX : tOk X) (hH : HandT J X et) (hJ : JS DJ J) : ctrT ivG J X et c330 := ctr_ok (tb := tbF) (P := p330) (c := c330) (f := 3000) tbF_ok hX hJ (by decide) rfl rfl k330 (ct1 (t329 hX hH hJ) ct0)
/-- MMo_pushTurn -/
noncomputable def c331 : Ctr := (48, [aR 6], none, [(6, 8), (6, 9), (6, 10)], 2)
noncomputable def p331 : Pg := ([], [], [], ivG, [(6, 8), (6, 9), (6, 10)], none)
theorem k331 : chk p331 tbF 3000 c331 = true := by decide +kernel
theorem t331 {J : Jt} {X : Tok} {et : Nat → Option va_E} (hX : tOk X) (hH : HandT J X et) (hJ : JS DJ J) : ctrT ivG J X et c331 := ctr_ok (tb := tbF) (P := p331) (c := c331) (f := 3000) tbF_ok hX hJ (by decide) rfl rfl k331 ct0
/-- MMo_step -/
noncomputable def c332 : Ctr := (45, [aR 6], none, [(6, 8), (6, 9), (6, 10), (6, 11), (6, 12), (6, 13), (6, 14), (6, 15), (6, 16), (6, 17), (49, 6), (49, 7), (49, 8), (49, 9), (49, 10), (49, 11), (53, 0), (54, 6), (54, 7), (54, 8), (54, 9), (54, 10), (54, 11), (58, 0), (59, 6), (59, 7), (59, 8), (59, 9), (59, 10), (59, 11), (63, 0), (64, 6), (64, 7), (64, 8), (64, 9), (64, 10), (64, 11), (68, 0)], 4)
noncomputable def p332 : Pg := ([], [], [c297, c330, c331], ivG, [(6, 8), (6, 9), (6, 10), (6, 11), (6, 12), (6, 13), (6, 14), (6, 15), (6, 16), (6, 17), (49, 6), (49, 7), (49, 8), (49, 9), (49, 10), (49, 11), (53, 0), (54, 6), (54, 7), (54, 8), (54, 9), (54, 10), (54, 11), (58, 0), (59, 6), (59, 7), (59, 8), (59, 9), (59, 10), (59, 11), (63, 0), (64, 6), (64, 7), (64, 8), (64, 9), (64, 10), (64, 11), (68, 0)], none)
theorem k332 : chk p332 tbF 3000 c332 = true := by decide +kernel
theorem t332 {J : Jt} {X : Tok} {et : Nat → Option va_E} (hX : tOk X) (hH : HandT J X et) (hJ : JS DJ J) : ctrT ivG J X et c332 := ctr_ok (tb := tbF) (P := p332) (c := c332) (f := 3000) tbF_ok hX hJ (by decide) rfl rfl k332 (ct1 (t297 hX hH hJ) (ct1 (t330 hX hH hJ) (ct1 (t331 hX hH hJ) ct0)))
/-- MMo_run -/
noncomputable def c333 : Ctr := (44, [aR 6, aT], none, [(6, 8), (6, 9), (6, 10), (6, 11), (6, 12), (6, 13), (6, 14), (6, 15), (6, 16), (6, 17), (49, 6), (49, 7), (49, 8), (49, 9), (49, 10), (49, 11), (53, 0), (54, 6), (54, 7), (54, 8), (54, 9), (54, 10), (54, 11), (58, 0), (59, 6), (59, 7), (59, 8), (59, 9), (59, 10), (59, 11), (63, 0), (64, 6), (64, 7), (64, 8), (64, 9), (64, 10), (64, 11), (68, 0)], 5)
noncomputable def p333 : Pg := ([(44, 2, [some none, some none, some (some (0, 2147483647))], [], .inl 2, true)], [], [c332], ivG, [(6, 8), (6, 9), (6, 10), (6, 11), (6, 12), (6, 13), (6, 14), (6, 15), (6, 16), (6, 17), (49, 6), (49, 7), (49, 8), (49, 9), (49, 10), (49, 11), (53, 0), (54, 6), (54, 7), (54, 8), (54, 9), (54, 10), (54, 11), (58, 0), (59, 6), (59, 7), (59, 8), (59, 9), (59, 10), (59, 11), (63, 0), (64, 6), (64, 7), (64, 8), (64, 9), (64, 10), (64, 11), (68, 0)], none)
theorem k333 : chk p333 tbF 3000 c333 = true := by decide +kernel
theorem t333 {J : Jt} {X : Tok} {et : Nat → Option va_E} (hX : tOk X) (hH : HandT J X et) (hJ : JS DJ J) : ctrT ivG J X et c333 := ctr_ok (tb := tbF) (P := p333) (c := c333) (f := 3000) tbF_ok hX hJ (by decide) rfl rfl k333 (ct1 (t332 hX hH hJ) ct0)
/-- MGo_note -/
noncomputable def c334 : Ctr := (36, [aR 7, aR 6, aT], none, [(8, 0), (9, 0), (10, 0)], 0)
noncomputable def p334 : Pg := ([], [], [], ivG, [(8, 0), (9, 0), (10, 0)], none)
theorem k334 : chk p334 tbF 3000 c334 = true := by decide +kernel
theorem t334 {J : Jt} {X : Tok} {et : Nat → Option va_E} (hX : tOk X) (hH : HandT J X et) (hJ : JS DJ J) : ctrT ivG J X et c334 := ctr_ok (tb := tbF) (P := p334) (c := c334) (f := 3000) tbF_ok hX hJ (by decide) rfl rfl k334 ct0
/-- MGo_record -/
noncomputable def c335 : Ctr := (35, [aR 7, aR 6, aI 0 400], none, [(6, 8), (6, 9), (6, 10), (6, 11), (6, 12), (6, 13), (6, 14), (6, 15), (6, 16), (6, 17), (7, 4), (7, 5), (7, 6), (7, 7), (7, 8), (7, 9), (8, 0), (9, 0), (10, 0), (49, 6), (49, 7), (49, 8), (49, 9), (49, 10), (49, 11), (53, 0), (54, 6), (54, 7), (54, 8), (54, 9), (54, 10), (54, 11), (58, 0), (59, 6), (59, 7), (59, 8), (59, 9), (59, 10), (59, 11), (63, 0), (64, 6), (64, 7), (64, 8), (64, 9), (64, 10), (64, 11), (68, 0)], 5)
noncomputable def p335 : Pg := ([(35, 13, [some none, some none, some none, some (some (1, 401))], [], .inl 3, true)], [], [c332, c334], ivG, [(6, 8), (6, 9), (6, 10), (6, 11), (6, 12), (6, 13), (6, 14), (6, 15), (6, 16), (6, 17), (7, 4), (7, 5), (7, 6), (7, 7), (7, 8), (7, 9), (8, 0), (9, 0), (10, 0), (49, 6), (49, 7), (49, 8), (49, 9), (49, 10), (49, 11), (53, 0), (54, 6), (54, 7), (54, 8), (54, 9), (54, 10), (54, 11), (58, 0), (59, 6), (59, 7), (59, 8), (59, 9), (59, 10), (59, 11), (63, 0), (64, 6), (64, 7), (64, 8), (64, 9), (64, 10), (64, 11), (68, 0)], none)
theorem k335 : chk p335 tbF 3000 c335 = true := by decide +kernel
theorem t335 {J : Jt} {X : Tok} {et : Nat → Option va_E} (hX : tOk X) (hH : HandT J X et) (hJ : JS DJ J) : ctrT ivG J X et c335 := ctr_ok (tb := tbF) (P := p335) (c := c335) (f := 3000) tbF_ok hX hJ (by decide) rfl rfl k335 (ct1 (t332 hX hH hJ) (ct1 (t334 hX hH hJ) ct0))
/-- MGo_at -/
noncomputable def c336 : Ctr := (37, [aR 7, aT, aT], some [aT], [], 0)
noncomputable def p336 : Pg := ([], [], [], ivG, [], none)
theorem k336 : chk p336 tbF 3000 c336 = true := by decide +kernel
theorem t336 {J : Jt} {X : Tok} {et : Nat → Option va_E} (hX : tOk X) (hH : HandT J X et) (hJ : JS DJ J) : ctrT ivG J X et c336 := ctr_ok (tb := tbF) (P := p336) (c := c336) (f := 3000) tbF_ok hX hJ (by decide) rfl rfl k336 ct0
/-- MGo_backTick -/
noncomputable def c337 : Ctr := (38, [aR 7, aT], some [aI (-1) 400], [], 1)
noncomputable def p337 : Pg := ([(38, 7, [some none, some none, some (some ((-2147483648), 2147483647)), some (some ((-2147483648), 2147483647)), some (some (0, 401)), none], [], .inl 4, true)], [], [], ivG, [], none)
theorem k337 : chk p337 tbF 3000 c337 = true := by decide +kernel
theorem t337 {J : Jt} {X : Tok} {et : Nat → Option va_E} (hX : tOk X) (hH : HandT J X et) (hJ : JS DJ J) : ctrT ivG J X et c337 := ctr_ok (tb := tbF) (P := p337) (c := c337) (f := 3000) tbF_ok hX hJ (by decide) rfl rfl k337 ct0
/-- MGo_summary -/
noncomputable def c338 : Ctr := (39, [aR 7, aT], some [aT], [], 1)
noncomputable def p338 : Pg := ([(40, 2, [some none, some (some (0, 401))], [], .inl 1, true)], [], [], ivG, [], none)
theorem k338 : chk p338 tbF 3000 c338 = true := by decide +kernel
theorem t338 {J : Jt} {X : Tok} {et : Nat → Option va_E} (hX : tOk X) (hH : HandT J X et) (hJ : JS DJ J) : ctrT ivG J X et c338 := ctr_ok (tb := tbF) (P := p338) (c := c338) (f := 3000) tbF_ok hX hJ (by decide) rfl rfl k338 ct0
/-- MTo_lay -/
noncomputable def c339 : Ctr := (138, [aR 0, aT, aT], none, [(6, 1), (6, 2), (6, 3), (6, 4), (6, 5), (6, 6), (6, 7)], 2)
noncomputable def p339 : Pg := ([], [], [c0, c1, c298, c299, c300, c301, c302, c303, c304, c305, c306, c307, c308, c309, c310, c311, c312, c313, c314, c315, c316, c317, c318, c319, c320, c321, c322, c323, c324, c325, c326, c327], ivG, [(6, 1), (6, 2), (6, 3), (6, 4), (6, 5), (6, 6), (6, 7)], none)
theorem k339 : chk p339 tbF 3000 c339 = true := by decide +kernel
theorem t339 {J : Jt} {X : Tok} {et : Nat → Option va_E} (hX : tOk X) (hH : HandT J X et) (hJ : JS DJ J) : ctrT ivG J X et c339 := ctr_ok (tb := tbF) (P := p339) (c := c339) (f := 3000) tbF_ok hX hJ (by decide) rfl rfl k339 (ct1 (t0 hX hH hJ) (ct1 (t1 hX hH hJ) (ct1 (t298 hX hH hJ) (ct1 (t299 hX hH hJ) (ct1 (t300 hX hH hJ) (ct1 (t301 hX hH hJ) (ct1 (t302 hX hH hJ) (ct1 (t303 hX hH hJ) (ct1 (t304 hX hH hJ) (ct1 (t305 hX hH hJ) (ct1 (t306 hX hH hJ) (ct1 (t307 hX hH hJ) (ct1 (t308 hX hH hJ) (ct1 (t309 hX hH hJ) (ct1 (t310 hX hH hJ) (ct1 (t311 hX hH hJ) (ct1 (t312 hX hH hJ) (ct1 (t313 hX hH hJ) (ct1 (t314 hX hH hJ) (ct1 (t315 hX hH hJ) (ct1 (t316 hX hH hJ) (ct1 (t317 hX hH hJ) (ct1 (t318 hX hH hJ) (ct1 (t319 hX hH hJ) (ct1 (t320 hX hH hJ) (ct1 (t321 hX hH hJ) (ct1 (t322 hX hH hJ) (ct1 (t323 hX hH hJ) (ct1 (t324 hX hH hJ) (ct1 (t325 hX hH hJ) (ct1 (t326 hX hH hJ) (ct1 (t327 hX hH hJ) ct0))))))))))))))))))))))))))))))))
/-- MTo_layOwn -/
noncomputable def c340 : Ctr := (139, [aR 0, aT], none, [(6, 1), (6, 2), (6, 3), (6, 4), (6, 5), (6, 6), (6, 7)], 3)
noncomputable def p340 : Pg := ([], [], [c0, c8, c19, c30, c41, c52, c63, c339], ivG, [(6, 1), (6, 2), (6, 3), (6, 4), (6, 5), (6, 6), (6, 7)], none)
theorem k340 : chk p340 tbF 3000 c340 = true := by decide +kernel
theorem t340 {J : Jt} {X : Tok} {et : Nat → Option va_E} (hX : tOk X) (hH : HandT J X et) (hJ : JS DJ J) : ctrT ivG J X et c340 := ctr_ok (tb := tbF) (P := p340) (c := c340) (f := 3000) tbF_ok hX hJ (by decide) rfl rfl k340 (ct1 (t0 hX hH hJ) (ct1 (t8 hX hH hJ) (ct1 (t19 hX hH hJ) (ct1 (t30 hX hH hJ) (ct1 (t41 hX hH hJ) (ct1 (t52 hX hH hJ) (ct1 (t63 hX hH hJ) (ct1 (t339 hX hH hJ) ct0))))))))
/-- MTo_start -/
noncomputable def c341 : Ctr := (140, [aR 0, aT, aT], none, [(6, 8), (6, 9), (6, 10), (6, 11), (6, 12), (6, 13), (6, 14), (6, 15), (6, 16), (6, 17)], 2)
noncomputable def p341 : Pg := ([], [], [c328], ivG, [(6, 8), (6, 9), (6, 10), (6, 11), (6, 12), (6, 13), (6, 14), (6, 15), (6, 16), (6, 17)], none)
theorem k341 : chk p341 tbF 3000 c341 = true := by decide +kernel
theorem t341 {J : Jt} {X : Tok} {et : Nat → Option va_E} (hX : tOk X) (hH : HandT J X et) (hJ : JS DJ J) : ctrT ivG J X et c341 := ctr_ok (tb := tbF) (P := p341) (c := c341) (f := 3000) tbF_ok hX hJ (by decide) rfl rfl k341 (ct1 (t328 hX hH hJ) ct0)
/-- MTo_firstBack -/
noncomputable def c342 : Ctr := (141, [aR 0, aT, aT], some [aT], [(6, 8), (6, 9), (6, 10), (6, 11), (6, 12), (6, 13), (6, 14), (6, 15), (6, 16), (6, 17), (49, 6), (49, 7), (49, 8), (49, 9), (49, 10), (49, 11), (53, 0), (54, 6), (54, 7), (54, 8), (54, 9), (54, 10), (54, 11), (58, 0), (59, 6), (59, 7), (59, 8), (59, 9), (59, 10), (59, 11), (63, 0), (64, 6), (64, 7), (64, 8), (64, 9), (64, 10), (64, 11), (68, 0)], 5)
noncomputable def p342 : Pg := ([(141, 8, [some none, some none, some none, some (some (0, 400))], [], .inl 3, true)], [], [c332, c341], ivG, [(6, 8), (6, 9), (6, 10), (6, 11), (6, 12), (6, 13), (6, 14), (6, 15), (6, 16), (6, 17), (49, 6), (49, 7), (49, 8), (49, 9), (49, 10), (49, 11), (53, 0), (54, 6), (54, 7), (54, 8), (54, 9), (54, 10), (54, 11), (58, 0), (59, 6), (59, 7), (59, 8), (59, 9), (59, 10), (59, 11), (63, 0), (64, 6), (64, 7), (64, 8), (64, 9), (64, 10), (64, 11), (68, 0)], none)
theorem k342 : chk p342 tbF 3000 c342 = true := by decide +kernel
theorem t342 {J : Jt} {X : Tok} {et : Nat → Option va_E} (hX : tOk X) (hH : HandT J X et) (hJ : JS DJ J) : ctrT ivG J X et c342 := ctr_ok (tb := tbF) (P := p342) (c := c342) (f := 3000) tbF_ok hX hJ (by decide) rfl rfl k342 (ct1 (t332 hX hH hJ) (ct1 (t341 hX hH hJ) ct0))
/-- MFi_mayCome -/
noncomputable def c343 : Ctr := (15, [aR 11, aT, aT], some [aI 0 1], [], 1)
noncomputable def p343 : Pg := ([], [], [], ivG, [], none)
theorem k343 : chk p343 tbF 3000 c343 = true := by decide +kernel
theorem t343 {J : Jt} {X : Tok} {et : Nat → Option va_E} (hX : tOk X) (hH : HandT J X et) (hJ : JS DJ J) : ctrT ivG J X et c343 := ctr_ok (tb := tbF) (P := p343) (c := c343) (f := 3000) tbF_ok hX hJ (by decide) rfl rfl k343 ct0
/-- MFi_append -/
noncomputable def c344 : Ctr := (16, [aR 11, aT, aT], some [aI 0 1], [(11, 3), (12, 0), (13, 0)], 0)
noncomputable def p344 : Pg := ([], [], [], ivG, [(11, 3), (12, 0), (13, 0)], none)
theorem k344 : chk p344 tbF 3000 c344 = true := by decide +kernel
theorem t344 {J : Jt} {X : Tok} {et : Nat → Option va_E} (hX : tOk X) (hH : HandT J X et) (hJ : JS DJ J) : ctrT ivG J X et c344 := ctr_ok (tb := tbF) (P := p344) (c := c344) (f := 3000) tbF_ok hX hJ (by decide) rfl rfl k344 ct0
/-- MFi_takeFrom -/
noncomputable def c345 : Ctr := (17, [aR 11, aR 69, aT, aT], some [aT], [(11, 3), (12, 0), (13, 0)], 2)
noncomputable def p345 : Pg := ([(17, 9, [some none, some none, some none, some none, some (some ((-2147483648), 2147483647)), some (some (0, 1)), some (some (0, 2147483647)), none, none], [], .inl 6, true)], [], [c343, c344], ivG, [(11, 3), (12, 0), (13, 0)], none)
theorem k345 : chk p345 tbF 3000 c345 = true := by decide +kernel
theorem t345 {J : Jt} {X : Tok} {et : Nat → Option va_E} (hX : tOk X) (hH : HandT J X et) (hJ : JS DJ J) : ctrT ivG J X et c345 := ctr_ok (tb := tbF) (P := p345) (c := c345) (f := 3000) tbF_ok hX hJ (by decide) rfl rfl k345 (ct1 (t343 hX hH hJ) (ct1 (t344 hX hH hJ) ct0))
/-- MFi_takeFrom -/
noncomputable def c346 : Ctr := (17, [aR 11, aR 71, aT, aT], some [aT], [(11, 3), (12, 0), (13, 0)], 2)
noncomputable def p346 : Pg := ([(17, 9, [some none, some none, some none, some none, some (some ((-2147483648), 2147483647)), some (some (0, 1)), some (some (0, 2147483647)), none, none], [], .inl 6, true)], [], [c343, c344], ivG, [(11, 3), (12, 0), (13, 0)], none)
theorem k346 : chk p346 tbF 3000 c346 = true := by decide +kernel
theorem t346 {J : Jt} {X : Tok} {et : Nat → Option va_E} (hX : tOk X) (hH : HandT J X et) (hJ : JS DJ J) : ctrT ivG J X et c346 := ctr_ok (tb := tbF) (P := p346) (c := c346) (f := 3000) tbF_ok hX hJ (by decide) rfl rfl k346 (ct1 (t343 hX hH hJ) (ct1 (t344 hX hH hJ) ct0))
/-- MFi_takeFrom -/
noncomputable def c347 : Ctr := (17, [aR 11, aR 73, aT, aT], some [aT], [(11, 3), (12, 0), (13, 0)], 2)
noncomputable def p347 : Pg := ([(17, 9, [some none, some none, some none, some none, some (some ((-2147483648), 2147483647)), some (some (0, 1)), some (some (0, 2147483647)), none, none], [], .inl 6, true)], [], [c343, c344], ivG, [(11, 3), (12, 0), (13, 0)], none)
theorem k347 : chk p347 tbF 3000 c347 = true := by decide +kernel
theorem t347 {J : Jt} {X : Tok} {et : Nat → Option va_E} (hX : tOk X) (hH : HandT J X et) (hJ : JS DJ J) : ctrT ivG J X et c347 := ctr_ok (tb := tbF) (P := p347) (c := c347) (f := 3000) tbF_ok hX hJ (by decide) rfl rfl k347 (ct1 (t343 hX hH hJ) (ct1 (t344 hX hH hJ) ct0))
/-- MFi_takeFrom -/
noncomputable def c348 : Ctr := (17, [aR 11, aR 75, aT, aT], some [aT], [(11, 3), (12, 0), (13, 0)], 2)
noncomputable def p348 : Pg := ([(17, 9, [some none, some none, some none, some none, some (some ((-2147483648), 2147483647)), some (some (0, 1)), some (some (0, 2147483647)), none, none], [], .inl 6, true)], [], [c343, c344], ivG, [(11, 3), (12, 0), (13, 0)], none)
theorem k348 : chk p348 tbF 3000 c348 = true := by decide +kernel
theorem t348 {J : Jt} {X : Tok} {et : Nat → Option va_E} (hX : tOk X) (hH : HandT J X et) (hJ : JS DJ J) : ctrT ivG J X et c348 := ctr_ok (tb := tbF) (P := p348) (c := c348) (f := 3000) tbF_ok hX hJ (by decide) rfl rfl k348 (ct1 (t343 hX hH hJ) (ct1 (t344 hX hH hJ) ct0))
/-- MFi_takeFrom -/
noncomputable def c349 : Ctr := (17, [aR 11, aR 77, aT, aT], some [aT], [(11, 3), (12, 0), (13, 0)], 2)
noncomputable def p349 : Pg := ([(17, 9, [some none, some none, some none, some none, some (some ((-2147483648), 2147483647)), some (some (0, 1)), some (some (0, 2147483647)), none, none], [], .inl 6, true)], [], [c343, c344], ivG, [(11, 3), (12, 0), (13, 0)], none)
theorem k349 : chk p349 tbF 3000 c349 = true := by decide +kernel
theorem t349 {J : Jt} {X : Tok} {et : Nat → Option va_E} (hX : tOk X) (hH : HandT J X et) (hJ : JS DJ J) : ctrT ivG J X et c349 := ctr_ok (tb := tbF) (P := p349) (c := c349) (f := 3000) tbF_ok hX hJ (by decide) rfl rfl k349 (ct1 (t343 hX hH hJ) (ct1 (t344 hX hH hJ) ct0))
/-- MFi_takeFrom -/
noncomputable def c350 : Ctr := (17, [aR 11, aR 79, aT, aT], some [aT], [(11, 3), (12, 0), (13, 0)], 2)
noncomputable def p350 : Pg := ([(17, 9, [some none, some none, some none, some none, some (some ((-2147483648), 2147483647)), some (some (0, 1)), some (some (0, 2147483647)), none, none], [], .inl 6, true)], [], [c343, c344], ivG, [(11, 3), (12, 0), (13, 0)], none)
theorem k350 : chk p350 tbF 3000 c350 = true := by decide +kernel
theorem t350 {J : Jt} {X : Tok} {et : Nat → Option va_E} (hX : tOk X) (hH : HandT J X et) (hJ : JS DJ J) : ctrT ivG J X et c350 := ctr_ok (tb := tbF) (P := p350) (c := c350) (f := 3000) tbF_ok hX hJ (by decide) rfl rfl k350 (ct1 (t343 hX hH hJ) (ct1 (t344 hX hH hJ) ct0))
/-- MTo_offBy -/
noncomputable def c351 : Ctr := (142, [aR 0, aT, aT, aT], some [aT], [(6, 1), (6, 2), (6, 3), (6, 4), (6, 5), (6, 6), (6, 7), (6, 8), (6, 9), (6, 10), (6, 11), (6, 12), (6, 13), (6, 14), (6, 15), (6, 16), (6, 17), (49, 6), (49, 7), (49, 8), (49, 9), (49, 10), (49, 11), (53, 0), (54, 6), (54, 7), (54, 8), (54, 9), (54, 10), (54, 11), (58, 0), (59, 6), (59, 7), (59, 8), (59, 9), (59, 10), (59, 11), (63, 0), (64, 6), (64, 7), (64, 8), (64, 9), (64, 10), (64, 11), (68, 0)], 5)
noncomputable def p351 : Pg := ([(142, 45, [some none, some none, some none, some none, some (some ((-2147483648), 2147483647)), some (some (1, 2147483647)), none], [], .inl 5, true), (142, 76, [some none, some none, some none, some none, some none, some none, some (some ((-2147483648), 2147483647))], [(6, 10)], .inl 6, false)], [], [c328, c332, c339], ivG, [(6, 1), (6, 2), (6, 3), (6, 4), (6, 5), (6, 6), (6, 7), (6, 8), (6, 9), (6, 10), (6, 11), (6, 12), (6, 13), (6, 14), (6, 15), (6, 16), (6, 17), (49, 6), (49, 7), (49, 8), (49, 9), (49, 10), (49, 11), (53, 0), (54, 6), (54, 7), (54, 8), (54, 9), (54, 10), (54, 11), (58, 0), (59, 6), (59, 7), (59, 8), (59, 9), (59, 10), (59, 11), (63, 0), (64, 6), (64, 7), (64, 8), (64, 9), (64, 10), (64, 11), (68, 0)], none)
theorem k351 : chk p351 tbF 3000 c351 = true := by decide +kernel
theorem t351 {J : Jt} {X : Tok} {et : Nat → Option va_E} (hX : tOk X) (hH : HandT J X et) (hJ : JS DJ J) : ctrT ivG J X et c351 := ctr_ok (tb := tbF) (P := p351) (c := c351) (f := 3000) tbF_ok hX hJ (by decide) rfl rfl k351 (ct1 (t328 hX hH hJ) (ct1 (t332 hX hH hJ) (ct1 (t339 hX hH hJ) ct0)))
/-- MTo_isGround -/
noncomputable def c352 : Ctr := (137, [aR 0, aT], some [aI 0 1], [], 3)
noncomputable def p352 : Pg := ([], [], [c0, c1], ivG, [], none)
theorem k352 : chk p352 tbF 3000 c352 = true := by decide +kernel
theorem t352 {J : Jt} {X : Tok} {et : Nat → Option va_E} (hX : tOk X) (hH : HandT J X et) (hJ : JS DJ J) : ctrT ivG J X et c352 := ctr_ok (tb := tbF) (P := p352) (c := c352) (f := 3000) tbF_ok hX hJ (by decide) rfl rfl k352 (ct1 (t0 hX hH hJ) (ct1 (t1 hX hH hJ) ct0))
/-- MBo_above -/
noncomputable def c353 : Ctr := (3, [aT], some [aI (-1) 6], [], 0)
noncomputable def p353 : Pg := ([], [], [], ivG, [], none)
theorem k353 : chk p353 tbF 3000 c353 = true := by decide +kernel
theorem t353 {J : Jt} {X : Tok} {et : Nat → Option va_E} (hX : tOk X) (hH : HandT J X et) (hJ : JS DJ J) : ctrT ivG J X et c353 := ctr_ok (tb := tbF) (P := p353) (c := c353) (f := 3000) tbF_ok hX hJ (by decide) rfl rfl k353 ct0
/-- MBo_isUnder -/
noncomputable def c354 : Ctr := (4, [aT, aT], some [aI 0 1], [], 1)
noncomputable def p354 : Pg := ([(4, 4, [some none, some none, some (some ((-2147483648), 2147483647)), some (some (0, 8))], [], .inl 3, true)], [], [c353], ivG, [], none)
theorem k354 : chk p354 tbF 3000 c354 = true := by decide +kernel
theorem t354 {J : Jt} {X : Tok} {et : Nat → Option va_E} (hX : tOk X) (hH : HandT J X et) (hJ : JS DJ J) : ctrT ivG J X et c354 := ctr_ok (tb := tbF) (P := p354) (c := c354) (f := 3000) tbF_ok hX hJ (by decide) rfl rfl k354 (ct1 (t353 hX hH hJ) ct0)
/-- MCh_write -/
noncomputable def c356 : Ctr := (12, [aR 14, aT, aT], none, [(15, 0)], 0)
noncomputable def p356 : Pg := ([], [], [], ivG, [(15, 0)], none)
theorem k356 : chk p356 tbF 3000 c356 = true := by decide +kernel
theorem t356 {J : Jt} {X : Tok} {et : Nat → Option va_E} (hX : tOk X) (hH : HandT J X et) (hJ : JS DJ J) : ctrT ivG J X et c356 := ctr_ok (tb := tbF) (P := p356) (c := c356) (f := 3000) tbF_ok hX hJ (by decide) rfl rfl k356 ct0
/-- MCh_note -/
noncomputable def c357 : Ctr := (11, [aR 14, aT, aT, aT, aT], none, [(14, 2), (14, 3), (15, 0)], 1)
noncomputable def p357 : Pg := ([], [], [c356], ivG, [(14, 2), (14, 3), (15, 0)], none)
theorem k357 : chk p357 tbF 3000 c357 = true := by decide +kernel
theorem t357 {J : Jt} {X : Tok} {et : Nat → Option va_E} (hX : tOk X) (hH : HandT J X et) (hJ : JS DJ J) : ctrT ivG J X et c357 := ctr_ok (tb := tbF) (P := p357) (c := c357) (f := 3000) tbF_ok hX hJ (by decide) rfl rfl k357 (ct1 (t356 hX hH hJ) ct0)
/-- MCh_part -/
noncomputable def c358 : Ctr := (13, [aR 14, aT, aT], some [aT], [], 0)
noncomputable def p358 : Pg := ([], [], [], ivG, [], none)
theorem k358 : chk p358 tbF 3000 c358 = true := by decide +kernel
theorem t358 {J : Jt} {X : Tok} {et : Nat → Option va_E} (hX : tOk X) (hH : HandT J X et) (hJ : JS DJ J) : ctrT ivG J X et c358 := ctr_ok (tb := tbF) (P := p358) (c := c358) (f := 3000) tbF_ok hX hJ (by decide) rfl rfl k358 ct0
/-- MTo_changeTo -/
noncomputable def c359 : Ctr := (143, [aR 0, aT], none, [(19, 6), (19, 7), (19, 8), (19, 9), (19, 10), (19, 11), (20, 0), (23, 0), (24, 6), (24, 7), (24, 8), (24, 9), (24, 10), (24, 11), (25, 0), (28, 0), (29, 6), (29, 7), (29, 8), (29, 9), (29, 10), (29, 11), (30, 0), (33, 0), (34, 6), (34, 7), (34, 8), (34, 9), (34, 10), (34, 11), (35, 0), (38, 0), (39, 6), (39, 7), (39, 8), (39, 9), (39, 10), (39, 11), (40, 0), (43, 0), (44, 6), (44, 7), (44, 8), (44, 9), (44, 10), (44, 11), (45, 0), (48, 0)], 2)
noncomputable def p359 : Pg := ([], [], [c0, c15, c26, c37, c48, c59, c70, c358], ivG, [(19, 6), (19, 7), (19, 8), (19, 9), (19, 10), (19, 11), (20, 0), (23, 0), (24, 6), (24, 7), (24, 8), (24, 9), (24, 10), (24, 11), (25, 0), (28, 0), (29, 6), (29, 7), (29, 8), (29, 9), (29, 10), (29, 11), (30, 0), (33, 0), (34, 6), (34, 7), (34, 8), (34, 9), (34, 10), (34, 11), (35, 0), (38, 0), (39, 6), (39, 7), (39, 8), (39, 9), (39, 10), (39, 11), (40, 0), (43, 0), (44, 6), (44, 7), (44, 8), (44, 9), (44, 10), (44, 11), (45, 0), (48, 0)], none)
theorem k359 : chk p359 tbF 3000 c359 = true := by decide +kernel
theorem t359 {J : Jt} {X : Tok} {et : Nat → Option va_E} (hX : tOk X) (hH : HandT J X et) (hJ : JS DJ J) : ctrT ivG J X et c359 := ctr_ok (tb := tbF) (P := p359) (c := c359) (f := 3000) tbF_ok hX hJ (by decide) rfl rfl k359 (ct1 (t0 hX hH hJ) (ct1 (t15 hX hH hJ) (ct1 (t26 hX hH hJ) (ct1 (t37 hX hH hJ) (ct1 (t48 hX hH hJ) (ct1 (t59 hX hH hJ) (ct1 (t70 hX hH hJ) (ct1 (t358 hX hH hJ) ct0))))))))
/-- MTo_feed -/
noncomputable def c362 : Ctr := (91, [aR 0, aT, aT], some [aT], [(1, 2), (2, 0)], 1)
noncomputable def p362 : Pg := ([(91, 30, [some none, some none, some none, some (some (0, 4))], [(1, 1)], .inl 3, true)], [], [], ivG, [(1, 2), (2, 0)], none)
theorem k362 : chk p362 tbF 3000 c362 = true := by decide +kernel
theorem t362 {J : Jt} {X : Tok} {et : Nat → Option va_E} (hX : tOk X) (hH : HandT J X et) (hJ : JS DJ J) : ctrT ivG J X et c362 := ctr_ok (tb := tbF) (P := p362) (c := c362) (f := 3000) tbF_ok hX hJ (by decide) rfl rfl k362 ct0
/-- MTo_stone -/
noncomputable def c363 : Ctr := (92, [aR 0], some [aT], [(0, 10), (1, 2), (1, 3), (19, 5), (19, 6), (19, 7), (19, 8), (19, 9), (19, 10), (19, 11), (20, 0), (21, 0), (22, 0), (23, 0), (24, 5), (24, 6), (24, 7), (24, 8), (24, 9), (24, 10), (24, 11), (25, 0), (26, 0), (27, 0), (28, 0), (29, 5), (29, 6), (29, 7), (29, 8), (29, 9), (29, 10), (29, 11), (30, 0), (31, 0), (32, 0), (33, 0), (34, 5), (34, 6), (34, 7), (34, 8), (34, 9), (34, 10), (34, 11), (35, 0), (36, 0), (37, 0), (38, 0), (39, 5), (39, 6), (39, 7), (39, 8), (39, 9), (39, 10), (39, 11), (40, 0), (41, 0), (42, 0), (43, 0), (44, 5), (44, 6), (44, 7), (44, 8), (44, 9), (44, 10), (44, 11), (45, 0), (46, 0), (47, 0), (48, 0)], 5)
noncomputable def p363 : Pg := ([], [], [c13, c24, c35, c46, c57, c68], ivG, [(0, 10), (1, 2), (1, 3), (19, 5), (19, 6), (19, 7), (19, 8), (19, 9), (19, 10), (19, 11), (20, 0), (21, 0), (22, 0), (23, 0), (24, 5), (24, 6), (24, 7), (24, 8), (24, 9), (24, 10), (24, 11), (25, 0), (26, 0), (27, 0), (28, 0), (29, 5), (29, 6), (29, 7), (29, 8), (29, 9), (29, 10), (29, 11), (30, 0), (31, 0), (32, 0), (33, 0), (34, 5), (34, 6), (34, 7), (34, 8), (34, 9), (34, 10), (34, 11), (35, 0), (36, 0), (37, 0), (38, 0), (39, 5), (39, 6), (39, 7), (39, 8), (39, 9), (39, 10), (39, 11), (40, 0), (41, 0), (42, 0), (43, 0), (44, 5), (44, 6), (44, 7), (44, 8), (44, 9), (44, 10), (44, 11), (45, 0), (46, 0), (47, 0), (48, 0)], none)
theorem k363 : chk p363 tbF 3000 c363 = true := by decide +kernel
theorem t363 {J : Jt} {X : Tok} {et : Nat → Option va_E} (hX : tOk X) (hH : HandT J X et) (hJ : JS DJ J) : ctrT ivG J X et c363 := ctr_ok (tb := tbF) (P := p363) (c := c363) (f := 3000) tbF_ok hX hJ (by decide) rfl rfl k363 (ct1 (t13 hX hH hJ) (ct1 (t24 hX hH hJ) (ct1 (t35 hX hH hJ) (ct1 (t46 hX hH hJ) (ct1 (t57 hX hH hJ) (ct1 (t68 hX hH hJ) ct0))))))
/-- MTo_of -/
noncomputable def c364 : Ctr := (93, [aR 0, aT, aT], some [aT], [], 4)
noncomputable def p364 : Pg := ([], [], [c0, c14, c25, c36, c47, c58, c69], ivG, [], none)
theorem k364 : chk p364 tbF 3000 c364 = true := by decide +kernel
theorem t364 {J : Jt} {X : Tok} {et : Nat → Option va_E} (hX : tOk X) (hH : HandT J X et) (hJ : JS DJ J) : ctrT ivG J X et c364 := ctr_ok (tb := tbF) (P := p364) (c := c364) (f := 3000) tbF_ok hX hJ (by decide) rfl rfl k364 (ct1 (t0 hX hH hJ) (ct1 (t14 hX hH hJ) (ct1 (t25 hX hH hJ) (ct1 (t36 hX hH hJ) (ct1 (t47 hX hH hJ) (ct1 (t58 hX hH hJ) (ct1 (t69 hX hH hJ) ct0)))))))
/-- MTo_lump -/
noncomputable def c365 : Ctr := (94, [aR 0, aT, aT, aT], some [aT], [], 2)
noncomputable def p365 : Pg := ([], [], [c0], ivG, [], none)
theorem k365 : chk p365 tbF 3000 c365 = true := by decide +kernel
theorem t365 {J : Jt} {X : Tok} {et : Nat → Option va_E} (hX : tOk X) (hH : HandT J X et) (hJ : JS DJ J) : ctrT ivG J X et c365 := ctr_ok (tb := tbF) (P := p365) (c := c365) (f := 3000) tbF_ok hX hJ (by decide) rfl rfl k365 (ct1 (t0 hX hH hJ) ct0)
/-- MTo_set -/
noncomputable def c366 : Ctr := (95, [aR 0, aT, aT, aT], some [aT], [(14, 2), (14, 3), (15, 0), (19, 6), (19, 7), (19, 8), (19, 9), (19, 10), (19, 11), (20, 0), (23, 0), (24, 6), (24, 7), (24, 8), (24, 9), (24, 10), (24, 11), (25, 0), (28, 0), (29, 6), (29, 7), (29, 8), (29, 9), (29, 10), (29, 11), (30, 0), (33, 0), (34, 6), (34, 7), (34, 8), (34, 9), (34, 10), (34, 11), (35, 0), (38, 0), (39, 6), (39, 7), (39, 8), (39, 9), (39, 10), (39, 11), (40, 0), (43, 0), (44, 6), (44, 7), (44, 8), (44, 9), (44, 10), (44, 11), (45, 0), (48, 0)], 2)
noncomputable def p366 : Pg := ([], [], [c0, c15, c17, c26, c28, c37, c39, c48, c50, c59, c61, c70, c72, c357], ivG, [(14, 2), (14, 3), (15, 0), (19, 6), (19, 7), (19, 8), (19, 9), (19, 10), (19, 11), (20, 0), (23, 0), (24, 6), (24, 7), (24, 8), (24, 9), (24, 10), (24, 11), (25, 0), (28, 0), (29, 6), (29, 7), (29, 8), (29, 9), (29, 10), (29, 11), (30, 0), (33, 0), (34, 6), (34, 7), (34, 8), (34, 9), (34, 10), (34, 11), (35, 0), (38, 0), (39, 6), (39, 7), (39, 8), (39, 9), (39, 10), (39, 11), (40, 0), (43, 0), (44, 6), (44, 7), (44, 8), (44, 9), (44, 10), (44, 11), (45, 0), (48, 0)], none)
theorem k366 : chk p366 tbF 3000 c366 = true := by decide +kernel
theorem t366 {J : Jt} {X : Tok} {et : Nat → Option va_E} (hX : tOk X) (hH : HandT J X et) (hJ : JS DJ J) : ctrT ivG J X et c366 := ctr_ok (tb := tbF) (P := p366) (c := c366) (f := 3000) tbF_ok hX hJ (by decide) rfl rfl k366 (ct1 (t0 hX hH hJ) (ct1 (t15 hX hH hJ) (ct1 (t17 hX hH hJ) (ct1 (t26 hX hH hJ) (ct1 (t28 hX hH hJ) (ct1 (t37 hX hH hJ) (ct1 (t39 hX hH hJ) (ct1 (t48 hX hH hJ) (ct1 (t50 hX hH hJ) (ct1 (t59 hX hH hJ) (ct1 (t61 hX hH hJ) (ct1 (t70 hX hH hJ) (ct1 (t72 hX hH hJ) (ct1 (t357 hX hH hJ) ct0))))))))))))))
/-- MTo_floor -/
noncomputable def c367 : Ctr := (96, [aR 0], some [aT], [(0, 11), (1, 2), (1, 3), (49, 5), (50, 0), (51, 0), (52, 0), (53, 0), (54, 5), (55, 0), (56, 0), (57, 0), (58, 0), (59, 5), (60, 0), (61, 0), (62, 0), (63, 0), (64, 5), (65, 0), (66, 0), (67, 0), (68, 0)], 60)
noncomputable def p367 : Pg := ([], [], [c125, c181, c237, c293], ivG, [(0, 11), (1, 2), (1, 3), (49, 5), (50, 0), (51, 0), (52, 0), (53, 0), (54, 5), (55, 0), (56, 0), (57, 0), (58, 0), (59, 5), (60, 0), (61, 0), (62, 0), (63, 0), (64, 5), (65, 0), (66, 0), (67, 0), (68, 0)], none)
theorem k367 : chk p367 tbF 3000 c367 = true := by decide +kernel
theorem t367 {J : Jt} {X : Tok} {et : Nat → Option va_E} (hX : tOk X) (hH : HandT J X et) (hJ : JS DJ J) : ctrT ivG J X et c367 := ctr_ok (tb := tbF) (P := p367) (c := c367) (f := 3000) tbF_ok hX hJ (by decide) rfl rfl k367 (ct1 (t125 hX hH hJ) (ct1 (t181 hX hH hJ) (ct1 (t237 hX hH hJ) (ct1 (t293 hX hH hJ) ct0))))
/-- MTo_grows -/
noncomputable def c368 : Ctr := (97, [aR 0, aT, aT], some [aI (-1) 2], [], 3)
noncomputable def p368 : Pg := ([], [], [c0, c8, c19, c30, c41, c52, c63], ivG, [], none)
theorem k368 : chk p368 tbF 3000 c368 = true := by decide +kernel
theorem t368 {J : Jt} {X : Tok} {et : Nat → Option va_E} (hX : tOk X) (hH : HandT J X et) (hJ : JS DJ J) : ctrT ivG J X et c368 := ctr_ok (tb := tbF) (P := p368) (c := c368) (f := 3000) tbF_ok hX hJ (by decide) rfl rfl k368 (ct1 (t0 hX hH hJ) (ct1 (t8 hX hH hJ) (ct1 (t19 hX hH hJ) (ct1 (t30 hX hH hJ) (ct1 (t41 hX hH hJ) (ct1 (t52 hX hH hJ) (ct1 (t63 hX hH hJ) ct0)))))))
/-- MTo_roll -/
noncomputable def c369 : Ctr := (98, [aR 0, aT, aT, aT, aT], some [aT], [(6, 1), (6, 2), (6, 3), (6, 4), (6, 5), (6, 6), (6, 7), (6, 8), (6, 9), (6, 10), (6, 11), (6, 12), (6, 13), (6, 14), (6, 15), (6, 16), (6, 17), (7, 4), (7, 5), (7, 6), (7, 7), (7, 8), (7, 9), (8, 0), (9, 0), (10, 0), (49, 6), (49, 7), (49, 8), (49, 9), (49, 10), (49, 11), (53, 0), (54, 6), (54, 7), (54, 8), (54, 9), (54, 10), (54, 11), (58, 0), (59, 6), (59, 7), (59, 8), (59, 9), (59, 10), (59, 11), (63, 0), (64, 6), (64, 7), (64, 8), (64, 9), (64, 10), (64, 11), (68, 0)], 6)
noncomputable def p369 : Pg := ([], [], [c335, c340, c341, c352], ivG, [(6, 1), (6, 2), (6, 3), (6, 4), (6, 5), (6, 6), (6, 7), (6, 8), (6, 9), (6, 10), (6, 11), (6, 12), (6, 13), (6, 14), (6, 15), (6, 16), (6, 17), (7, 4), (7, 5), (7, 6), (7, 7), (7, 8), (7, 9), (8, 0), (9, 0), (10, 0), (49, 6), (49, 7), (49, 8), (49, 9), (49, 10), (49, 11), (53, 0), (54, 6), (54, 7), (54, 8), (54, 9), (54, 10), (54, 11), (58, 0), (59, 6), (59, 7), (59, 8), (59, 9), (59, 10), (59, 11), (63, 0), (64, 6), (64, 7), (64, 8), (64, 9), (64, 10), (64, 11), (68, 0)], none)
theorem k369 : chk p369 tbF 3000 c369 = true := by decide +kernel
theorem t369 {J : Jt} {X : Tok} {et : Nat → Option va_E} (hX : tOk X) (hH : HandT J X et) (hJ : JS DJ J) : ctrT ivG J X et c369 := ctr_ok (tb := tbF) (P := p369) (c := c369) (f := 3000) tbF_ok hX hJ (by decide) rfl rfl k369 (ct1 (t335 hX hH hJ) (ct1 (t340 hX hH hJ) (ct1 (t341 hX hH hJ) (ct1 (t352 hX hH hJ) ct0))))
/-- MTo_going -/
noncomputable def c370 : Ctr := (99, [aR 0, aT, aT], some [aT], [], 1)
noncomputable def p370 : Pg := ([], [], [c336], ivG, [], none)
theorem k370 : chk p370 tbF 3000 c370 = true := by decide +kernel
theorem t370 {J : Jt} {X : Tok} {et : Nat → Option va_E} (hX : tOk X) (hH : HandT J X et) (hJ : JS DJ J) : ctrT ivG J X et c370 := ctr_ok (tb := tbF) (P := p370) (c := c370) (f := 3000) tbF_ok hX hJ (by decide) rfl rfl k370 (ct1 (t336 hX hH hJ) ct0)
/-- MTo_back -/
noncomputable def c371 : Ctr := (100, [aR 0, aT], some [aT], [], 2)
noncomputable def p371 : Pg := ([], [], [c337], ivG, [], none)
theorem k371 : chk p371 tbF 3000 c371 = true := by decide +kernel
theorem t371 {J : Jt} {X : Tok} {et : Nat → Option va_E} (hX : tOk X) (hH : HandT J X et) (hJ : JS DJ J) : ctrT ivG J X et c371 := ctr_ok (tb := tbF) (P := p371) (c := c371) (f := 3000) tbF_ok hX hJ (by decide) rfl rfl k371 (ct1 (t337 hX hH hJ) ct0)
/-- MTo_told -/
noncomputable def c372 : Ctr := (101, [aR 0, aT], some [aT], [], 2)
noncomputable def p372 : Pg := ([], [], [c338], ivG, [], none)
theorem k372 : chk p372 tbF 3000 c372 = true := by decide +kernel
theorem t372 {J : Jt} {X : Tok} {et : Nat → Option va_E} (hX : tOk X) (hH : HandT J X et) (hJ : JS DJ J) : ctrT ivG J X et c372 := ctr_ok (tb := tbF) (P := p372) (c := c372) (f := 3000) tbF_ok hX hJ (by decide) rfl rfl k372 (ct1 (t338 hX hH hJ) ct0)
/-- MTo_even -/
noncomputable def c373 : Ctr := (102, [aR 0, aT, aT, aT, aT], some [aT], [(6, 1), (6, 2), (6, 3), (6, 4), (6, 5), (6, 6), (6, 7), (6, 8), (6, 9), (6, 10), (6, 11), (6, 12), (6, 13), (6, 14), (6, 15), (6, 16), (6, 17), (49, 6), (49, 7), (49, 8), (49, 9), (49, 10), (49, 11), (53, 0), (54, 6), (54, 7), (54, 8), (54, 9), (54, 10), (54, 11), (58, 0), (59, 6), (59, 7), (59, 8), (59, 9), (59, 10), (59, 11), (63, 0), (64, 6), (64, 7), (64, 8), (64, 9), (64, 10), (64, 11), (68, 0)], 6)
noncomputable def p373 : Pg := ([], [], [c0, c8, c19, c30, c41, c52, c63, c298, c303, c308, c313, c318, c323, c333, c341], ivG, [(6, 1), (6, 2), (6, 3), (6, 4), (6, 5), (6, 6), (6, 7), (6, 8), (6, 9), (6, 10), (6, 11), (6, 12), (6, 13), (6, 14), (6, 15), (6, 16), (6, 17), (49, 6), (49, 7), (49, 8), (49, 9), (49, 10), (49, 11), (53, 0), (54, 6), (54, 7), (54, 8), (54, 9), (54, 10), (54, 11), (58, 0), (59, 6), (59, 7), (59, 8), (59, 9), (59, 10), (59, 11), (63, 0), (64, 6), (64, 7), (64, 8), (64, 9), (64, 10), (64, 11), (68, 0)], none)
theorem k373 : chk p373 tbF 3000 c373 = true := by decide +kernel
theorem t373 {J : Jt} {X : Tok} {et : Nat → Option va_E} (hX : tOk X) (hH : HandT J X et) (hJ : JS DJ J) : ctrT ivG J X et c373 := ctr_ok (tb := tbF) (P := p373) (c := c373) (f := 3000) tbF_ok hX hJ (by decide) rfl rfl k373 (ct1 (t0 hX hH hJ) (ct1 (t8 hX hH hJ) (ct1 (t19 hX hH hJ) (ct1 (t30 hX hH hJ) (ct1 (t41 hX hH hJ) (ct1 (t52 hX hH hJ) (ct1 (t63 hX hH hJ) (ct1 (t298 hX hH hJ) (ct1 (t303 hX hH hJ) (ct1 (t308 hX hH hJ) (ct1 (t313 hX hH hJ) (ct1 (t318 hX hH hJ) (ct1 (t323 hX hH hJ) (ct1 (t333 hX hH hJ) (ct1 (t341 hX hH hJ) ct0)))))))))))))))
/-- MTo_soonest -/
noncomputable def c374 : Ctr := (103, [aR 0, aT, aT, aT, aT], some [aI (-2) 2147483647], [(6, 1), (6, 2), (6, 3), (6, 4), (6, 5), (6, 6), (6, 7), (6, 8), (6, 9), (6, 10), (6, 11), (6, 12), (6, 13), (6, 14), (6, 15), (6, 16), (6, 17), (49, 6), (49, 7), (49, 8), (49, 9), (49, 10), (49, 11), (53, 0), (54, 6), (54, 7), (54, 8), (54, 9), (54, 10), (54, 11), (58, 0), (59, 6), (59, 7), (59, 8), (59, 9), (59, 10), (59, 11), (63, 0), (64, 6), (64, 7), (64, 8), (64, 9), (64, 10), (64, 11), (68, 0)], 6)
noncomputable def p374 : Pg := ([(103, 39, [some none, some none, some none, some none, some none, some (some ((-2), 5)), some (some ((-2), 2147483647)), some (some (0, 6)), none], [], .inl 7, true)], [], [c1, c340, c342], ivG, [(6, 1), (6, 2), (6, 3), (6, 4), (6, 5), (6, 6), (6, 7), (6, 8), (6, 9), (6, 10), (6, 11), (6, 12), (6, 13), (6, 14), (6, 15), (6, 16), (6, 17), (49, 6), (49, 7), (49, 8), (49, 9), (49, 10), (49, 11), (53, 0), (54, 6), (54, 7), (54, 8), (54, 9), (54, 10), (54, 11), (58, 0), (59, 6), (59, 7), (59, 8), (59, 9), (59, 10), (59, 11), (63, 0), (64, 6), (64, 7), (64, 8), (64, 9), (64, 10), (64, 11), (68, 0)], none)
theorem k374 : chk p374 tbF 3000 c374 = true := by decide +kernel
theorem t374 {J : Jt} {X : Tok} {et : Nat → Option va_E} (hX : tOk X) (hH : HandT J X et) (hJ : JS DJ J) : ctrT ivG J X et c374 := ctr_ok (tb := tbF) (P := p374) (c := c374) (f := 3000) tbF_ok hX hJ (by decide) rfl rfl k374 (ct1 (t1 hX hH hJ) (ct1 (t340 hX hH hJ) (ct1 (t342 hX hH hJ) ct0)))
/-- MTo_screws -/
noncomputable def c375 : Ctr := (104, [aR 0, aT, aT, aT], some [aI (-2) 1818], [], 3)
noncomputable def p375 : Pg := ([], [], [c0, c10, c21, c32, c43, c54, c65], ivG, [], none)
theorem k375 : chk p375 tbF 3000 c375 = true := by decide +kernel
theorem t375 {J : Jt} {X : Tok} {et : Nat → Option va_E} (hX : tOk X) (hH : HandT J X et) (hJ : JS DJ J) : ctrT ivG J X et c375 := ctr_ok (tb := tbF) (P := p375) (c := c375) (f := 3000) tbF_ok hX hJ (by decide) rfl rfl k375 (ct1 (t0 hX hH hJ) (ct1 (t10 hX hH hJ) (ct1 (t21 hX hH hJ) (ct1 (t32 hX hH hJ) (ct1 (t43 hX hH hJ) (ct1 (t54 hX hH hJ) (ct1 (t65 hX hH hJ) ct0)))))))
/-- MTo_lightest -/
noncomputable def c376 : Ctr := (105, [aR 0, aT, aT], some [aI (-2) 9], [], 3)
noncomputable def p376 : Pg := ([(105, 22, [some none, some none, some none, some none, some (some (1, 10))], [], .inl 4, true)], [], [c0, c10, c21, c32, c43, c54, c65], ivG, [], none)
theorem k376 : chk p376 tbF 3000 c376 = true := by decide +kernel
theorem t376 {J : Jt} {X : Tok} {et : Nat → Option va_E} (hX : tOk X) (hH : HandT J X et) (hJ : JS DJ J) : ctrT ivG J X et c376 := ctr_ok (tb := tbF) (P := p376) (c := c376) (f := 3000) tbF_ok hX hJ (by decide) rfl rfl k376 (ct1 (t0 hX hH hJ) (ct1 (t10 hX hH hJ) (ct1 (t21 hX hH hJ) (ct1 (t32 hX hH hJ) (ct1 (t43 hX hH hJ) (ct1 (t54 hX hH hJ) (ct1 (t65 hX hH hJ) ct0)))))))
/-- MTo_seen -/
noncomputable def c377 : Ctr := (106, [aR 0, aT, aT, aT], some [aI (-2) 9], [(6, 1), (6, 2), (6, 3), (6, 4), (6, 5), (6, 6), (6, 7), (6, 8), (6, 9), (6, 10), (6, 11), (6, 12), (6, 13), (6, 14), (6, 15), (6, 16), (6, 17), (49, 6), (49, 7), (49, 8), (49, 9), (49, 10), (49, 11), (53, 0), (54, 6), (54, 7), (54, 8), (54, 9), (54, 10), (54, 11), (58, 0), (59, 6), (59, 7), (59, 8), (59, 9), (59, 10), (59, 11), (63, 0), (64, 6), (64, 7), (64, 8), (64, 9), (64, 10), (64, 11), (68, 0)], 6)
noncomputable def p377 : Pg := ([(106, 21, [some none, some none, some none, some none, some (some (1, 10))], [], .inl 4, true)], [], [c339, c342, c352], ivG, [(6, 1), (6, 2), (6, 3), (6, 4), (6, 5), (6, 6), (6, 7), (6, 8), (6, 9), (6, 10), (6, 11), (6, 12), (6, 13), (6, 14), (6, 15), (6, 16), (6, 17), (49, 6), (49, 7), (49, 8), (49, 9), (49, 10), (49, 11), (53, 0), (54, 6), (54, 7), (54, 8), (54, 9), (54, 10), (54, 11), (58, 0), (59, 6), (59, 7), (59, 8), (59, 9), (59, 10), (59, 11), (63, 0), (64, 6), (64, 7), (64, 8), (64, 9), (64, 10), (64, 11), (68, 0)], none)
theorem k377 : chk p377 tbF 3000 c377 = true := by decide +kernel
theorem t377 {J : Jt} {X : Tok} {et : Nat → Option va_E} (hX : tOk X) (hH : HandT J X et) (hJ : JS DJ J) : ctrT ivG J X et c377 := ctr_ok (tb := tbF) (P := p377) (c := c377) (f := 3000) tbF_ok hX hJ (by decide) rfl rfl k377 (ct1 (t339 hX hH hJ) (ct1 (t342 hX hH hJ) (ct1 (t352 hX hH hJ) ct0)))
/-- MTo_pressed -/
noncomputable def c378 : Ctr := (107, [aR 0, aT, aT], some [aT], [(6, 1), (6, 2), (6, 3), (6, 4), (6, 5), (6, 6), (6, 7), (6, 8), (6, 9), (6, 10), (6, 11), (6, 12), (6, 13), (6, 14), (6, 15), (6, 16), (6, 17), (49, 6), (49, 7), (49, 8), (49, 9), (49, 10), (49, 11), (53, 0), (54, 6), (54, 7), (54, 8), (54, 9), (54, 10), (54, 11), (58, 0), (59, 6), (59, 7), (59, 8), (59, 9), (59, 10), (59, 11), (63, 0), (64, 6), (64, 7), (64, 8), (64, 9), (64, 10), (64, 11), (68, 0)], 6)
noncomputable def p378 : Pg := ([], [], [c333, c340, c341, c352], ivG, [(6, 1), (6, 2), (6, 3), (6, 4), (6, 5), (6, 6), (6, 7), (6, 8), (6, 9), (6, 10), (6, 11), (6, 12), (6, 13), (6, 14), (6, 15), (6, 16), (6, 17), (49, 6), (49, 7), (49, 8), (49, 9), (49, 10), (49, 11), (53, 0), (54, 6), (54, 7), (54, 8), (54, 9), (54, 10), (54, 11), (58, 0), (59, 6), (59, 7), (59, 8), (59, 9), (59, 10), (59, 11), (63, 0), (64, 6), (64, 7), (64, 8), (64, 9), (64, 10), (64, 11), (68, 0)], none)
theorem k378 : chk p378 tbF 3000 c378 = true := by decide +kernel
theorem t378 {J : Jt} {X : Tok} {et : Nat → Option va_E} (hX : tOk X) (hH : HandT J X et) (hJ : JS DJ J) : ctrT ivG J X et c378 := ctr_ok (tb := tbF) (P := p378) (c := c378) (f := 3000) tbF_ok hX hJ (by decide) rfl rfl k378 (ct1 (t333 hX hH hJ) (ct1 (t340 hX hH hJ) (ct1 (t341 hX hH hJ) (ct1 (t352 hX hH hJ) ct0))))
/-- MTo_hands -/
noncomputable def c379 : Ctr := (108, [aR 0, aT, aT, aT], some [aT], [(6, 1), (6, 2), (6, 3), (6, 4), (6, 5), (6, 6), (6, 7), (6, 8), (6, 9), (6, 10), (6, 11), (6, 12), (6, 13), (6, 14), (6, 15), (6, 16), (6, 17), (49, 6), (49, 7), (49, 8), (49, 9), (49, 10), (49, 11), (53, 0), (54, 6), (54, 7), (54, 8), (54, 9), (54, 10), (54, 11), (58, 0), (59, 6), (59, 7), (59, 8), (59, 9), (59, 10), (59, 11), (63, 0), (64, 6), (64, 7), (64, 8), (64, 9), (64, 10), (64, 11), (68, 0)], 6)
noncomputable def p379 : Pg := ([(108, 34, [some none, some none, some none, some none, some (some ((-2147483648), 2147483647)), some (some ((-2147483648), 2147483647)), some (some (0, 20)), none, none, none], [], .inl 6, true)], [], [c340, c342, c352], ivG, [(6, 1), (6, 2), (6, 3), (6, 4), (6, 5), (6, 6), (6, 7), (6, 8), (6, 9), (6, 10), (6, 11), (6, 12), (6, 13), (6, 14), (6, 15), (6, 16), (6, 17), (49, 6), (49, 7), (49, 8), (49, 9), (49, 10), (49, 11), (53, 0), (54, 6), (54, 7), (54, 8), (54, 9), (54, 10), (54, 11), (58, 0), (59, 6), (59, 7), (59, 8), (59, 9), (59, 10), (59, 11), (63, 0), (64, 6), (64, 7), (64, 8), (64, 9), (64, 10), (64, 11), (68, 0)], none)
theorem k379 : chk p379 tbF 3000 c379 = true := by decide +kernel
theorem t379 {J : Jt} {X : Tok} {et : Nat → Option va_E} (hX : tOk X) (hH : HandT J X et) (hJ : JS DJ J) : ctrT ivG J X et c379 := ctr_ok (tb := tbF) (P := p379) (c := c379) (f := 3000) tbF_ok hX hJ (by decide) rfl rfl k379 (ct1 (t340 hX hH hJ) (ct1 (t342 hX hH hJ) (ct1 (t352 hX hH hJ) ct0)))
/-- MTo_frame -/
noncomputable def c380 : Ctr := (109, [aR 0, aT, aT], some [aT], [(11, 3), (12, 0), (13, 0)], 2)
noncomputable def p380 : Pg := ([], [], [c343, c344], ivG, [(11, 3), (12, 0), (13, 0)], none)
theorem k380 : chk p380 tbF 3000 c380 = true := by decide +kernel
theorem t380 {J : Jt} {X : Tok} {et : Nat → Option va_E} (hX : tOk X) (hH : HandT J X et) (hJ : JS DJ J) : ctrT ivG J X et c380 := ctr_ok (tb := tbF) (P := p380) (c := c380) (f := 3000) tbF_ok hX hJ (by decide) rfl rfl k380 (ct1 (t343 hX hH hJ) (ct1 (t344 hX hH hJ) ct0))
/-- MTo_frames -/
noncomputable def c381 : Ctr := (110, [aR 0, aT, aT, aT], some [aT], [(11, 3), (12, 0), (13, 0)], 3)
noncomputable def p381 : Pg := ([], [], [c2, c345, c346, c347, c348, c349, c350], ivG, [(11, 3), (12, 0), (13, 0)], none)
theorem k381 : chk p381 tbF 3000 c381 = true := by decide +kernel
theorem t381 {J : Jt} {X : Tok} {et : Nat → Option va_E} (hX : tOk X) (hH : HandT J X et) (hJ : JS DJ J) : ctrT ivG J X et c381 := ctr_ok (tb := tbF) (P := p381) (c := c381) (f := 3000) tbF_ok hX hJ (by decide) rfl rfl k381 (ct1 (t2 hX hH hJ) (ct1 (t345 hX hH hJ) (ct1 (t346 hX hH hJ) (ct1 (t347 hX hH hJ) (ct1 (t348 hX hH hJ) (ct1 (t349 hX hH hJ) (ct1 (t350 hX hH hJ) ct0)))))))
/-- MTo_cut -/
noncomputable def c382 : Ctr := (111, [aR 0], some [aT], [(11, 3)], 0)
noncomputable def p382 : Pg := ([], [], [], ivG, [(11, 3)], none)
theorem k382 : chk p382 tbF 3000 c382 = true := by decide +kernel
theorem t382 {J : Jt} {X : Tok} {et : Nat → Option va_E} (hX : tOk X) (hH : HandT J X et) (hJ : JS DJ J) : ctrT ivG J X et c382 := ctr_ok (tb := tbF) (P := p382) (c := c382) (f := 3000) tbF_ok hX hJ (by decide) rfl rfl k382 ct0
/-- MTo_off -/
noncomputable def c383 : Ctr := (112, [aR 0, aT, aT, aT], some [aT], [(6, 1), (6, 2), (6, 3), (6, 4), (6, 5), (6, 6), (6, 7), (6, 8), (6, 9), (6, 10), (6, 11), (6, 12), (6, 13), (6, 14), (6, 15), (6, 16), (6, 17), (49, 6), (49, 7), (49, 8), (49, 9), (49, 10), (49, 11), (53, 0), (54, 6), (54, 7), (54, 8), (54, 9), (54, 10), (54, 11), (58, 0), (59, 6), (59, 7), (59, 8), (59, 9), (59, 10), (59, 11), (63, 0), (64, 6), (64, 7), (64, 8), (64, 9), (64, 10), (64, 11), (68, 0)], 6)
noncomputable def p383 : Pg := ([], [], [c351, c352], ivG, [(6, 1), (6, 2), (6, 3), (6, 4), (6, 5), (6, 6), (6, 7), (6, 8), (6, 9), (6, 10), (6, 11), (6, 12), (6, 13), (6, 14), (6, 15), (6, 16), (6, 17), (49, 6), (49, 7), (49, 8), (49, 9), (49, 10), (49, 11), (53, 0), (54, 6), (54, 7), (54, 8), (54, 9), (54, 10), (54, 11), (58, 0), (59, 6), (59, 7), (59, 8), (59, 9), (59, 10), (59, 11), (63, 0), (64, 6), (64, 7), (64, 8), (64, 9), (64, 10), (64, 11), (68, 0)], none)
theorem k383 : chk p383 tbF 3000 c383 = true := by decide +kernel
theorem t383 {J : Jt} {X : Tok} {et : Nat → Option va_E} (hX : tOk X) (hH : HandT J X et) (hJ : JS DJ J) : ctrT ivG J X et c383 := ctr_ok (tb := tbF) (P := p383) (c := c383) (f := 3000) tbF_ok hX hJ (by decide) rfl rfl k383 (ct1 (t351 hX hH hJ) (ct1 (t352 hX hH hJ) ct0))
/-- MTo_shape -/
noncomputable def c384 : Ctr := (113, [aR 0, aT, aT, aT], some [aT], [(6, 1), (6, 2), (6, 3), (6, 4), (6, 5), (6, 6), (6, 7), (6, 8), (6, 9), (6, 10), (6, 11), (6, 12), (6, 13), (6, 14), (6, 15), (6, 16), (6, 17), (49, 6), (49, 7), (49, 8), (49, 9), (49, 10), (49, 11), (53, 0), (54, 6), (54, 7), (54, 8), (54, 9), (54, 10), (54, 11), (58, 0), (59, 6), (59, 7), (59, 8), (59, 9), (59, 10), (59, 11), (63, 0), (64, 6), (64, 7), (64, 8), (64, 9), (64, 10), (64, 11), (68, 0)], 6)
noncomputable def p384 : Pg := ([(113, 61, [some none, some none, some none, some none, some (some ((-9), 9)), some (some ((-2147483648), 2147483647)), some (some ((-8), 10)), none], [], .inl 6, true)], [], [c351, c352], ivG, [(6, 1), (6, 2), (6, 3), (6, 4), (6, 5), (6, 6), (6, 7), (6, 8), (6, 9), (6, 10), (6, 11), (6, 12), (6, 13), (6, 14), (6, 15), (6, 16), (6, 17), (49, 6), (49, 7), (49, 8), (49, 9), (49, 10), (49, 11), (53, 0), (54, 6), (54, 7), (54, 8), (54, 9), (54, 10), (54, 11), (58, 0), (59, 6), (59, 7), (59, 8), (59, 9), (59, 10), (59, 11), (63, 0), (64, 6), (64, 7), (64, 8), (64, 9), (64, 10), (64, 11), (68, 0)], none)
theorem k384 : chk p384 tbF 3000 c384 = true := by decide +kernel
theorem t384 {J : Jt} {X : Tok} {et : Nat → Option va_E} (hX : tOk X) (hH : HandT J X et) (hJ : JS DJ J) : ctrT ivG J X et c384 := ctr_ok (tb := tbF) (P := p384) (c := c384) (f := 3000) tbF_ok hX hJ (by decide) rfl rfl k384 (ct1 (t351 hX hH hJ) (ct1 (t352 hX hH hJ) ct0))
/-- MTo_span -/
noncomputable def c385 : Ctr := (114, [aR 0, aT, aT, aT], some [aT], [(6, 1), (6, 2), (6, 3), (6, 4), (6, 5), (6, 6), (6, 7), (6, 8), (6, 9), (6, 10), (6, 11), (6, 12), (6, 13), (6, 14), (6, 15), (6, 16), (6, 17), (49, 6), (49, 7), (49, 8), (49, 9), (49, 10), (49, 11), (53, 0), (54, 6), (54, 7), (54, 8), (54, 9), (54, 10), (54, 11), (58, 0), (59, 6), (59, 7), (59, 8), (59, 9), (59, 10), (59, 11), (63, 0), (64, 6), (64, 7), (64, 8), (64, 9), (64, 10), (64, 11), (68, 0)], 6)
noncomputable def p385 : Pg := ([(114, 42, [some none, some none, some none, some none, some (some ((-2147483648), 2147483647)), some (some ((-9), 10))], [], .inl 5, true)], [], [c351, c352], ivG, [(6, 1), (6, 2), (6, 3), (6, 4), (6, 5), (6, 6), (6, 7), (6, 8), (6, 9), (6, 10), (6, 11), (6, 12), (6, 13), (6, 14), (6, 15), (6, 16), (6, 17), (49, 6), (49, 7), (49, 8), (49, 9), (49, 10), (49, 11), (53, 0), (54, 6), (54, 7), (54, 8), (54, 9), (54, 10), (54, 11), (58, 0), (59, 6), (59, 7), (59, 8), (59, 9), (59, 10), (59, 11), (63, 0), (64, 6), (64, 7), (64, 8), (64, 9), (64, 10), (64, 11), (68, 0)], none)
theorem k385 : chk p385 tbF 3000 c385 = true := by decide +kernel
theorem t385 {J : Jt} {X : Tok} {et : Nat → Option va_E} (hX : tOk X) (hH : HandT J X et) (hJ : JS DJ J) : ctrT ivG J X et c385 := ctr_ok (tb := tbF) (P := p385) (c := c385) (f := 3000) tbF_ok hX hJ (by decide) rfl rfl k385 (ct1 (t351 hX hH hJ) (ct1 (t352 hX hH hJ) ct0))
/-- MTo_which -/
noncomputable def c386 : Ctr := (115, [aR 0, aT, aT], some [aI (-5) 3], [(6, 1), (6, 2), (6, 3), (6, 4), (6, 5), (6, 6), (6, 7), (6, 8), (6, 9), (6, 10), (6, 11), (6, 12), (6, 13), (6, 14), (6, 15), (6, 16), (6, 17), (49, 6), (49, 7), (49, 8), (49, 9), (49, 10), (49, 11), (53, 0), (54, 6), (54, 7), (54, 8), (54, 9), (54, 10), (54, 11), (58, 0), (59, 6), (59, 7), (59, 8), (59, 9), (59, 10), (59, 11), (63, 0), (64, 6), (64, 7), (64, 8), (64, 9), (64, 10), (64, 11), (68, 0)], 6)
noncomputable def p386 : Pg := ([(115, 65, [some none, some none, some none, some none, some none, some (some (0, 3)), some (some ((-2147483648), 2147483647)), some (some (1, 4)), none], [], .inl 7, true)], [], [c0, c8, c19, c30, c41, c52, c63, c351], ivG, [(6, 1), (6, 2), (6, 3), (6, 4), (6, 5), (6, 6), (6, 7), (6, 8), (6, 9), (6, 10), (6, 11), (6, 12), (6, 13), (6, 14), (6, 15), (6, 16), (6, 17), (49, 6), (49, 7), (49, 8), (49, 9), (49, 10), (49, 11), (53, 0), (54, 6), (54, 7), (54, 8), (54, 9), (54, 10), (54, 11), (58, 0), (59, 6), (59, 7), (59, 8), (59, 9), (59, 10), (59, 11), (63, 0), (64, 6), (64, 7), (64, 8), (64, 9), (64, 10), (64, 11), (68, 0)], none)
theorem k386 : chk p386 tbF 3000 c386 = true := by decide +kernel
theorem t386 {J : Jt} {X : Tok} {et : Nat → Option va_E} (hX : tOk X) (hH : HandT J X et) (hJ : JS DJ J) : ctrT ivG J X et c386 := ctr_ok (tb := tbF) (P := p386) (c := c386) (f := 3000) tbF_ok hX hJ (by decide) rfl rfl k386 (ct1 (t0 hX hH hJ) (ct1 (t8 hX hH hJ) (ct1 (t19 hX hH hJ) (ct1 (t30 hX hH hJ) (ct1 (t41 hX hH hJ) (ct1 (t52 hX hH hJ) (ct1 (t63 hX hH hJ) (ct1 (t351 hX hH hJ) ct0))))))))
/-- MTo_undo -/
noncomputable def c387 : Ctr := (117, [aR 0], some [aT], [(14, 2), (19, 6), (19, 7), (19, 8), (19, 9), (19, 10), (19, 11), (20, 0), (23, 0), (24, 6), (24, 7), (24, 8), (24, 9), (24, 10), (24, 11), (25, 0), (28, 0), (29, 6), (29, 7), (29, 8), (29, 9), (29, 10), (29, 11), (30, 0), (33, 0), (34, 6), (34, 7), (34, 8), (34, 9), (34, 10), (34, 11), (35, 0), (38, 0), (39, 6), (39, 7), (39, 8), (39, 9), (39, 10), (39, 11), (40, 0), (43, 0), (44, 6), (44, 7), (44, 8), (44, 9), (44, 10), (44, 11), (45, 0), (48, 0)], 3)
noncomputable def p387 : Pg := ([], [], [c359], ivG, [(14, 2), (19, 6), (19, 7), (19, 8), (19, 9), (19, 10), (19, 11), (20, 0), (23, 0), (24, 6), (24, 7), (24, 8), (24, 9), (24, 10), (24, 11), (25, 0), (28, 0), (29, 6), (29, 7), (29, 8), (29, 9), (29, 10), (29, 11), (30, 0), (33, 0), (34, 6), (34, 7), (34, 8), (34, 9), (34, 10), (34, 11), (35, 0), (38, 0), (39, 6), (39, 7), (39, 8), (39, 9), (39, 10), (39, 11), (40, 0), (43, 0), (44, 6), (44, 7), (44, 8), (44, 9), (44, 10), (44, 11), (45, 0), (48, 0)], none)
theorem k387 : chk p387 tbF 3000 c387 = true := by decide +kernel
theorem t387 {J : Jt} {X : Tok} {et : Nat → Option va_E} (hX : tOk X) (hH : HandT J X et) (hJ : JS DJ J) : ctrT ivG J X et c387 := ctr_ok (tb := tbF) (P := p387) (c := c387) (f := 3000) tbF_ok hX hJ (by decide) rfl rfl k387 (ct1 (t359 hX hH hJ) ct0)
/-- MTo_redo -/
noncomputable def c388 : Ctr := (118, [aR 0], some [aT], [(14, 2), (19, 6), (19, 7), (19, 8), (19, 9), (19, 10), (19, 11), (20, 0), (23, 0), (24, 6), (24, 7), (24, 8), (24, 9), (24, 10), (24, 11), (25, 0), (28, 0), (29, 6), (29, 7), (29, 8), (29, 9), (29, 10), (29, 11), (30, 0), (33, 0), (34, 6), (34, 7), (34, 8), (34, 9), (34, 10), (34, 11), (35, 0), (38, 0), (39, 6), (39, 7), (39, 8), (39, 9), (39, 10), (39, 11), (40, 0), (43, 0), (44, 6), (44, 7), (44, 8), (44, 9), (44, 10), (44, 11), (45, 0), (48, 0)], 3)
noncomputable def p388 : Pg := ([], [], [c359], ivG, [(14, 2), (19, 6), (19, 7), (19, 8), (19, 9), (19, 10), (19, 11), (20, 0), (23, 0), (24, 6), (24, 7), (24, 8), (24, 9), (24, 10), (24, 11), (25, 0), (28, 0), (29, 6), (29, 7), (29, 8), (29, 9), (29, 10), (29, 11), (30, 0), (33, 0), (34, 6), (34, 7), (34, 8), (34, 9), (34, 10), (34, 11), (35, 0), (38, 0), (39, 6), (39, 7), (39, 8), (39, 9), (39, 10), (39, 11), (40, 0), (43, 0), (44, 6), (44, 7), (44, 8), (44, 9), (44, 10), (44, 11), (45, 0), (48, 0)], none)
theorem k388 : chk p388 tbF 3000 c388 = true := by decide +kernel
theorem t388 {J : Jt} {X : Tok} {et : Nat → Option va_E} (hX : tOk X) (hH : HandT J X et) (hJ : JS DJ J) : ctrT ivG J X et c388 := ctr_ok (tb := tbF) (P := p388) (c := c388) (f := 3000) tbF_ok hX hJ (by decide) rfl rfl k388 (ct1 (t359 hX hH hJ) ct0)
/-- MTo_body -/
noncomputable def c389 : Ctr := (119, [aR 0, aT], some [aI (-3) 49], [(16, 3), (17, 0)], 1)
noncomputable def p389 : Pg := ([], [], [], ivG, [(16, 3), (17, 0)], none)
theorem k389 : chk p389 tbF 3000 c389 = true := by decide +kernel
theorem t389 {J : Jt} {X : Tok} {et : Nat → Option va_E} (hX : tOk X) (hH : HandT J X et) (hJ : JS DJ J) : ctrT ivG J X et c389 := ctr_ok (tb := tbF) (P := p389) (c := c389) (f := 3000) tbF_ok hX hJ (by decide) rfl rfl k389 ct0
/-- MTo_trace -/
noncomputable def c390 : Ctr := (121, [aR 0, aT], some [aT], [], 1)
noncomputable def p390 : Pg := ([], [], [], ivG, [], none)
theorem k390 : chk p390 tbF 3000 c390 = true := by decide +kernel
theorem t390 {J : Jt} {X : Tok} {et : Nat → Option va_E} (hX : tOk X) (hH : HandT J X et) (hJ : JS DJ J) : ctrT ivG J X et c390 := ctr_ok (tb := tbF) (P := p390) (c := c390) (f := 3000) tbF_ok hX hJ (by decide) rfl rfl k390 ct0
/-- MTo_keep -/
noncomputable def c391 : Ctr := (122, [aR 0, aT, aT], some [aI (-1) 1], [(69, 2), (69, 3), (69, 4), (71, 2), (71, 3), (71, 4), (73, 2), (73, 3), (73, 4), (75, 2), (75, 3), (75, 4), (77, 2), (77, 3), (77, 4), (79, 2), (79, 3), (79, 4)], 2)
noncomputable def p391 : Pg := ([], [], [c2], ivG, [(69, 2), (69, 3), (69, 4), (71, 2), (71, 3), (71, 4), (73, 2), (73, 3), (73, 4), (75, 2), (75, 3), (75, 4), (77, 2), (77, 3), (77, 4), (79, 2), (79, 3), (79, 4)], none)
theorem k391 : chk p391 tbF 3000 c391 = true := by decide +kernel
theorem t391 {J : Jt} {X : Tok} {et : Nat → Option va_E} (hX : tOk X) (hH : HandT J X et) (hJ : JS DJ J) : ctrT ivG J X et c391 := ctr_ok (tb := tbF) (P := p391) (c := c391) (f := 3000) tbF_ok hX hJ (by decide) rfl rfl k391 (ct1 (t2 hX hH hJ) ct0)
/-- MTo_row -/
noncomputable def c392 : Ctr := (123, [aR 0, aT, aT, aT], some [aI (-14) 1], [(69, 2), (69, 3), (69, 4), (70, 0), (71, 2), (71, 3), (71, 4), (72, 0), (73, 2), (73, 3), (73, 4), (74, 0), (75, 2), (75, 3), (75, 4), (76, 0), (77, 2), (77, 3), (77, 4), (78, 0), (79, 2), (79, 3), (79, 4), (80, 0)], 2)
noncomputable def p392 : Pg := ([(56, 17, [some none, some none, some none, some (some (0, 60))], [], .inl 3, true)], [], [c2], ivG, [(69, 2), (69, 3), (69, 4), (70, 0), (71, 2), (71, 3), (71, 4), (72, 0), (73, 2), (73, 3), (73, 4), (74, 0), (75, 2), (75, 3), (75, 4), (76, 0), (77, 2), (77, 3), (77, 4), (78, 0), (79, 2), (79, 3), (79, 4), (80, 0)], none)
theorem k392 : chk p392 tbF 3000 c392 = true := by decide +kernel
theorem t392 {J : Jt} {X : Tok} {et : Nat → Option va_E} (hX : tOk X) (hH : HandT J X et) (hJ : JS DJ J) : ctrT ivG J X et c392 := ctr_ok (tb := tbF) (P := p392) (c := c392) (f := 3000) tbF_ok hX hJ (by decide) rfl rfl k392 (ct1 (t2 hX hH hJ) ct0)
/-- MTo_element -/
noncomputable def c393 : Ctr := (125, [aR 0, aT, aT], some [aL], [], 3)
noncomputable def p393 : Pg := ([], [], [c2], ivG, [], none)
theorem k393 : chk p393 tbF 3000 c393 = true := by decide +kernel
theorem t393 {J : Jt} {X : Tok} {et : Nat → Option va_E} (hX : tOk X) (hH : HandT J X et) (hJ : JS DJ J) : ctrT ivG J X et c393 := ctr_ok (tb := tbF) (P := p393) (c := c393) (f := 3000) tbF_ok hX hJ (by decide) rfl rfl k393 (ct1 (t2 hX hH hJ) ct0)
/-- MTo_taken -/
noncomputable def c394 : Ctr := (127, [aR 0, aT, aT], some [aI (-12) 7], [], 2)
noncomputable def p394 : Pg := ([], [], [c2, c354], ivG, [], none)
theorem k394 : chk p394 tbF 3000 c394 = true := by decide +kernel
theorem t394 {J : Jt} {X : Tok} {et : Nat → Option va_E} (hX : tOk X) (hH : HandT J X et) (hJ : JS DJ J) : ctrT ivG J X et c394 := ctr_ok (tb := tbF) (P := p394) (c := c394) (f := 3000) tbF_ok hX hJ (by decide) rfl rfl k394 (ct1 (t2 hX hH hJ) (ct1 (t354 hX hH hJ) ct0))
/-- MTo_count -/
noncomputable def c395 : Ctr := (128, [aR 0, aT], some [aT], [], 0)
noncomputable def p395 : Pg := ([], [], [], ivG, [], none)
theorem k395 : chk p395 tbF 3000 c395 = true := by decide +kernel
theorem t395 {J : Jt} {X : Tok} {et : Nat → Option va_E} (hX : tOk X) (hH : HandT J X et) (hJ : JS DJ J) : ctrT ivG J X et c395 := ctr_ok (tb := tbF) (P := p395) (c := c395) (f := 3000) tbF_ok hX hJ (by decide) rfl rfl k395 ct0
/-- MTo_put -/
noncomputable def c396 : Ctr := (124, [aR 0, aT, aT, aL], some [aI (-13) 1], [(70, 0), (72, 0), (74, 0), (76, 0), (78, 0), (80, 0)], 3)
noncomputable def p396 : Pg := ([], [], [c2], ivG, [(70, 0), (72, 0), (74, 0), (76, 0), (78, 0), (80, 0)], none)
theorem k396 : chk p396 tbF 3000 c396 = true := by decide +kernel
theorem t396 {J : Jt} {X : Tok} {et : Nat → Option va_E} (hX : tOk X) (hH : HandT J X et) (hJ : JS DJ J) : ctrT ivG J X et c396 := ctr_ok (tb := tbF) (P := p396) (c := c396) (f := 3000) tbF_ok hX hJ (by decide) rfl rfl k396 (ct1 (t2 hX hH hJ) ct0)
/-- MRm_feed -/
noncomputable def c404 : Ctr := (148, [aR 81, aT, aT], some [aI (-3) 120], [(81, 3), (82, 0)], 1)
noncomputable def p404 : Pg := ([], [(148, 11, 1, none)], [], ivG, [(81, 3), (82, 0)], none)
theorem k404 : chk p404 tbF 3000 c404 = true := by decide +kernel
theorem t404 {J : Jt} {X : Tok} {et : Nat → Option va_E} (hX : tOk X) (hH : HandT J X et) (hJ : JS DJ J) : ctrT ivG J X et c404 := ctr_ok (tb := tbF) (P := p404) (c := c404) (f := 3000) tbF_ok hX hJ (by decide) rfl rfl k404 ct0
/-- MRm_digit -/
noncomputable def c405 : Ctr := (152, [aR 81, aI 0 0], some [aI 0 9], [(81, 19), (81, 20)], 1)
noncomputable def p405 : Pg := ([], [], [], ivG, [(81, 19), (81, 20)], none)
theorem k405 : chk p405 tbF 3000 c405 = true := by decide +kernel
theorem t405 {J : Jt} {X : Tok} {et : Nat → Option va_E} (hX : tOk X) (hH : HandT J X et) (hJ : JS DJ J) : ctrT ivG J X et c405 := ctr_ok (tb := tbF) (P := p405) (c := c405) (f := 3000) tbF_ok hX hJ (by decide) rfl rfl k405 ct0
/-- MRm_digit -/
noncomputable def c406 : Ctr := (152, [aR 81, aI 1 1], some [aI 0 9], [(81, 19), (81, 20)], 1)
noncomputable def p406 : Pg := ([], [], [], ivG, [(81, 19), (81, 20)], none)
theorem k406 : chk p406 tbF 3000 c406 = true := by decide +kernel
theorem t406 {J : Jt} {X : Tok} {et : Nat → Option va_E} (hX : tOk X) (hH : HandT J X et) (hJ : JS DJ J) : ctrT ivG J X et c406 := ctr_ok (tb := tbF) (P := p406) (c := c406) (f := 3000) tbF_ok hX hJ (by decide) rfl rfl k406 ct0
/-- MRm_signed -/
noncomputable def c407 : Ctr := (153, [aR 81], some [aI (-9) 9], [(81, 19), (81, 20)], 2)
noncomputable def p407 : Pg := ([], [], [c405], ivG, [(81, 19), (81, 20)], none)
theorem k407 : chk p407 tbF 3000 c407 = true := by decide +kernel
theorem t407 {J : Jt} {X : Tok} {et : Nat → Option va_E} (hX : tOk X) (hH : HandT J X et) (hJ : JS DJ J) : ctrT ivG J X et c407 := ctr_ok (tb := tbF) (P := p407) (c := c407) (f := 3000) tbF_ok hX hJ (by decide) rfl rfl k407 (ct1 (t405 hX hH hJ) ct0)
/-- MRm_takes -/
noncomputable def c408 : Ctr := (151, [aR 81, aT], none, [(81, 19), (81, 20)], 1)
noncomputable def p408 : Pg := ([], [], [], ivG, [(81, 19), (81, 20)], none)
theorem k408 : chk p408 tbF 3000 c408 = true := by decide +kernel
theorem t408 {J : Jt} {X : Tok} {et : Nat → Option va_E} (hX : tOk X) (hH : HandT J X et) (hJ : JS DJ J) : ctrT ivG J X et c408 := ctr_ok (tb := tbF) (P := p408) (c := c408) (f := 3000) tbF_ok hX hJ (by decide) rfl rfl k408 ct0
/-- MRm_readNumber -/
noncomputable def c409 : Ctr := (154, [aR 81, aT], some [aT], [(81, 19), (81, 20)], 1)
noncomputable def p409 : Pg := ([(154, 7, [some none, some none, some none, some (some ((-2147483648), 2147483647))], [(81, 18)], .inr (.inl (81, 18)), true)], [], [], ivG, [(81, 19), (81, 20)], none)
theorem k409 : chk p409 tbF 3000 c409 = true := by decide +kernel
theorem t409 {J : Jt} {X : Tok} {et : Nat → Option va_E} (hX : tOk X) (hH : HandT J X et) (hJ : JS DJ J) : ctrT ivG J X et c409 := ctr_ok (tb := tbF) (P := p409) (c := c409) (f := 3000) tbF_ok hX hJ (by decide) rfl rfl k409 ct0
