-- ===== contracts that the checker shows, 6
/-- MRm_goThrough -/
noncomputable def c435 : Ctr := (201, [aR 81, aI 0 5, aT, aI (-100) (-1), aT, aT], none, [(81, 31), (81, 32), (81, 33), (81, 34), (81, 35), (81, 36), (81, 44), (81, 45), (81, 46)], 3)
noncomputable def p435 : Pg := ([(201, 26, [some none, some none, some none, some none, some none, some none, some (some (1, 401))], [(81, 30), (81, 31), (81, 32), (81, 33), (81, 34), (81, 35), (81, 43), (81, 44)], .inl 6, true)], [], [c432], ivG, [(81, 31), (81, 32), (81, 33), (81, 34), (81, 35), (81, 36), (81, 44), (81, 45), (81, 46)], none)
theorem k435 : chk p435 tbF 3000 c435 = true := by decide +kernel
theorem t435 {J : Jt} {X : Tok} {et : Nat → Option va_E} (hX : tOk X) (hH : HandT J X et) (hJ : JS DJ J) : ctrT ivG J X et c435 := ctr_ok (tb := tbF) (P := p435) (c := c435) (f := 3000) tbF_ok hX hJ (by decide) rfl rfl k435 (ct1 (t432 hX hH hJ) ct0)
/-- MRm_note -/
noncomputable def c438 : Ctr := (195, [aR 81, aI 0 400], none, [(99, 0), (100, 0), (101, 0)], 0)
noncomputable def p438 : Pg := ([], [], [], ivG, [(99, 0), (100, 0), (101, 0)], none)
theorem k438 : chk p438 tbF 3000 c438 = true := by decide +kernel
theorem t438 {J : Jt} {X : Tok} {et : Nat → Option va_E} (hX : tOk X) (hH : HandT J X et) (hJ : JS DJ J) : ctrT ivG J X et c438 := ctr_ok (tb := tbF) (P := p438) (c := c438) (f := 3000) tbF_ok hX hJ (by decide) rfl rfl k438 ct0
/-- MRm_roll -/
noncomputable def c439 : Ctr := (196, [aR 81, aT, aT, aT, aT], some [aT], [(81, 31), (81, 32), (81, 33), (81, 34), (81, 35), (81, 36), (81, 40), (81, 41), (81, 42), (81, 43), (97, 0), (98, 0), (99, 0), (100, 0), (101, 0)], 7)
noncomputable def p439 : Pg := ([(196, 55, [some none, some none, some none, some none, some none, some none, some (some (1, 401))], [(81, 30), (81, 31), (81, 32), (81, 33), (81, 34), (81, 35)], .inl 6, true)], [], [c420, c430, c431, c438], ivG, [(81, 31), (81, 32), (81, 33), (81, 34), (81, 35), (81, 36), (81, 40), (81, 41), (81, 42), (81, 43), (97, 0), (98, 0), (99, 0), (100, 0), (101, 0)], none)
theorem k439 : chk p439 tbF 3000 c439 = true := by decide +kernel
theorem t439 {J : Jt} {X : Tok} {et : Nat → Option va_E} (hX : tOk X) (hH : HandT J X et) (hJ : JS DJ J) : ctrT ivG J X et c439 := ctr_ok (tb := tbF) (P := p439) (c := c439) (f := 3000) tbF_ok hX hJ (by decide) rfl rfl k439 (ct1 (t420 hX hH hJ) (ct1 (t430 hX hH hJ) (ct1 (t431 hX hH hJ) (ct1 (t438 hX hH hJ) ct0))))
/-- MRm_going -/
noncomputable def c440 : Ctr := (197, [aR 81, aT, aT], some [aT], [], 1)
noncomputable def p440 : Pg := ([], [], [], ivG, [], none)
theorem k440 : chk p440 tbF 3000 c440 = true := by decide +kernel
theorem t440 {J : Jt} {X : Tok} {et : Nat → Option va_E} (hX : tOk X) (hH : HandT J X et) (hJ : JS DJ J) : ctrT ivG J X et c440 := ctr_ok (tb := tbF) (P := p440) (c := c440) (f := 3000) tbF_ok hX hJ (by decide) rfl rfl k440 ct0
/-- MRm_back -/
noncomputable def c441 : Ctr := (198, [aR 81, aT], some [aT], [], 0)
noncomputable def p441 : Pg := ([(198, 24, [some none, some none, some (some ((-2147483648), 2147483647)), some (some ((-1), 1)), some (some (0, 401)), none], [], .inl 4, true)], [], [], ivG, [], none)
theorem k441 : chk p441 tbF 3000 c441 = true := by decide +kernel
theorem t441 {J : Jt} {X : Tok} {et : Nat → Option va_E} (hX : tOk X) (hH : HandT J X et) (hJ : JS DJ J) : ctrT ivG J X et c441 := ctr_ok (tb := tbF) (P := p441) (c := c441) (f := 3000) tbF_ok hX hJ (by decide) rfl rfl k441 ct0
/-- MRm_told -/
noncomputable def c442 : Ctr := (199, [aR 81, aT], some [aT], [], 1)
noncomputable def p442 : Pg := ([(199, 25, [some none, some none, some (some (0, 401)), none], [], .inl 2, true), (199, 109, [some none, some none, some (some ((-2147483648), 2147483647)), some (some (1, 401))], [], .inl 3, true)], [], [], ivG, [], none)
theorem k442 : chk p442 tbF 3000 c442 = true := by decide +kernel
theorem t442 {J : Jt} {X : Tok} {et : Nat → Option va_E} (hX : tOk X) (hH : HandT J X et) (hJ : JS DJ J) : ctrT ivG J X et c442 := ctr_ok (tb := tbF) (P := p442) (c := c442) (f := 3000) tbF_ok hX hJ (by decide) rfl rfl k442 ct0
/-- MRm_even -/
noncomputable def c443 : Ctr := (202, [aR 81, aT, aT, aT, aT], some [aT], [(81, 31), (81, 32), (81, 33), (81, 34), (81, 35), (81, 36), (81, 44), (81, 45), (81, 46)], 4)
noncomputable def p443 : Pg := ([], [], [c420, c435], ivG, [(81, 31), (81, 32), (81, 33), (81, 34), (81, 35), (81, 36), (81, 44), (81, 45), (81, 46)], none)
theorem k443 : chk p443 tbF 3000 c443 = true := by decide +kernel
theorem t443 {J : Jt} {X : Tok} {et : Nat → Option va_E} (hX : tOk X) (hH : HandT J X et) (hJ : JS DJ J) : ctrT ivG J X et c443 := ctr_ok (tb := tbF) (P := p443) (c := c443) (f := 3000) tbF_ok hX hJ (by decide) rfl rfl k443 (ct1 (t420 hX hH hJ) (ct1 (t435 hX hH hJ) ct0))
/-- MRm_soonest -/
noncomputable def c444 : Ctr := (203, [aR 81, aT, aT, aT, aT], some [aT], [(81, 31), (81, 32), (81, 33), (81, 34), (81, 35), (81, 36), (81, 44), (81, 45), (81, 46), (97, 0), (98, 0)], 8)
noncomputable def p444 : Pg := ([(203, 44, [some none, some none, some none, some none, some none, some (some ((-2), 5)), some (some ((-2147483648), 2147483647)), some (some (0, 6))], [], .inl 7, true)], [], [c420, c433, c434], ivG, [(81, 31), (81, 32), (81, 33), (81, 34), (81, 35), (81, 36), (81, 44), (81, 45), (81, 46), (97, 0), (98, 0)], none)
theorem k444 : chk p444 tbF 3000 c444 = true := by decide +kernel
theorem t444 {J : Jt} {X : Tok} {et : Nat → Option va_E} (hX : tOk X) (hH : HandT J X et) (hJ : JS DJ J) : ctrT ivG J X et c444 := ctr_ok (tb := tbF) (P := p444) (c := c444) (f := 3000) tbF_ok hX hJ (by decide) rfl rfl k444 (ct1 (t420 hX hH hJ) (ct1 (t433 hX hH hJ) (ct1 (t434 hX hH hJ) ct0)))
/-- MRm_screwed -/
noncomputable def c445 : Ctr := (204, [aR 81, aI 0 5, aT, aT], some [aI (-2) 9999], [(81, 10), (81, 11), (81, 12)], 3)
noncomputable def p445 : Pg := ([(204, 13, [some none, some none, some none, some none, some (some ((-2), 9999)), some (some ((-9), 10)), none], [], .inl 5, true), (204, 29, [some none, some none, some none, some none, some (some ((-2), 9999)), some none, some (some ((-9), 10))], [], .inl 6, true)], [], [c420], ivG, [(81, 10), (81, 11), (81, 12)], none)
theorem k445 : chk p445 tbF 3000 c445 = true := by decide +kernel
theorem t445 {J : Jt} {X : Tok} {et : Nat → Option va_E} (hX : tOk X) (hH : HandT J X et) (hJ : JS DJ J) : ctrT ivG J X et c445 := ctr_ok (tb := tbF) (P := p445) (c := c445) (f := 3000) tbF_ok hX hJ (by decide) rfl rfl k445 (ct1 (t420 hX hH hJ) ct0)
/-- MRm_screws -/
noncomputable def c446 : Ctr := (205, [aR 81, aT, aT, aT], some [aI (-2) 9999], [(81, 10), (81, 11), (81, 12)], 4)
noncomputable def p446 : Pg := ([], [], [c445], ivG, [(81, 10), (81, 11), (81, 12)], none)
theorem k446 : chk p446 tbF 3000 c446 = true := by decide +kernel
theorem t446 {J : Jt} {X : Tok} {et : Nat → Option va_E} (hX : tOk X) (hH : HandT J X et) (hJ : JS DJ J) : ctrT ivG J X et c446 := ctr_ok (tb := tbF) (P := p446) (c := c446) (f := 3000) tbF_ok hX hJ (by decide) rfl rfl k446 (ct1 (t445 hX hH hJ) ct0)
/-- MRm_lightest -/
noncomputable def c447 : Ctr := (206, [aR 81, aT, aT], some [aI (-2) 9], [(81, 10), (81, 11), (81, 12)], 4)
noncomputable def p447 : Pg := ([(206, 23, [some none, some none, some none, some (some (1, 10))], [], .inl 3, true)], [], [c445], ivG, [(81, 10), (81, 11), (81, 12)], none)
theorem k447 : chk p447 tbF 3000 c447 = true := by decide +kernel
theorem t447 {J : Jt} {X : Tok} {et : Nat → Option va_E} (hX : tOk X) (hH : HandT J X et) (hJ : JS DJ J) : ctrT ivG J X et c447 := ctr_ok (tb := tbF) (P := p447) (c := c447) (f := 3000) tbF_ok hX hJ (by decide) rfl rfl k447 (ct1 (t445 hX hH hJ) ct0)
/-- MRm_seen -/
noncomputable def c448 : Ctr := (207, [aR 81, aT, aT, aT], some [aI (-2) 9], [(81, 31), (81, 32), (81, 33), (81, 34), (81, 35), (81, 36), (81, 44), (81, 45), (81, 46), (97, 0), (98, 0)], 8)
noncomputable def p448 : Pg := ([(207, 21, [some none, some none, some none, some none, some (some (1, 10))], [], .inl 4, true)], [], [c433, c434], ivG, [(81, 31), (81, 32), (81, 33), (81, 34), (81, 35), (81, 36), (81, 44), (81, 45), (81, 46), (97, 0), (98, 0)], none)
theorem k448 : chk p448 tbF 3000 c448 = true := by decide +kernel
theorem t448 {J : Jt} {X : Tok} {et : Nat → Option va_E} (hX : tOk X) (hH : HandT J X et) (hJ : JS DJ J) : ctrT ivG J X et c448 := ctr_ok (tb := tbF) (P := p448) (c := c448) (f := 3000) tbF_ok hX hJ (by decide) rfl rfl k448 (ct1 (t433 hX hH hJ) (ct1 (t434 hX hH hJ) ct0))
/-- MRm_pressed -/
noncomputable def c449 : Ctr := (208, [aR 81, aT, aT], some [aT], [(81, 31), (81, 32), (81, 33), (81, 34), (81, 35), (81, 36), (97, 0), (98, 0)], 7)
noncomputable def p449 : Pg := ([(208, 40, [some none, some none, some none, some none, some (some ((-2147483648), 2147483647)), some (some (1, 401))], [(81, 30), (81, 31), (81, 32), (81, 33), (81, 34), (81, 35)], .inl 5, true)], [], [c420, c430, c431], ivG, [(81, 31), (81, 32), (81, 33), (81, 34), (81, 35), (81, 36), (97, 0), (98, 0)], none)
theorem k449 : chk p449 tbF 3000 c449 = true := by decide +kernel
theorem t449 {J : Jt} {X : Tok} {et : Nat → Option va_E} (hX : tOk X) (hH : HandT J X et) (hJ : JS DJ J) : ctrT ivG J X et c449 := ctr_ok (tb := tbF) (P := p449) (c := c449) (f := 3000) tbF_ok hX hJ (by decide) rfl rfl k449 (ct1 (t420 hX hH hJ) (ct1 (t430 hX hH hJ) (ct1 (t431 hX hH hJ) ct0)))
/-- MRm_draw -/
noncomputable def c450 : Ctr := (209, [aR 81, aI 1001 1001], some [aI (-1000) 1000], [(81, 47)], 0)
noncomputable def p450 : Pg := ([], [], [], ivG, [(81, 47)], none)
theorem k450 : chk p450 tbF 3000 c450 = true := by decide +kernel
theorem t450 {J : Jt} {X : Tok} {et : Nat → Option va_E} (hX : tOk X) (hH : HandT J X et) (hJ : JS DJ J) : ctrT ivG J X et c450 := ctr_ok (tb := tbF) (P := p450) (c := c450) (f := 3000) tbF_ok hX hJ (by decide) rfl rfl k450 ct0
/-- MRm_draw -/
noncomputable def c451 : Ctr := (209, [aR 81, aI 50 50], some [aI (-49) 49], [(81, 47)], 0)
noncomputable def p451 : Pg := ([], [], [], ivG, [(81, 47)], none)
theorem k451 : chk p451 tbF 3000 c451 = true := by decide +kernel
theorem t451 {J : Jt} {X : Tok} {et : Nat → Option va_E} (hX : tOk X) (hH : HandT J X et) (hJ : JS DJ J) : ctrT ivG J X et c451 := ctr_ok (tb := tbF) (P := p451) (c := c451) (f := 3000) tbF_ok hX hJ (by decide) rfl rfl k451 ct0
/-- MRm_hands -/
noncomputable def c452 : Ctr := (210, [aR 81, aT, aT, aT], some [aT], [(81, 31), (81, 32), (81, 33), (81, 34), (81, 35), (81, 36), (81, 44), (81, 45), (81, 46), (81, 47), (97, 0), (98, 0)], 8)
noncomputable def p452 : Pg := ([(210, 31, [some none, some none, some none, some none, some (some ((-2147483648), 2147483647)), some (some (0, 20)), none, none, none], [(81, 46)], .inl 5, true)], [], [c420, c433, c434, c450, c451], ivG, [(81, 31), (81, 32), (81, 33), (81, 34), (81, 35), (81, 36), (81, 44), (81, 45), (81, 46), (81, 47), (97, 0), (98, 0)], none)
theorem k452 : chk p452 tbF 3000 c452 = true := by decide +kernel
theorem t452 {J : Jt} {X : Tok} {et : Nat → Option va_E} (hX : tOk X) (hH : HandT J X et) (hJ : JS DJ J) : ctrT ivG J X et c452 := ctr_ok (tb := tbF) (P := p452) (c := c452) (f := 3000) tbF_ok hX hJ (by decide) rfl rfl k452 (ct1 (t420 hX hH hJ) (ct1 (t433 hX hH hJ) (ct1 (t434 hX hH hJ) (ct1 (t450 hX hH hJ) (ct1 (t451 hX hH hJ) ct0)))))
/-- MRm_off -/
noncomputable def c456 : Ctr := (217, [aR 81, aT, aT, aT], some [aT], [(81, 31), (81, 32), (81, 33), (81, 34), (81, 35), (81, 36), (81, 44), (81, 45), (81, 46), (97, 0), (98, 0)], 21)
noncomputable def p456 : Pg := ([], [], [h9, h10], ivG, [(81, 31), (81, 32), (81, 33), (81, 34), (81, 35), (81, 36), (81, 44), (81, 45), (81, 46), (97, 0), (98, 0)], none)
theorem k456 : chk p456 tbF 3000 c456 = true := by decide +kernel
theorem t456 {J : Jt} {X : Tok} {et : Nat → Option va_E} (hX : tOk X) (hH : HandT J X et) (hJ : JS DJ J) (hO : HandO J X et) : ctrT ivG J X et c456 := ctr_ok (tb := tbF) (P := p456) (c := c456) (f := 3000) tbF_ok hX hJ (by decide) rfl rfl k456 (ct1 (hO _ (by simp [handO])) (ct1 (hO _ (by simp [handO])) ct0))
/-- MRm_shape -/
noncomputable def c457 : Ctr := (218, [aR 81, aT, aT, aT], some [aT], [(81, 31), (81, 32), (81, 33), (81, 34), (81, 35), (81, 36), (81, 44), (81, 45), (81, 46), (97, 0), (98, 0)], 21)
noncomputable def p457 : Pg := ([(218, 48, [some none, some none, some none, some none, some (some ((-9), 9)), some (some ((-2147483648), 2147483647)), some (some ((-9), 10)), none], [], .inl 6, true)], [], [h9, h10], ivG, [(81, 31), (81, 32), (81, 33), (81, 34), (81, 35), (81, 36), (81, 44), (81, 45), (81, 46), (97, 0), (98, 0)], none)
theorem k457 : chk p457 tbF 3000 c457 = true := by decide +kernel
theorem t457 {J : Jt} {X : Tok} {et : Nat → Option va_E} (hX : tOk X) (hH : HandT J X et) (hJ : JS DJ J) (hO : HandO J X et) : ctrT ivG J X et c457 := ctr_ok (tb := tbF) (P := p457) (c := c457) (f := 3000) tbF_ok hX hJ (by decide) rfl rfl k457 (ct1 (hO _ (by simp [handO])) (ct1 (hO _ (by simp [handO])) ct0))
/-- MRm_span -/
noncomputable def c458 : Ctr := (219, [aR 81, aT, aT, aT], some [aT], [(81, 31), (81, 32), (81, 33), (81, 34), (81, 35), (81, 36), (81, 44), (81, 45), (81, 46), (97, 0), (98, 0)], 21)
noncomputable def p458 : Pg := ([(219, 39, [some none, some none, some none, some none, some (some ((-2147483648), 2147483647)), some (some ((-9), 10))], [], .inl 5, true)], [], [h9, h10], ivG, [(81, 31), (81, 32), (81, 33), (81, 34), (81, 35), (81, 36), (81, 44), (81, 45), (81, 46), (97, 0), (98, 0)], none)
theorem k458 : chk p458 tbF 3000 c458 = true := by decide +kernel
theorem t458 {J : Jt} {X : Tok} {et : Nat → Option va_E} (hX : tOk X) (hH : HandT J X et) (hJ : JS DJ J) (hO : HandO J X et) : ctrT ivG J X et c458 := ctr_ok (tb := tbF) (P := p458) (c := c458) (f := 3000) tbF_ok hX hJ (by decide) rfl rfl k458 (ct1 (hO _ (by simp [handO])) (ct1 (hO _ (by simp [handO])) ct0))
/-- MRm_which -/
noncomputable def c459 : Ctr := (220, [aR 81, aT, aT], some [aI (-5) 3], [(81, 31), (81, 32), (81, 33), (81, 34), (81, 35), (81, 36), (81, 44), (81, 45), (81, 46), (97, 0), (98, 0)], 21)
noncomputable def p459 : Pg := ([(220, 43, [some none, some none, some none, some (some (0, 3)), some (some ((-2147483648), 2147483647)), some (some (0, 4)), none], [], .inl 5, true)], [], [c420, h9], ivG, [(81, 31), (81, 32), (81, 33), (81, 34), (81, 35), (81, 36), (81, 44), (81, 45), (81, 46), (97, 0), (98, 0)], none)
theorem k459 : chk p459 tbF 3000 c459 = true := by decide +kernel
theorem t459 {J : Jt} {X : Tok} {et : Nat → Option va_E} (hX : tOk X) (hH : HandT J X et) (hJ : JS DJ J) (hO : HandO J X et) : ctrT ivG J X et c459 := ctr_ok (tb := tbF) (P := p459) (c := c459) (f := 3000) tbF_ok hX hJ (by decide) rfl rfl k459 (ct1 (t420 hX hH hJ) (ct1 (hO _ (by simp [handO])) ct0))
/-- MRm_body -/
noncomputable def c460 : Ctr := (225, [aR 81, aT], some [aI (-3) 49], [(81, 52), (105, 0)], 1)
noncomputable def p460 : Pg := ([], [], [], ivG, [(81, 52), (105, 0)], none)
theorem k460 : chk p460 tbF 3000 c460 = true := by decide +kernel
theorem t460 {J : Jt} {X : Tok} {et : Nat → Option va_E} (hX : tOk X) (hH : HandT J X et) (hJ : JS DJ J) : ctrT ivG J X et c460 := ctr_ok (tb := tbF) (P := p460) (c := c460) (f := 3000) tbF_ok hX hJ (by decide) rfl rfl k460 ct0
/-- MRm_trace -/
noncomputable def c462 : Ctr := (224, [aR 81, aT], some [aT], [], 0)
noncomputable def p462 : Pg := ([], [], [], ivG, [], none)
theorem k462 : chk p462 tbF 3000 c462 = true := by decide +kernel
theorem t462 {J : Jt} {X : Tok} {et : Nat → Option va_E} (hX : tOk X) (hH : HandT J X et) (hJ : JS DJ J) : ctrT ivG J X et c462 := ctr_ok (tb := tbF) (P := p462) (c := c462) (f := 3000) tbF_ok hX hJ (by decide) rfl rfl k462 ct0
/-- MRm_count -/
noncomputable def c463 : Ctr := (238, [aR 81, aT], some [aT], [], 0)
noncomputable def p463 : Pg := ([], [], [], ivG, [], none)
theorem k463 : chk p463 tbF 3000 c463 = true := by decide +kernel
theorem t463 {J : Jt} {X : Tok} {et : Nat → Option va_E} (hX : tOk X) (hH : HandT J X et) (hJ : JS DJ J) : ctrT ivG J X et c463 := ctr_ok (tb := tbF) (P := p463) (c := c463) (f := 3000) tbF_ok hX hJ (by decide) rfl rfl k463 ct0
/-- MRm_keep -/
noncomputable def c464 : Ctr := (240, [aR 81, aT, aT], some [aI (-1) 1], [(107, 0)], 2)
noncomputable def p464 : Pg := ([], [], [], ivG, [(107, 0)], none)
theorem k464 : chk p464 tbF 3000 c464 = true := by decide +kernel
theorem t464 {J : Jt} {X : Tok} {et : Nat → Option va_E} (hX : tOk X) (hH : HandT J X et) (hJ : JS DJ J) : ctrT ivG J X et c464 := ctr_ok (tb := tbF) (P := p464) (c := c464) (f := 3000) tbF_ok hX hJ (by decide) rfl rfl k464 ct0
/-- MRm_row -/
noncomputable def c465 : Ctr := (241, [aR 81, aT, aT, aT], some [aI (-14) 1], [(107, 0), (108, 0), (109, 0)], 2)
noncomputable def p465 : Pg := ([(241, 54, [some none, some none, some none, some none, some (some (0, 400))], [], .inl 4, true)], [], [], ivG, [(107, 0), (108, 0), (109, 0)], none)
theorem k465 : chk p465 tbF 3000 c465 = true := by decide +kernel
theorem t465 {J : Jt} {X : Tok} {et : Nat → Option va_E} (hX : tOk X) (hH : HandT J X et) (hJ : JS DJ J) : ctrT ivG J X et c465 := ctr_ok (tb := tbF) (P := p465) (c := c465) (f := 3000) tbF_ok hX hJ (by decide) rfl rfl k465 ct0
/-- MRm_put -/
noncomputable def c466 : Ctr := (243, [aR 81, aT, aT, aL], some [aI (-13) 1], [(109, 0)], 3)
noncomputable def p466 : Pg := ([], [], [], ivG, [(109, 0)], none)
theorem k466 : chk p466 tbF 3000 c466 = true := by decide +kernel
theorem t466 {J : Jt} {X : Tok} {et : Nat → Option va_E} (hX : tOk X) (hH : HandT J X et) (hJ : JS DJ J) : ctrT ivG J X et c466 := ctr_ok (tb := tbF) (P := p466) (c := c466) (f := 3000) tbF_ok hX hJ (by decide) rfl rfl k466 ct0
/-- MRm_element -/
noncomputable def c467 : Ctr := (244, [aR 81, aT, aT], some [aL], [], 3)
noncomputable def p467 : Pg := ([], [], [], ivG, [], none)
theorem k467 : chk p467 tbF 3000 c467 = true := by decide +kernel
theorem t467 {J : Jt} {X : Tok} {et : Nat → Option va_E} (hX : tOk X) (hH : HandT J X et) (hJ : JS DJ J) : ctrT ivG J X et c467 := ctr_ok (tb := tbF) (P := p467) (c := c467) (f := 3000) tbF_ok hX hJ (by decide) rfl rfl k467 ct0
/-- MRm_taken -/
noncomputable def c468 : Ctr := (246, [aR 81, aT, aT], some [aI (-12) 7], [], 2)
noncomputable def p468 : Pg := ([], [(246, 19, 1, none)], [], ivG, [], none)
theorem k468 : chk p468 tbF 3000 c468 = true := by decide +kernel
theorem t468 {J : Jt} {X : Tok} {et : Nat → Option va_E} (hX : tOk X) (hH : HandT J X et) (hJ : JS DJ J) : ctrT ivG J X et c468 := ctr_ok (tb := tbF) (P := p468) (c := c468) (f := 3000) tbF_ok hX hJ (by decide) rfl rfl k468 ct0
