-- ===== contracts that the checker shows, 5
/-- MRm_stone -/
noncomputable def c410 : Ctr := (156, [aR 81], some [aT], [(81, 3), (81, 4), (81, 19), (81, 20), (83, 0), (84, 0), (85, 0), (86, 0), (87, 0)], 4)
noncomputable def p410 : Pg := ([(156, 39, [some none, some none, none], [(83, 0), (83, 1), (83, 2), (83, 3), (83, 4), (83, 5), (84, 0), (84, 12), (84, 24), (84, 36), (84, 48), (84, 60), (85, 0), (85, 12), (85, 24), (85, 36), (85, 48), (85, 60), (86, 0), (86, 12), (86, 24), (86, 36), (86, 48), (86, 60)], .inr (.inr (83, 1)), true), (156, 85, [some none, some none, some (some (0, 4))], [], .inl 2, true)], [(156, 27, 1, none)], [c406, c407, c408, c409], ivG, [(81, 3), (81, 4), (81, 19), (81, 20), (83, 0), (84, 0), (85, 0), (86, 0), (87, 0)], none)
theorem k410 : chk p410 tbF 3000 c410 = true := by decide +kernel
theorem t410 {J : Jt} {X : Tok} {et : Nat → Option va_E} (hX : tOk X) (hH : HandT J X et) (hJ : JS DJ J) : ctrT ivG J X et c410 := ctr_ok (tb := tbF) (P := p410) (c := c410) (f := 3000) tbF_ok hX hJ (by decide) rfl rfl k410 (ct1 (t406 hX hH hJ) (ct1 (t407 hX hH hJ) (ct1 (t408 hX hH hJ) (ct1 (t409 hX hH hJ) ct0))))
/-- MRm_sumOf -/
noncomputable def c411 : Ctr := (157, [aR 81, aI 0 5, aI 0 0, aI 0 0], some [aT], [], 0)
noncomputable def p411 : Pg := ([(157, 6, [some none, some none, some none, some none, some (some ((-2147483648), 2147483647)), some (some (0, 12)), none, none, none], [], .inl 5, true)], [], [], ivG, [], none)
theorem k411 : chk p411 tbF 3000 c411 = true := by decide +kernel
theorem t411 {J : Jt} {X : Tok} {et : Nat → Option va_E} (hX : tOk X) (hH : HandT J X et) (hJ : JS DJ J) : ctrT ivG J X et c411 := ctr_ok (tb := tbF) (P := p411) (c := c411) (f := 3000) tbF_ok hX hJ (by decide) rfl rfl k411 ct0
/-- MRm_sumOf -/
noncomputable def c412 : Ctr := (157, [aR 81, aI 0 5, aI 2 2, aI 0 0], some [aT], [], 0)
noncomputable def p412 : Pg := ([(157, 6, [some none, some none, some none, some none, some (some ((-2147483648), 2147483647)), some (some (0, 12)), none, none, none], [], .inl 5, true), (157, 38, [some none, some none, some none, some none, some none, some none, some none, some (some ((-2147483648), 2147483647)), some (some (0, 2))], [], .inl 8, true), (157, 111, [some none, some none, some none, some none, some none, some (some ((-2147483648), 2147483647)), some (some (0, 2)), none, none], [], .inl 6, true)], [], [], ivG, [], none)
theorem k412 : chk p412 tbF 3000 c412 = true := by decide +kernel
theorem t412 {J : Jt} {X : Tok} {et : Nat → Option va_E} (hX : tOk X) (hH : HandT J X et) (hJ : JS DJ J) : ctrT ivG J X et c412 := ctr_ok (tb := tbF) (P := p412) (c := c412) (f := 3000) tbF_ok hX hJ (by decide) rfl rfl k412 ct0
/-- MRm_sumOf -/
noncomputable def c413 : Ctr := (157, [aR 81, aI 0 5, aI 1 1, aI 0 0], some [aT], [], 0)
noncomputable def p413 : Pg := ([(157, 6, [some none, some none, some none, some none, some (some ((-2147483648), 2147483647)), some (some (0, 12)), none, none, none], [], .inl 5, true), (157, 38, [some none, some none, some none, some none, some none, some none, some none, some (some ((-2147483648), 2147483647)), some (some (0, 1))], [], .inl 8, true), (157, 111, [some none, some none, some none, some none, some none, some (some ((-2147483648), 2147483647)), some (some (0, 1)), none, none], [], .inl 6, true)], [], [], ivG, [], none)
theorem k413 : chk p413 tbF 3000 c413 = true := by decide +kernel
theorem t413 {J : Jt} {X : Tok} {et : Nat → Option va_E} (hX : tOk X) (hH : HandT J X et) (hJ : JS DJ J) : ctrT ivG J X et c413 := ctr_ok (tb := tbF) (P := p413) (c := c413) (f := 3000) tbF_ok hX hJ (by decide) rfl rfl k413 ct0
/-- MRm_sumOf -/
noncomputable def c414 : Ctr := (157, [aR 81, aI 0 5, aI 0 0, aI 2 2], some [aT], [], 0)
noncomputable def p414 : Pg := ([(157, 6, [some none, some none, some none, some none, some (some ((-2147483648), 2147483647)), some (some (0, 12)), none, none, none], [], .inl 5, true), (157, 65, [some none, some none, some none, some none, some none, some none, some none, some (some ((-2147483648), 2147483647)), some (some (0, 2))], [], .inl 8, true), (157, 135, [some none, some none, some none, some none, some none, some (some ((-2147483648), 2147483647)), some (some (0, 2)), none, none], [], .inl 6, true)], [], [], ivG, [], none)
theorem k414 : chk p414 tbF 3000 c414 = true := by decide +kernel
theorem t414 {J : Jt} {X : Tok} {et : Nat → Option va_E} (hX : tOk X) (hH : HandT J X et) (hJ : JS DJ J) : ctrT ivG J X et c414 := ctr_ok (tb := tbF) (P := p414) (c := c414) (f := 3000) tbF_ok hX hJ (by decide) rfl rfl k414 ct0
/-- MRm_sumOf -/
noncomputable def c415 : Ctr := (157, [aR 81, aI 0 5, aI 0 0, aI 1 1], some [aT], [], 0)
noncomputable def p415 : Pg := ([(157, 6, [some none, some none, some none, some none, some (some ((-2147483648), 2147483647)), some (some (0, 12)), none, none, none], [], .inl 5, true), (157, 65, [some none, some none, some none, some none, some none, some none, some none, some (some ((-2147483648), 2147483647)), some (some (0, 1))], [], .inl 8, true), (157, 135, [some none, some none, some none, some none, some none, some (some ((-2147483648), 2147483647)), some (some (0, 1)), none, none], [], .inl 6, true)], [], [], ivG, [], none)
theorem k415 : chk p415 tbF 3000 c415 = true := by decide +kernel
theorem t415 {J : Jt} {X : Tok} {et : Nat → Option va_E} (hX : tOk X) (hH : HandT J X et) (hJ : JS DJ J) : ctrT ivG J X et c415 := ctr_ok (tb := tbF) (P := p415) (c := c415) (f := 3000) tbF_ok hX hJ (by decide) rfl rfl k415 ct0
/-- MRm_sumOf -/
noncomputable def c416 : Ctr := (157, [aR 81, aI 0 5, aI 1 1, aI 1 1], some [aT], [], 0)
noncomputable def p416 : Pg := ([(157, 6, [some none, some none, some none, some none, some (some ((-2147483648), 2147483647)), some (some (0, 12)), none, none, none], [], .inl 5, true), (157, 38, [some none, some none, some none, some none, some none, some none, some none, some (some ((-2147483648), 2147483647)), some (some (0, 1))], [], .inl 8, true), (157, 65, [some none, some none, some none, some none, some none, some none, some none, some (some ((-2147483648), 2147483647)), some (some (0, 1))], [], .inl 8, true), (157, 111, [some none, some none, some none, some none, some none, some (some ((-2147483648), 2147483647)), some (some (0, 1)), none, none], [], .inl 6, true), (157, 135, [some none, some none, some none, some none, some none, some (some ((-2147483648), 2147483647)), some (some (0, 1)), none, none], [], .inl 6, true)], [], [], ivG, [], none)
theorem k416 : chk p416 tbF 3000 c416 = true := by decide +kernel
theorem t416 {J : Jt} {X : Tok} {et : Nat → Option va_E} (hX : tOk X) (hH : HandT J X et) (hJ : JS DJ J) : ctrT ivG J X et c416 := ctr_ok (tb := tbF) (P := p416) (c := c416) (f := 3000) tbF_ok hX hJ (by decide) rfl rfl k416 ct0
/-- MRm_wideX -/
noncomputable def c417 : Ctr := (158, [aR 81, aI 0 5], some [aT], [], 1)
noncomputable def p417 : Pg := ([], [], [c411, c412, c413], ivG, [], none)
theorem k417 : chk p417 tbF 3000 c417 = true := by decide +kernel
theorem t417 {J : Jt} {X : Tok} {et : Nat → Option va_E} (hX : tOk X) (hH : HandT J X et) (hJ : JS DJ J) : ctrT ivG J X et c417 := ctr_ok (tb := tbF) (P := p417) (c := c417) (f := 3000) tbF_ok hX hJ (by decide) rfl rfl k417 (ct1 (t411 hX hH hJ) (ct1 (t412 hX hH hJ) (ct1 (t413 hX hH hJ) ct0)))
/-- MRm_wideY -/
noncomputable def c418 : Ctr := (159, [aR 81, aI 0 5], some [aT], [], 1)
noncomputable def p418 : Pg := ([], [], [c411, c414, c415], ivG, [], none)
theorem k418 : chk p418 tbF 3000 c418 = true := by decide +kernel
theorem t418 {J : Jt} {X : Tok} {et : Nat → Option va_E} (hX : tOk X) (hH : HandT J X et) (hJ : JS DJ J) : ctrT ivG J X et c418 := ctr_ok (tb := tbF) (P := p418) (c := c418) (f := 3000) tbF_ok hX hJ (by decide) rfl rfl k418 (ct1 (t411 hX hH hJ) (ct1 (t414 hX hH hJ) (ct1 (t415 hX hH hJ) ct0)))
/-- MRm_slant -/
noncomputable def c419 : Ctr := (160, [aR 81, aI 0 5], some [aT], [], 1)
noncomputable def p419 : Pg := ([], [], [c411, c413, c415, c416], ivG, [], none)
theorem k419 : chk p419 tbF 3000 c419 = true := by decide +kernel
theorem t419 {J : Jt} {X : Tok} {et : Nat → Option va_E} (hX : tOk X) (hH : HandT J X et) (hJ : JS DJ J) : ctrT ivG J X et c419 := ctr_ok (tb := tbF) (P := p419) (c := c419) (f := 3000) tbF_ok hX hJ (by decide) rfl rfl k419 (ct1 (t411 hX hH hJ) (ct1 (t413 hX hH hJ) (ct1 (t415 hX hH hJ) (ct1 (t416 hX hH hJ) ct0))))
/-- MRm_keenOf -/
noncomputable def c420 : Ctr := (161, [aR 81, aI 0 5], some [aI (-9) 9], [], 2)
noncomputable def p420 : Pg := ([], [], [c417, c418, c419], ivG, [], none)
theorem k420 : chk p420 tbF 3000 c420 = true := by decide +kernel
theorem t420 {J : Jt} {X : Tok} {et : Nat → Option va_E} (hX : tOk X) (hH : HandT J X et) (hJ : JS DJ J) : ctrT ivG J X et c420 := ctr_ok (tb := tbF) (P := p420) (c := c420) (f := 3000) tbF_ok hX hJ (by decide) rfl rfl k420 (ct1 (t417 hX hH hJ) (ct1 (t418 hX hH hJ) (ct1 (t419 hX hH hJ) ct0)))
/-- MRm_of -/
noncomputable def c421 : Ctr := (162, [aR 81, aT, aT], some [aT], [], 3)
noncomputable def p421 : Pg := ([], [], [c411, c417, c418, c419, c420], ivG, [], none)
theorem k421 : chk p421 tbF 3000 c421 = true := by decide +kernel
theorem t421 {J : Jt} {X : Tok} {et : Nat → Option va_E} (hX : tOk X) (hH : HandT J X et) (hJ : JS DJ J) : ctrT ivG J X et c421 := ctr_ok (tb := tbF) (P := p421) (c := c421) (f := 3000) tbF_ok hX hJ (by decide) rfl rfl k421 (ct1 (t411 hX hH hJ) (ct1 (t417 hX hH hJ) (ct1 (t418 hX hH hJ) (ct1 (t419 hX hH hJ) (ct1 (t420 hX hH hJ) ct0)))))
/-- MRm_lump -/
noncomputable def c422 : Ctr := (163, [aR 81, aT, aT, aT], some [aT], [], 2)
noncomputable def p422 : Pg := ([], [], [], ivG, [], none)
theorem k422 : chk p422 tbF 3000 c422 = true := by decide +kernel
theorem t422 {J : Jt} {X : Tok} {et : Nat → Option va_E} (hX : tOk X) (hH : HandT J X et) (hJ : JS DJ J) : ctrT ivG J X et c422 := ctr_ok (tb := tbF) (P := p422) (c := c422) (f := 3000) tbF_ok hX hJ (by decide) rfl rfl k422 ct0
/-- MRm_grows -/
noncomputable def c424 : Ctr := (189, [aR 81, aT, aT], some [aI (-1) 2], [], 3)
noncomputable def p424 : Pg := ([], [], [c420], ivG, [], none)
theorem k424 : chk p424 tbF 3000 c424 = true := by decide +kernel
theorem t424 {J : Jt} {X : Tok} {et : Nat → Option va_E} (hX : tOk X) (hH : HandT J X et) (hJ : JS DJ J) : ctrT ivG J X et c424 := ctr_ok (tb := tbF) (P := p424) (c := c424) (f := 3000) tbF_ok hX hJ (by decide) rfl rfl k424 (ct1 (t420 hX hH hJ) ct0)
/-- MRm_held -/
noncomputable def c425 : Ctr := (147, [aT, aT, aT], some [aT], [], 0)
noncomputable def p425 : Pg := ([], [], [], ivG, [], none)
theorem k425 : chk p425 tbF 3000 c425 = true := by decide +kernel
theorem t425 {J : Jt} {X : Tok} {et : Nat → Option va_E} (hX : tOk X) (hH : HandT J X et) (hJ : JS DJ J) : ctrT ivG J X et c425 := ctr_ok (tb := tbF) (P := p425) (c := c425) (f := 3000) tbF_ok hX hJ (by decide) rfl rfl k425 ct0
/-- MRm_sizeOf -/
noncomputable def c426 : Ctr := (146, [aT], some [aT], [], 0)
noncomputable def p426 : Pg := ([], [], [], ivG, [], none)
theorem k426 : chk p426 tbF 3000 c426 = true := by decide +kernel
theorem t426 {J : Jt} {X : Tok} {et : Nat → Option va_E} (hX : tOk X) (hH : HandT J X et) (hJ : JS DJ J) : ctrT ivG J X et c426 := ctr_ok (tb := tbF) (P := p426) (c := c426) (f := 3000) tbF_ok hX hJ (by decide) rfl rfl k426 ct0
/-- MRm_takenBy -/
noncomputable def c427 : Ctr := (193, [aR 81, aI 0 3, aT, aT, aT], some [aT], [(97, 0), (98, 0)], 5)
noncomputable def p427 : Pg := ([], [], [h5, c425, c426], ivG, [(97, 0), (98, 0)], none)
theorem k427 : chk p427 tbF 3000 c427 = true := by decide +kernel
theorem t427 {J : Jt} {X : Tok} {et : Nat → Option va_E} (hX : tOk X) (hH : HandT J X et) (hJ : JS DJ J) : ctrT ivG J X et c427 := ctr_ok (tb := tbF) (P := p427) (c := c427) (f := 3000) tbF_ok hX hJ (by decide) rfl rfl k427 (ct1 (hH _ (by simp [handL])) (ct1 (t425 hX hH hJ) (ct1 (t426 hX hH hJ) ct0)))
/-- MRm_takenBy -/
noncomputable def c428 : Ctr := (193, [aR 81, aI 9 9, aT, aT, aT], some [aI 0 0], [], 0)
noncomputable def p428 : Pg := ([], [], [], ivG, [], none)
theorem k428 : chk p428 tbF 3000 c428 = true := by decide +kernel
theorem t428 {J : Jt} {X : Tok} {et : Nat → Option va_E} (hX : tOk X) (hH : HandT J X et) (hJ : JS DJ J) : ctrT ivG J X et c428 := ctr_ok (tb := tbF) (P := p428) (c := c428) (f := 3000) tbF_ok hX hJ (by decide) rfl rfl k428 ct0
/-- MRm_takenBy -/
noncomputable def c429 : Ctr := (193, [aR 81, aI (-100) (-1), aT, aT, aT], some [aT], [], 1)
noncomputable def p429 : Pg := ([], [], [c425], ivG, [], none)
theorem k429 : chk p429 tbF 3000 c429 = true := by decide +kernel
theorem t429 {J : Jt} {X : Tok} {et : Nat → Option va_E} (hX : tOk X) (hH : HandT J X et) (hJ : JS DJ J) : ctrT ivG J X et c429 := ctr_ok (tb := tbF) (P := p429) (c := c429) (f := 3000) tbF_ok hX hJ (by decide) rfl rfl k429 (ct1 (t425 hX hH hJ) ct0)
/-- MRm_go -/
noncomputable def c430 : Ctr := (194, [aR 81, aI 0 5, aT, aI 0 3, aT], none, [(81, 31), (81, 32), (81, 33), (81, 34), (81, 35), (81, 36), (97, 0), (98, 0)], 6)
noncomputable def p430 : Pg := ([], [], [c425, c426, c427], ivG, [(81, 31), (81, 32), (81, 33), (81, 34), (81, 35), (81, 36), (97, 0), (98, 0)], none)
theorem k430 : chk p430 tbF 3000 c430 = true := by decide +kernel
theorem t430 {J : Jt} {X : Tok} {et : Nat → Option va_E} (hX : tOk X) (hH : HandT J X et) (hJ : JS DJ J) : ctrT ivG J X et c430 := ctr_ok (tb := tbF) (P := p430) (c := c430) (f := 3000) tbF_ok hX hJ (by decide) rfl rfl k430 (ct1 (t425 hX hH hJ) (ct1 (t426 hX hH hJ) (ct1 (t427 hX hH hJ) ct0)))
/-- MRm_go -/
noncomputable def c431 : Ctr := (194, [aR 81, aI 0 5, aT, aI 9 9, aT], none, [(81, 31), (81, 32), (81, 33), (81, 34), (81, 35), (81, 36)], 1)
noncomputable def p431 : Pg := ([], [], [c425, c426, c428], ivG, [(81, 31), (81, 32), (81, 33), (81, 34), (81, 35), (81, 36)], none)
theorem k431 : chk p431 tbF 3000 c431 = true := by decide +kernel
theorem t431 {J : Jt} {X : Tok} {et : Nat → Option va_E} (hX : tOk X) (hH : HandT J X et) (hJ : JS DJ J) : ctrT ivG J X et c431 := ctr_ok (tb := tbF) (P := p431) (c := c431) (f := 3000) tbF_ok hX hJ (by decide) rfl rfl k431 (ct1 (t425 hX hH hJ) (ct1 (t426 hX hH hJ) (ct1 (t428 hX hH hJ) ct0)))
/-- MRm_go -/
noncomputable def c432 : Ctr := (194, [aR 81, aI 0 5, aT, aI (-100) (-1), aT], none, [(81, 31), (81, 32), (81, 33), (81, 34), (81, 35), (81, 36)], 2)
noncomputable def p432 : Pg := ([], [], [c425, c426, c429], ivG, [(81, 31), (81, 32), (81, 33), (81, 34), (81, 35), (81, 36)], none)
theorem k432 : chk p432 tbF 3000 c432 = true := by decide +kernel
theorem t432 {J : Jt} {X : Tok} {et : Nat → Option va_E} (hX : tOk X) (hH : HandT J X et) (hJ : JS DJ J) : ctrT ivG J X et c432 := ctr_ok (tb := tbF) (P := p432) (c := c432) (f := 3000) tbF_ok hX hJ (by decide) rfl rfl k432 (ct1 (t425 hX hH hJ) (ct1 (t426 hX hH hJ) (ct1 (t429 hX hH hJ) ct0)))
/-- MRm_goThrough -/
noncomputable def c433 : Ctr := (201, [aR 81, aI 0 5, aT, aI 0 3, aT, aT], none, [(81, 31), (81, 32), (81, 33), (81, 34), (81, 35), (81, 36), (81, 44), (81, 45), (81, 46), (97, 0), (98, 0)], 7)
noncomputable def p433 : Pg := ([(201, 26, [some none, some none, some none, some none, some none, some none, some (some (1, 401))], [(81, 30), (81, 31), (81, 32), (81, 33), (81, 34), (81, 35), (81, 43), (81, 44)], .inl 6, true)], [], [c430], ivG, [(81, 31), (81, 32), (81, 33), (81, 34), (81, 35), (81, 36), (81, 44), (81, 45), (81, 46), (97, 0), (98, 0)], none)
theorem k433 : chk p433 tbF 3000 c433 = true := by decide +kernel
theorem t433 {J : Jt} {X : Tok} {et : Nat → Option va_E} (hX : tOk X) (hH : HandT J X et) (hJ : JS DJ J) : ctrT ivG J X et c433 := ctr_ok (tb := tbF) (P := p433) (c := c433) (f := 3000) tbF_ok hX hJ (by decide) rfl rfl k433 (ct1 (t430 hX hH hJ) ct0)
/-- MRm_goThrough -/
noncomputable def c434 : Ctr := (201, [aR 81, aI 0 5, aT, aI 9 9, aT, aT], none, [(81, 31), (81, 32), (81, 33), (81, 34), (81, 35), (81, 36), (81, 44), (81, 45), (81, 46)], 2)
noncomputable def p434 : Pg := ([(201, 26, [some none, some none, some none, some none, some none, some none, some (some (1, 401))], [(81, 30), (81, 31), (81, 32), (81, 33), (81, 34), (81, 35), (81, 43), (81, 44)], .inl 6, true)], [], [c431], ivG, [(81, 31), (81, 32), (81, 33), (81, 34), (81, 35), (81, 36), (81, 44), (81, 45), (81, 46)], none)
theorem k434 : chk p434 tbF 3000 c434 = true := by decide +kernel
theorem t434 {J : Jt} {X : Tok} {et : Nat → Option va_E} (hX : tOk X) (hH : HandT J X et) (hJ : JS DJ J) : ctrT ivG J X et c434 := ctr_ok (tb := tbF) (P := p434) (c := c434) (f := 3000) tbF_ok hX hJ (by decide) rfl rfl k434 (ct1 (t431 hX hH hJ) ct0)
