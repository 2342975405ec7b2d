-- ===== contracts that the checker shows, 8
/-- MRm_go -/
noncomputable def c475 : Ctr := (194, [aR 81, aI 0 5, aT, aI 9 9, aT], none, [(81, 31), (81, 32), (81, 33), (81, 34), (81, 35), (81, 36)], 1)
noncomputable def p475 : Pg := ([], [], [c469, c470, c472], ivG, [(81, 31), (81, 32), (81, 33), (81, 34), (81, 35), (81, 36)], none)
theorem k475 : chk p475 tbF 3000 c475 = true := by decide +kernel
theorem t475 {J : Jt} {X : Tok} {et : Nat → Option va_E} (hX : tOk X) (hH : HandT J X et) (hJ : JS DJ J) : ctrT ivG J X et c475 := ctr_ok tbF_ok hX hJ (by decide) rfl rfl k475 (ct1 (t469 hX hH hJ) (ct1 (t470 hX hH hJ) (ct1 (t472 hX hH hJ) ct0)))
/-- MRm_go -/
noncomputable def c476 : Ctr := (194, [aR 81, aI 0 5, aT, aI (-100) (-1), aT], none, [(81, 31), (81, 32), (81, 33), (81, 34), (81, 35), (81, 36)], 2)
noncomputable def p476 : Pg := ([], [], [c469, c470, c473], ivG, [(81, 31), (81, 32), (81, 33), (81, 34), (81, 35), (81, 36)], none)
theorem k476 : chk p476 tbF 3000 c476 = true := by decide +kernel
theorem t476 {J : Jt} {X : Tok} {et : Nat → Option va_E} (hX : tOk X) (hH : HandT J X et) (hJ : JS DJ J) : ctrT ivG J X et c476 := ctr_ok tbF_ok hX hJ (by decide) rfl rfl k476 (ct1 (t469 hX hH hJ) (ct1 (t470 hX hH hJ) (ct1 (t473 hX hH hJ) ct0)))
/-- MRm_goThrough -/
noncomputable def c477 : Ctr := (201, [aR 81, aI 0 5, aT, aI 0 3, aT, aT], none, [(81, 31), (81, 32), (81, 33), (81, 34), (81, 35), (81, 36), (81, 44), (81, 45), (81, 46), (97, 0), (98, 0)], 7)
noncomputable def p477 : Pg := ([(201, 26, [some none, some none, some none, some none, some none, some none, some (some (1, 401))], [(81, 30), (81, 31), (81, 32), (81, 33), (81, 34), (81, 35), (81, 43), (81, 44)], .inl 6, true)], [], [c474], ivG, [(81, 31), (81, 32), (81, 33), (81, 34), (81, 35), (81, 36), (81, 44), (81, 45), (81, 46), (97, 0), (98, 0)], none)
theorem k477 : chk p477 tbF 3000 c477 = true := by decide +kernel
theorem t477 {J : Jt} {X : Tok} {et : Nat → Option va_E} (hX : tOk X) (hH : HandT J X et) (hJ : JS DJ J) : ctrT ivG J X et c477 := ctr_ok tbF_ok hX hJ (by decide) rfl rfl k477 (ct1 (t474 hX hH hJ) ct0)
/-- MRm_goThrough -/
noncomputable def c478 : Ctr := (201, [aR 81, aI 0 5, aT, aI 9 9, aT, aT], none, [(81, 31), (81, 32), (81, 33), (81, 34), (81, 35), (81, 36), (81, 44), (81, 45), (81, 46)], 2)
noncomputable def p478 : Pg := ([(201, 26, [some none, some none, some none, some none, some none, some none, some (some (1, 401))], [(81, 30), (81, 31), (81, 32), (81, 33), (81, 34), (81, 35), (81, 43), (81, 44)], .inl 6, true)], [], [c475], ivG, [(81, 31), (81, 32), (81, 33), (81, 34), (81, 35), (81, 36), (81, 44), (81, 45), (81, 46)], none)
theorem k478 : chk p478 tbF 3000 c478 = true := by decide +kernel
theorem t478 {J : Jt} {X : Tok} {et : Nat → Option va_E} (hX : tOk X) (hH : HandT J X et) (hJ : JS DJ J) : ctrT ivG J X et c478 := ctr_ok tbF_ok hX hJ (by decide) rfl rfl k478 (ct1 (t475 hX hH hJ) ct0)
/-- MRm_goThrough -/
noncomputable def c479 : Ctr := (201, [aR 81, aI 0 5, aT, aI (-100) (-1), aT, aT], none, [(81, 31), (81, 32), (81, 33), (81, 34), (81, 35), (81, 36), (81, 44), (81, 45), (81, 46)], 3)
noncomputable def p479 : Pg := ([(201, 26, [some none, some none, some none, some none, some none, some none, some (some (1, 401))], [(81, 30), (81, 31), (81, 32), (81, 33), (81, 34), (81, 35), (81, 43), (81, 44)], .inl 6, true)], [], [c476], ivG, [(81, 31), (81, 32), (81, 33), (81, 34), (81, 35), (81, 36), (81, 44), (81, 45), (81, 46)], none)
theorem k479 : chk p479 tbF 3000 c479 = true := by decide +kernel
theorem t479 {J : Jt} {X : Tok} {et : Nat → Option va_E} (hX : tOk X) (hH : HandT J X et) (hJ : JS DJ J) : ctrT ivG J X et c479 := ctr_ok tbF_ok hX hJ (by decide) rfl rfl k479 (ct1 (t476 hX hH hJ) ct0)
/-- MRm_note -/
noncomputable def c482 : Ctr := (195, [aR 81, aI 0 400], none, [(99, 0), (100, 0), (101, 0)], 0)
noncomputable def p482 : Pg := ([], [], [], ivG, [(99, 0), (100, 0), (101, 0)], none)
theorem k482 : chk p482 tbF 3000 c482 = true := by decide +kernel
theorem t482 {J : Jt} {X : Tok} {et : Nat → Option va_E} (hX : tOk X) (hH : HandT J X et) (hJ : JS DJ J) : ctrT ivG J X et c482 := ctr_ok tbF_ok hX hJ (by decide) rfl rfl k482 ct0
/-- MRm_roll -/
noncomputable def c483 : Ctr := (196, [aR 81, aT, aT, aT, aT], some [aT], [(81, 31), (81, 32), (81, 33), (81, 34), (81, 35), (81, 36), (81, 40), (81, 41), (81, 42), (81, 43), (97, 0), (98, 0), (99, 0), (100, 0), (101, 0)], 7)
noncomputable def p483 : Pg := ([(196, 55, [some none, some none, some none, some none, some none, some none, some (some (1, 401))], [(81, 30), (81, 31), (81, 32), (81, 33), (81, 34), (81, 35)], .inl 6, true)], [], [c464, c474, c475, c482], ivG, [(81, 31), (81, 32), (81, 33), (81, 34), (81, 35), (81, 36), (81, 40), (81, 41), (81, 42), (81, 43), (97, 0), (98, 0), (99, 0), (100, 0), (101, 0)], none)
theorem k483 : chk p483 tbF 3000 c483 = true := by decide +kernel
theorem t483 {J : Jt} {X : Tok} {et : Nat → Option va_E} (hX : tOk X) (hH : HandT J X et) (hJ : JS DJ J) : ctrT ivG J X et c483 := ctr_ok tbF_ok hX hJ (by decide) rfl rfl k483 (ct1 (t464 hX hH hJ) (ct1 (t474 hX hH hJ) (ct1 (t475 hX hH hJ) (ct1 (t482 hX hH hJ) ct0))))
/-- MRm_going -/
noncomputable def c484 : Ctr := (197, [aR 81, aT, aT], some [aT], [], 1)
noncomputable def p484 : Pg := ([], [], [], ivG, [], none)
theorem k484 : chk p484 tbF 3000 c484 = true := by decide +kernel
theorem t484 {J : Jt} {X : Tok} {et : Nat → Option va_E} (hX : tOk X) (hH : HandT J X et) (hJ : JS DJ J) : ctrT ivG J X et c484 := ctr_ok tbF_ok hX hJ (by decide) rfl rfl k484 ct0
/-- MRm_back -/
noncomputable def c485 : Ctr := (198, [aR 81, aT], some [aT], [], 0)
noncomputable def p485 : Pg := ([(198, 24, [some none, some none, some (some ((-2147483648), 2147483647)), some (some ((-1), 1)), some (some (0, 401)), none], [], .inl 4, true)], [], [], ivG, [], none)
theorem k485 : chk p485 tbF 3000 c485 = true := by decide +kernel
theorem t485 {J : Jt} {X : Tok} {et : Nat → Option va_E} (hX : tOk X) (hH : HandT J X et) (hJ : JS DJ J) : ctrT ivG J X et c485 := ctr_ok tbF_ok hX hJ (by decide) rfl rfl k485 ct0
/-- MRm_told -/
noncomputable def c486 : Ctr := (199, [aR 81, aT], some [aT], [], 1)
noncomputable def p486 : Pg := ([(199, 25, [some none, some none, some (some (0, 401)), none], [], .inl 2, true), (199, 109, [some none, some none, some (some ((-2147483648), 2147483647)), some (some (1, 401))], [], .inl 3, true)], [], [], ivG, [], none)
theorem k486 : chk p486 tbF 3000 c486 = true := by decide +kernel
theorem t486 {J : Jt} {X : Tok} {et : Nat → Option va_E} (hX : tOk X) (hH : HandT J X et) (hJ : JS DJ J) : ctrT ivG J X et c486 := ctr_ok tbF_ok hX hJ (by decide) rfl rfl k486 ct0
/-- MRm_even -/
noncomputable def c487 : Ctr := (202, [aR 81, aT, aT, aT, aT], some [aT], [(81, 31), (81, 32), (81, 33), (81, 34), (81, 35), (81, 36), (81, 44), (81, 45), (81, 46)], 4)
noncomputable def p487 : Pg := ([], [], [c464, c479], ivG, [(81, 31), (81, 32), (81, 33), (81, 34), (81, 35), (81, 36), (81, 44), (81, 45), (81, 46)], none)
theorem k487 : chk p487 tbF 3000 c487 = true := by decide +kernel
theorem t487 {J : Jt} {X : Tok} {et : Nat → Option va_E} (hX : tOk X) (hH : HandT J X et) (hJ : JS DJ J) : ctrT ivG J X et c487 := ctr_ok tbF_ok hX hJ (by decide) rfl rfl k487 (ct1 (t464 hX hH hJ) (ct1 (t479 hX hH hJ) ct0))
/-- MRm_soonest -/
noncomputable def c488 : Ctr := (203, [aR 81, aT, aT, aT, aT], some [aT], [(81, 31), (81, 32), (81, 33), (81, 34), (81, 35), (81, 36), (81, 44), (81, 45), (81, 46), (97, 0), (98, 0)], 8)
noncomputable def p488 : Pg := ([(203, 44, [some none, some none, some none, some none, some none, some (some ((-2), 5)), some (some ((-2147483648), 2147483647)), some (some (0, 6))], [], .inl 7, true)], [], [c464, c477, c478], ivG, [(81, 31), (81, 32), (81, 33), (81, 34), (81, 35), (81, 36), (81, 44), (81, 45), (81, 46), (97, 0), (98, 0)], none)
theorem k488 : chk p488 tbF 3000 c488 = true := by decide +kernel
theorem t488 {J : Jt} {X : Tok} {et : Nat → Option va_E} (hX : tOk X) (hH : HandT J X et) (hJ : JS DJ J) : ctrT ivG J X et c488 := ctr_ok tbF_ok hX hJ (by decide) rfl rfl k488 (ct1 (t464 hX hH hJ) (ct1 (t477 hX hH hJ) (ct1 (t478 hX hH hJ) ct0)))
/-- MRm_screwed -/
noncomputable def c489 : Ctr := (204, [aR 81, aI 0 5, aT, aT], some [aI (-2) 9999], [(81, 10), (81, 11), (81, 12)], 3)
noncomputable def p489 : Pg := ([(204, 13, [some none, some none, some none, some none, some (some ((-2), 9999)), some (some ((-9), 10)), none], [], .inl 5, true), (204, 29, [some none, some none, some none, some none, some (some ((-2), 9999)), some none, some (some ((-9), 10))], [], .inl 6, true)], [], [c464], ivG, [(81, 10), (81, 11), (81, 12)], none)
theorem k489 : chk p489 tbF 3000 c489 = true := by decide +kernel
theorem t489 {J : Jt} {X : Tok} {et : Nat → Option va_E} (hX : tOk X) (hH : HandT J X et) (hJ : JS DJ J) : ctrT ivG J X et c489 := ctr_ok tbF_ok hX hJ (by decide) rfl rfl k489 (ct1 (t464 hX hH hJ) ct0)
/-- MRm_screws -/
noncomputable def c490 : Ctr := (205, [aR 81, aT, aT, aT], some [aI (-2) 9999], [(81, 10), (81, 11), (81, 12)], 4)
noncomputable def p490 : Pg := ([], [], [c489], ivG, [(81, 10), (81, 11), (81, 12)], none)
theorem k490 : chk p490 tbF 3000 c490 = true := by decide +kernel
theorem t490 {J : Jt} {X : Tok} {et : Nat → Option va_E} (hX : tOk X) (hH : HandT J X et) (hJ : JS DJ J) : ctrT ivG J X et c490 := ctr_ok tbF_ok hX hJ (by decide) rfl rfl k490 (ct1 (t489 hX hH hJ) ct0)
/-- MRm_lightest -/
noncomputable def c491 : Ctr := (206, [aR 81, aT, aT], some [aI (-2) 9], [(81, 10), (81, 11), (81, 12)], 4)
noncomputable def p491 : Pg := ([(206, 23, [some none, some none, some none, some (some (1, 10))], [], .inl 3, true)], [], [c489], ivG, [(81, 10), (81, 11), (81, 12)], none)
theorem k491 : chk p491 tbF 3000 c491 = true := by decide +kernel
theorem t491 {J : Jt} {X : Tok} {et : Nat → Option va_E} (hX : tOk X) (hH : HandT J X et) (hJ : JS DJ J) : ctrT ivG J X et c491 := ctr_ok tbF_ok hX hJ (by decide) rfl rfl k491 (ct1 (t489 hX hH hJ) ct0)
/-- MRm_seen -/
noncomputable def c492 : Ctr := (207, [aR 81, aT, aT, aT], some [aI (-2) 9], [(81, 31), (81, 32), (81, 33), (81, 34), (81, 35), (81, 36), (81, 44), (81, 45), (81, 46), (97, 0), (98, 0)], 8)
noncomputable def p492 : Pg := ([(207, 21, [some none, some none, some none, some none, some (some (1, 10))], [], .inl 4, true)], [], [c477, c478], ivG, [(81, 31), (81, 32), (81, 33), (81, 34), (81, 35), (81, 36), (81, 44), (81, 45), (81, 46), (97, 0), (98, 0)], none)
theorem k492 : chk p492 tbF 3000 c492 = true := by decide +kernel
theorem t492 {J : Jt} {X : Tok} {et : Nat → Option va_E} (hX : tOk X) (hH : HandT J X et) (hJ : JS DJ J) : ctrT ivG J X et c492 := ctr_ok tbF_ok hX hJ (by decide) rfl rfl k492 (ct1 (t477 hX hH hJ) (ct1 (t478 hX hH hJ) ct0))
/-- MRm_pressed -/
noncomputable def c493 : Ctr := (208, [aR 81, aT, aT], some [aT], [(81, 31), (81, 32), (81, 33), (81, 34), (81, 35), (81, 36), (97, 0), (98, 0)], 7)
noncomputable def p493 : Pg := ([(208, 40, [some none, some none, some none, some none, some (some ((-2147483648), 2147483647)), some (some (1, 401))], [(81, 30), (81, 31), (81, 32), (81, 33), (81, 34), (81, 35)], .inl 5, true)], [], [c464, c474, c475], ivG, [(81, 31), (81, 32), (81, 33), (81, 34), (81, 35), (81, 36), (97, 0), (98, 0)], none)
theorem k493 : chk p493 tbF 3000 c493 = true := by decide +kernel
theorem t493 {J : Jt} {X : Tok} {et : Nat → Option va_E} (hX : tOk X) (hH : HandT J X et) (hJ : JS DJ J) : ctrT ivG J X et c493 := ctr_ok tbF_ok hX hJ (by decide) rfl rfl k493 (ct1 (t464 hX hH hJ) (ct1 (t474 hX hH hJ) (ct1 (t475 hX hH hJ) ct0)))
/-- MRm_draw -/
noncomputable def c494 : Ctr := (209, [aR 81, aI 1001 1001], some [aI (-1000) 1000], [(81, 47)], 0)
noncomputable def p494 : Pg := ([], [], [], ivG, [(81, 47)], none)
theorem k494 : chk p494 tbF 3000 c494 = true := by decide +kernel
theorem t494 {J : Jt} {X : Tok} {et : Nat → Option va_E} (hX : tOk X) (hH : HandT J X et) (hJ : JS DJ J) : ctrT ivG J X et c494 := ctr_ok tbF_ok hX hJ (by decide) rfl rfl k494 ct0
/-- MRm_draw -/
noncomputable def c495 : Ctr := (209, [aR 81, aI 50 50], some [aI (-49) 49], [(81, 47)], 0)
noncomputable def p495 : Pg := ([], [], [], ivG, [(81, 47)], none)
theorem k495 : chk p495 tbF 3000 c495 = true := by decide +kernel
theorem t495 {J : Jt} {X : Tok} {et : Nat → Option va_E} (hX : tOk X) (hH : HandT J X et) (hJ : JS DJ J) : ctrT ivG J X et c495 := ctr_ok tbF_ok hX hJ (by decide) rfl rfl k495 ct0
/-- MRm_hands -/
noncomputable def c496 : Ctr := (210, [aR 81, aT, aT, aT], some [aT], [(81, 31), (81, 32), (81, 33), (81, 34), (81, 35), (81, 36), (81, 44), (81, 45), (81, 46), (81, 47), (97, 0), (98, 0)], 8)
noncomputable def p496 : Pg := ([(210, 31, [some none, some none, some none, some none, some (some ((-2147483648), 2147483647)), some (some (0, 20)), none, none, none], [(81, 46)], .inl 5, true)], [], [c464, c477, c478, c494, c495], ivG, [(81, 31), (81, 32), (81, 33), (81, 34), (81, 35), (81, 36), (81, 44), (81, 45), (81, 46), (81, 47), (97, 0), (98, 0)], none)
theorem k496 : chk p496 tbF 3000 c496 = true := by decide +kernel
theorem t496 {J : Jt} {X : Tok} {et : Nat → Option va_E} (hX : tOk X) (hH : HandT J X et) (hJ : JS DJ J) : ctrT ivG J X et c496 := ctr_ok tbF_ok hX hJ (by decide) rfl rfl k496 (ct1 (t464 hX hH hJ) (ct1 (t477 hX hH hJ) (ct1 (t478 hX hH hJ) (ct1 (t494 hX hH hJ) (ct1 (t495 hX hH hJ) ct0)))))
/-- MRm_off -/
noncomputable def c500 : Ctr := (217, [aR 81, aT, aT, aT], some [aT], [(81, 31), (81, 32), (81, 33), (81, 34), (81, 35), (81, 36), (81, 44), (81, 45), (81, 46), (97, 0), (98, 0)], 21)
noncomputable def p500 : Pg := ([], [], [h9, h10], ivG, [(81, 31), (81, 32), (81, 33), (81, 34), (81, 35), (81, 36), (81, 44), (81, 45), (81, 46), (97, 0), (98, 0)], none)
theorem k500 : chk p500 tbF 3000 c500 = true := by decide +kernel
theorem t500 {J : Jt} {X : Tok} {et : Nat → Option va_E} (hX : tOk X) (hH : HandT J X et) (hJ : JS DJ J) (hO : HandO J X et) : ctrT ivG J X et c500 := ctr_ok tbF_ok hX hJ (by decide) rfl rfl k500 (ct1 (hO _ (by simp [handO])) (ct1 (hO _ (by simp [handO])) ct0))
/-- MRm_shape -/
noncomputable def c501 : Ctr := (218, [aR 81, aT, aT, aT], some [aT], [(81, 31), (81, 32), (81, 33), (81, 34), (81, 35), (81, 36), (81, 44), (81, 45), (81, 46), (97, 0), (98, 0)], 21)
noncomputable def p501 : Pg := ([(218, 48, [some none, some none, some none, some none, some (some ((-9), 9)), some (some ((-2147483648), 2147483647)), some (some ((-9), 10)), none], [], .inl 6, true)], [], [h9, h10], ivG, [(81, 31), (81, 32), (81, 33), (81, 34), (81, 35), (81, 36), (81, 44), (81, 45), (81, 46), (97, 0), (98, 0)], none)
theorem k501 : chk p501 tbF 3000 c501 = true := by decide +kernel
theorem t501 {J : Jt} {X : Tok} {et : Nat → Option va_E} (hX : tOk X) (hH : HandT J X et) (hJ : JS DJ J) (hO : HandO J X et) : ctrT ivG J X et c501 := ctr_ok tbF_ok hX hJ (by decide) rfl rfl k501 (ct1 (hO _ (by simp [handO])) (ct1 (hO _ (by simp [handO])) ct0))
/-- MRm_span -/
noncomputable def c502 : Ctr := (219, [aR 81, aT, aT, aT], some [aT], [(81, 31), (81, 32), (81, 33), (81, 34), (81, 35), (81, 36), (81, 44), (81, 45), (81, 46), (97, 0), (98, 0)], 21)
noncomputable def p502 : Pg := ([(219, 39, [some none, some none, some none, some none, some (some ((-2147483648), 2147483647)), some (some ((-9), 10))], [], .inl 5, true)], [], [h9, h10], ivG, [(81, 31), (81, 32), (81, 33), (81, 34), (81, 35), (81, 36), (81, 44), (81, 45), (81, 46), (97, 0), (98, 0)], none)
theorem k502 : chk p502 tbF 3000 c502 = true := by decide +kernel
theorem t502 {J : Jt} {X : Tok} {et : Nat → Option va_E} (hX : tOk X) (hH : HandT J X et) (hJ : JS DJ J) (hO : HandO J X et) : ctrT ivG J X et c502 := ctr_ok tbF_ok hX hJ (by decide) rfl rfl k502 (ct1 (hO _ (by simp [handO])) (ct1 (hO _ (by simp [handO])) ct0))
/-- MRm_which -/
noncomputable def c503 : Ctr := (220, [aR 81, aT, aT], some [aI (-5) 3], [(81, 31), (81, 32), (81, 33), (81, 34), (81, 35), (81, 36), (81, 44), (81, 45), (81, 46), (97, 0), (98, 0)], 21)
noncomputable def p503 : Pg := ([(220, 43, [some none, some none, some none, some (some (0, 3)), some (some ((-2147483648), 2147483647)), some (some (0, 4)), none], [], .inl 5, true)], [], [c464, h9], ivG, [(81, 31), (81, 32), (81, 33), (81, 34), (81, 35), (81, 36), (81, 44), (81, 45), (81, 46), (97, 0), (98, 0)], none)
theorem k503 : chk p503 tbF 3000 c503 = true := by decide +kernel
theorem t503 {J : Jt} {X : Tok} {et : Nat → Option va_E} (hX : tOk X) (hH : HandT J X et) (hJ : JS DJ J) (hO : HandO J X et) : ctrT ivG J X et c503 := ctr_ok tbF_ok hX hJ (by decide) rfl rfl k503 (ct1 (t464 hX hH hJ) (ct1 (hO _ (by simp [handO])) ct0))
/-- MRm_body -/
noncomputable def c504 : Ctr := (225, [aR 81, aT], some [aI (-3) 49], [(81, 52), (105, 0)], 1)
noncomputable def p504 : Pg := ([], [], [], ivG, [(81, 52), (105, 0)], none)
theorem k504 : chk p504 tbF 3000 c504 = true := by decide +kernel
theorem t504 {J : Jt} {X : Tok} {et : Nat → Option va_E} (hX : tOk X) (hH : HandT J X et) (hJ : JS DJ J) : ctrT ivG J X et c504 := ctr_ok tbF_ok hX hJ (by decide) rfl rfl k504 ct0
