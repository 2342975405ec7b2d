-- ===== contracts that the checker shows, 5
/-- ask29 -/
noncomputable def c367 : Ctr := (8, [aR 16, aT, aT, aT, aI 29 29], some [aT], [(16, 4), (18, 0)], 25)
noncomputable def p367 : Pg := ([(8, 6, [some none, some none, some none, some none, some none, some (some ((-2147483648), 2147483647)), some (some (0, 8))], [], .inl 6, true)], [], [c353, c354, c366], ivG, [(16, 4), (18, 0)], none)
theorem k367 : chk p367 tbF 3000 c367 = true := by decide +kernel
theorem t367 {J : Jt} {X : Tok} {et : Nat → Option va_E} (hX : tOk X) (hH : HandT J X et) (hJ : JS DJ J) : ctrT ivG J X et c367 := ctr_ok tbF_ok hX hJ (by decide) rfl rfl k367 (ct1 (t353 hX hH hJ) (ct1 (t354 hX hH hJ) (ct1 (t366 hX hH hJ) ct0)))
/-- ask28 -/
noncomputable def c368 : Ctr := (8, [aR 16, aT, aT, aT, aI 28 28], some [aT], [(16, 4), (18, 0)], 27)
noncomputable def p368 : Pg := ([(8, 6, [some none, some none, some none, some none, some none, some (some ((-2147483648), 2147483647)), some (some (0, 8))], [], .inl 6, true)], [], [c353, c354, c367], ivG, [(16, 4), (18, 0)], none)
theorem k368 : chk p368 tbF 3000 c368 = true := by decide +kernel
theorem t368 {J : Jt} {X : Tok} {et : Nat → Option va_E} (hX : tOk X) (hH : HandT J X et) (hJ : JS DJ J) : ctrT ivG J X et c368 := ctr_ok tbF_ok hX hJ (by decide) rfl rfl k368 (ct1 (t353 hX hH hJ) (ct1 (t354 hX hH hJ) (ct1 (t367 hX hH hJ) ct0)))
/-- ask27 -/
noncomputable def c369 : Ctr := (8, [aR 16, aT, aT, aT, aI 27 27], some [aT], [(16, 4), (18, 0)], 29)
noncomputable def p369 : Pg := ([(8, 6, [some none, some none, some none, some none, some none, some (some ((-2147483648), 2147483647)), some (some (0, 8))], [], .inl 6, true)], [], [c353, c354, c368], ivG, [(16, 4), (18, 0)], none)
theorem k369 : chk p369 tbF 3000 c369 = true := by decide +kernel
theorem t369 {J : Jt} {X : Tok} {et : Nat → Option va_E} (hX : tOk X) (hH : HandT J X et) (hJ : JS DJ J) : ctrT ivG J X et c369 := ctr_ok tbF_ok hX hJ (by decide) rfl rfl k369 (ct1 (t353 hX hH hJ) (ct1 (t354 hX hH hJ) (ct1 (t368 hX hH hJ) ct0)))
/-- ask26 -/
noncomputable def c370 : Ctr := (8, [aR 16, aT, aT, aT, aI 26 26], some [aT], [(16, 4), (18, 0)], 31)
noncomputable def p370 : Pg := ([(8, 6, [some none, some none, some none, some none, some none, some (some ((-2147483648), 2147483647)), some (some (0, 8))], [], .inl 6, true)], [], [c353, c354, c369], ivG, [(16, 4), (18, 0)], none)
theorem k370 : chk p370 tbF 3000 c370 = true := by decide +kernel
theorem t370 {J : Jt} {X : Tok} {et : Nat → Option va_E} (hX : tOk X) (hH : HandT J X et) (hJ : JS DJ J) : ctrT ivG J X et c370 := ctr_ok tbF_ok hX hJ (by decide) rfl rfl k370 (ct1 (t353 hX hH hJ) (ct1 (t354 hX hH hJ) (ct1 (t369 hX hH hJ) ct0)))
/-- ask25 -/
noncomputable def c371 : Ctr := (8, [aR 16, aT, aT, aT, aI 25 25], some [aT], [(16, 4), (18, 0)], 33)
noncomputable def p371 : Pg := ([(8, 6, [some none, some none, some none, some none, some none, some (some ((-2147483648), 2147483647)), some (some (0, 8))], [], .inl 6, true)], [], [c353, c354, c370], ivG, [(16, 4), (18, 0)], none)
theorem k371 : chk p371 tbF 3000 c371 = true := by decide +kernel
theorem t371 {J : Jt} {X : Tok} {et : Nat → Option va_E} (hX : tOk X) (hH : HandT J X et) (hJ : JS DJ J) : ctrT ivG J X et c371 := ctr_ok tbF_ok hX hJ (by decide) rfl rfl k371 (ct1 (t353 hX hH hJ) (ct1 (t354 hX hH hJ) (ct1 (t370 hX hH hJ) ct0)))
/-- ask24 -/
noncomputable def c372 : Ctr := (8, [aR 16, aT, aT, aT, aI 24 24], some [aT], [(16, 4), (18, 0)], 35)
noncomputable def p372 : Pg := ([(8, 6, [some none, some none, some none, some none, some none, some (some ((-2147483648), 2147483647)), some (some (0, 8))], [], .inl 6, true)], [], [c353, c354, c371], ivG, [(16, 4), (18, 0)], none)
theorem k372 : chk p372 tbF 3000 c372 = true := by decide +kernel
theorem t372 {J : Jt} {X : Tok} {et : Nat → Option va_E} (hX : tOk X) (hH : HandT J X et) (hJ : JS DJ J) : ctrT ivG J X et c372 := ctr_ok tbF_ok hX hJ (by decide) rfl rfl k372 (ct1 (t353 hX hH hJ) (ct1 (t354 hX hH hJ) (ct1 (t371 hX hH hJ) ct0)))
/-- ask23 -/
noncomputable def c373 : Ctr := (8, [aR 16, aT, aT, aT, aI 23 23], some [aT], [(16, 4), (18, 0)], 37)
noncomputable def p373 : Pg := ([(8, 6, [some none, some none, some none, some none, some none, some (some ((-2147483648), 2147483647)), some (some (0, 8))], [], .inl 6, true)], [], [c353, c354, c372], ivG, [(16, 4), (18, 0)], none)
theorem k373 : chk p373 tbF 3000 c373 = true := by decide +kernel
theorem t373 {J : Jt} {X : Tok} {et : Nat → Option va_E} (hX : tOk X) (hH : HandT J X et) (hJ : JS DJ J) : ctrT ivG J X et c373 := ctr_ok tbF_ok hX hJ (by decide) rfl rfl k373 (ct1 (t353 hX hH hJ) (ct1 (t354 hX hH hJ) (ct1 (t372 hX hH hJ) ct0)))
/-- ask22 -/
noncomputable def c374 : Ctr := (8, [aR 16, aT, aT, aT, aI 22 22], some [aT], [(16, 4), (18, 0)], 39)
noncomputable def p374 : Pg := ([(8, 6, [some none, some none, some none, some none, some none, some (some ((-2147483648), 2147483647)), some (some (0, 8))], [], .inl 6, true)], [], [c353, c354, c373], ivG, [(16, 4), (18, 0)], none)
theorem k374 : chk p374 tbF 3000 c374 = true := by decide +kernel
theorem t374 {J : Jt} {X : Tok} {et : Nat → Option va_E} (hX : tOk X) (hH : HandT J X et) (hJ : JS DJ J) : ctrT ivG J X et c374 := ctr_ok tbF_ok hX hJ (by decide) rfl rfl k374 (ct1 (t353 hX hH hJ) (ct1 (t354 hX hH hJ) (ct1 (t373 hX hH hJ) ct0)))
/-- ask21 -/
noncomputable def c375 : Ctr := (8, [aR 16, aT, aT, aT, aI 21 21], some [aT], [(16, 4), (18, 0)], 41)
noncomputable def p375 : Pg := ([(8, 6, [some none, some none, some none, some none, some none, some (some ((-2147483648), 2147483647)), some (some (0, 8))], [], .inl 6, true)], [], [c353, c354, c374], ivG, [(16, 4), (18, 0)], none)
theorem k375 : chk p375 tbF 3000 c375 = true := by decide +kernel
theorem t375 {J : Jt} {X : Tok} {et : Nat → Option va_E} (hX : tOk X) (hH : HandT J X et) (hJ : JS DJ J) : ctrT ivG J X et c375 := ctr_ok tbF_ok hX hJ (by decide) rfl rfl k375 (ct1 (t353 hX hH hJ) (ct1 (t354 hX hH hJ) (ct1 (t374 hX hH hJ) ct0)))
/-- ask20 -/
noncomputable def c376 : Ctr := (8, [aR 16, aT, aT, aT, aI 20 20], some [aT], [(16, 4), (18, 0)], 43)
noncomputable def p376 : Pg := ([(8, 6, [some none, some none, some none, some none, some none, some (some ((-2147483648), 2147483647)), some (some (0, 8))], [], .inl 6, true)], [], [c353, c354, c375], ivG, [(16, 4), (18, 0)], none)
theorem k376 : chk p376 tbF 3000 c376 = true := by decide +kernel
theorem t376 {J : Jt} {X : Tok} {et : Nat → Option va_E} (hX : tOk X) (hH : HandT J X et) (hJ : JS DJ J) : ctrT ivG J X et c376 := ctr_ok tbF_ok hX hJ (by decide) rfl rfl k376 (ct1 (t353 hX hH hJ) (ct1 (t354 hX hH hJ) (ct1 (t375 hX hH hJ) ct0)))
/-- ask19 -/
noncomputable def c377 : Ctr := (8, [aR 16, aT, aT, aT, aI 19 19], some [aT], [(16, 4), (18, 0)], 45)
noncomputable def p377 : Pg := ([(8, 6, [some none, some none, some none, some none, some none, some (some ((-2147483648), 2147483647)), some (some (0, 8))], [], .inl 6, true)], [], [c353, c354, c376], ivG, [(16, 4), (18, 0)], none)
theorem k377 : chk p377 tbF 3000 c377 = true := by decide +kernel
theorem t377 {J : Jt} {X : Tok} {et : Nat → Option va_E} (hX : tOk X) (hH : HandT J X et) (hJ : JS DJ J) : ctrT ivG J X et c377 := ctr_ok tbF_ok hX hJ (by decide) rfl rfl k377 (ct1 (t353 hX hH hJ) (ct1 (t354 hX hH hJ) (ct1 (t376 hX hH hJ) ct0)))
/-- ask18 -/
noncomputable def c378 : Ctr := (8, [aR 16, aT, aT, aT, aI 18 18], some [aT], [(16, 4), (18, 0)], 47)
noncomputable def p378 : Pg := ([(8, 6, [some none, some none, some none, some none, some none, some (some ((-2147483648), 2147483647)), some (some (0, 8))], [], .inl 6, true)], [], [c353, c354, c377], ivG, [(16, 4), (18, 0)], none)
theorem k378 : chk p378 tbF 3000 c378 = true := by decide +kernel
theorem t378 {J : Jt} {X : Tok} {et : Nat → Option va_E} (hX : tOk X) (hH : HandT J X et) (hJ : JS DJ J) : ctrT ivG J X et c378 := ctr_ok tbF_ok hX hJ (by decide) rfl rfl k378 (ct1 (t353 hX hH hJ) (ct1 (t354 hX hH hJ) (ct1 (t377 hX hH hJ) ct0)))
/-- ask17 -/
noncomputable def c379 : Ctr := (8, [aR 16, aT, aT, aT, aI 17 17], some [aT], [(16, 4), (18, 0)], 49)
noncomputable def p379 : Pg := ([(8, 6, [some none, some none, some none, some none, some none, some (some ((-2147483648), 2147483647)), some (some (0, 8))], [], .inl 6, true)], [], [c353, c354, c378], ivG, [(16, 4), (18, 0)], none)
theorem k379 : chk p379 tbF 3000 c379 = true := by decide +kernel
theorem t379 {J : Jt} {X : Tok} {et : Nat → Option va_E} (hX : tOk X) (hH : HandT J X et) (hJ : JS DJ J) : ctrT ivG J X et c379 := ctr_ok tbF_ok hX hJ (by decide) rfl rfl k379 (ct1 (t353 hX hH hJ) (ct1 (t354 hX hH hJ) (ct1 (t378 hX hH hJ) ct0)))
/-- ask16 -/
noncomputable def c380 : Ctr := (8, [aR 16, aT, aT, aT, aI 16 16], some [aT], [(16, 4), (18, 0)], 51)
noncomputable def p380 : Pg := ([(8, 6, [some none, some none, some none, some none, some none, some (some ((-2147483648), 2147483647)), some (some (0, 8))], [], .inl 6, true)], [], [c353, c354, c379], ivG, [(16, 4), (18, 0)], none)
theorem k380 : chk p380 tbF 3000 c380 = true := by decide +kernel
theorem t380 {J : Jt} {X : Tok} {et : Nat → Option va_E} (hX : tOk X) (hH : HandT J X et) (hJ : JS DJ J) : ctrT ivG J X et c380 := ctr_ok tbF_ok hX hJ (by decide) rfl rfl k380 (ct1 (t353 hX hH hJ) (ct1 (t354 hX hH hJ) (ct1 (t379 hX hH hJ) ct0)))
/-- ask15 -/
noncomputable def c381 : Ctr := (8, [aR 16, aT, aT, aT, aI 15 15], some [aT], [(16, 4), (18, 0)], 53)
noncomputable def p381 : Pg := ([(8, 6, [some none, some none, some none, some none, some none, some (some ((-2147483648), 2147483647)), some (some (0, 8))], [], .inl 6, true)], [], [c353, c354, c380], ivG, [(16, 4), (18, 0)], none)
theorem k381 : chk p381 tbF 3000 c381 = true := by decide +kernel
theorem t381 {J : Jt} {X : Tok} {et : Nat → Option va_E} (hX : tOk X) (hH : HandT J X et) (hJ : JS DJ J) : ctrT ivG J X et c381 := ctr_ok tbF_ok hX hJ (by decide) rfl rfl k381 (ct1 (t353 hX hH hJ) (ct1 (t354 hX hH hJ) (ct1 (t380 hX hH hJ) ct0)))
/-- ask14 -/
noncomputable def c382 : Ctr := (8, [aR 16, aT, aT, aT, aI 14 14], some [aT], [(16, 4), (18, 0)], 55)
noncomputable def p382 : Pg := ([(8, 6, [some none, some none, some none, some none, some none, some (some ((-2147483648), 2147483647)), some (some (0, 8))], [], .inl 6, true)], [], [c353, c354, c381], ivG, [(16, 4), (18, 0)], none)
theorem k382 : chk p382 tbF 3000 c382 = true := by decide +kernel
theorem t382 {J : Jt} {X : Tok} {et : Nat → Option va_E} (hX : tOk X) (hH : HandT J X et) (hJ : JS DJ J) : ctrT ivG J X et c382 := ctr_ok tbF_ok hX hJ (by decide) rfl rfl k382 (ct1 (t353 hX hH hJ) (ct1 (t354 hX hH hJ) (ct1 (t381 hX hH hJ) ct0)))
