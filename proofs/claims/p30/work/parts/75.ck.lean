-- ===== contracts that the checker shows, 10
/-- MRm_trace -/
noncomputable def c506 : Ctr := (224, [aR 81, aT], some [aT], [], 0)
noncomputable def p506 : Pg := ([], [], [], ivG, [], none)
theorem k506 : chk p506 tbF 3000 c506 = true := by decide +kernel
theorem t506 {J : Jt} {X : Tok} {et : Nat → Option va_E} (hX : tOk X) (hH : HandT J X et) (hJ : JS DJ J) : ctrT ivG J X et c506 := ctr_ok tbF_ok hX hJ (by decide) rfl rfl k506 ct0
/-- MRm_count -/
noncomputable def c507 : Ctr := (238, [aR 81, aT], some [aT], [], 0)
noncomputable def p507 : Pg := ([], [], [], ivG, [], none)
theorem k507 : chk p507 tbF 3000 c507 = true := by decide +kernel
theorem t507 {J : Jt} {X : Tok} {et : Nat → Option va_E} (hX : tOk X) (hH : HandT J X et) (hJ : JS DJ J) : ctrT ivG J X et c507 := ctr_ok tbF_ok hX hJ (by decide) rfl rfl k507 ct0
/-- MRm_keep -/
noncomputable def c508 : Ctr := (240, [aR 81, aT, aT], some [aI (-1) 1], [(107, 0)], 2)
noncomputable def p508 : Pg := ([], [], [], ivG, [(107, 0)], none)
theorem k508 : chk p508 tbF 3000 c508 = true := by decide +kernel
theorem t508 {J : Jt} {X : Tok} {et : Nat → Option va_E} (hX : tOk X) (hH : HandT J X et) (hJ : JS DJ J) : ctrT ivG J X et c508 := ctr_ok tbF_ok hX hJ (by decide) rfl rfl k508 ct0
/-- MRm_row -/
noncomputable def c509 : Ctr := (241, [aR 81, aT, aT, aT], some [aI (-14) 1], [(107, 0), (108, 0), (109, 0)], 2)
noncomputable def p509 : Pg := ([(241, 54, [some none, some none, some none, some none, some (some (0, 400))], [], .inl 4, true)], [], [], ivG, [(107, 0), (108, 0), (109, 0)], none)
theorem k509 : chk p509 tbF 3000 c509 = true := by decide +kernel
theorem t509 {J : Jt} {X : Tok} {et : Nat → Option va_E} (hX : tOk X) (hH : HandT J X et) (hJ : JS DJ J) : ctrT ivG J X et c509 := ctr_ok tbF_ok hX hJ (by decide) rfl rfl k509 ct0
/-- MRm_put -/
noncomputable def c510 : Ctr := (243, [aR 81, aT, aT, aL], some [aI (-13) 1], [(109, 0)], 3)
noncomputable def p510 : Pg := ([], [], [], ivG, [(109, 0)], none)
theorem k510 : chk p510 tbF 3000 c510 = true := by decide +kernel
theorem t510 {J : Jt} {X : Tok} {et : Nat → Option va_E} (hX : tOk X) (hH : HandT J X et) (hJ : JS DJ J) : ctrT ivG J X et c510 := ctr_ok tbF_ok hX hJ (by decide) rfl rfl k510 ct0
/-- MRm_element -/
noncomputable def c511 : Ctr := (244, [aR 81, aT, aT], some [aL], [], 3)
noncomputable def p511 : Pg := ([], [], [], ivG, [], none)
theorem k511 : chk p511 tbF 3000 c511 = true := by decide +kernel
theorem t511 {J : Jt} {X : Tok} {et : Nat → Option va_E} (hX : tOk X) (hH : HandT J X et) (hJ : JS DJ J) : ctrT ivG J X et c511 := ctr_ok tbF_ok hX hJ (by decide) rfl rfl k511 ct0
/-- MRm_taken -/
noncomputable def c512 : Ctr := (246, [aR 81, aT, aT], some [aI (-12) 7], [], 2)
noncomputable def p512 : Pg := ([], [(246, 19, 1, none)], [], ivG, [], none)
theorem k512 : chk p512 tbF 3000 c512 = true := by decide +kernel
theorem t512 {J : Jt} {X : Tok} {et : Nat → Option va_E} (hX : tOk X) (hH : HandT J X et) (hJ : JS DJ J) : ctrT ivG J X et c512 := ctr_ok tbF_ok hX hJ (by decide) rfl rfl k512 ct0
