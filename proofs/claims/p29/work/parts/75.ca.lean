-- ===== contracts that the checker shows, 0
theorem ct0 {R : Ctr → Prop} : ∀ c, c ∈ ([] : List Ctr) → R c := fun _ h => absurd h List.not_mem_nil
theorem ct1 {R : Ctr → Prop} {a : Ctr} {l : List Ctr} (h : R a) (t : ∀ c, c ∈ l → R c) : ∀ c, c ∈ a :: l → R c := fun c hm => by
  rcases List.mem_cons.mp hm with q | q
  · rw [q]; exact h
  · exact t c q
/-- MTo_stoneAt -/
noncomputable def c0 : Ctr := (133, [aR 0, aT], some [aN, aR 44, aR 39, aR 34, aR 29, aR 24, aR 19], [], 1)
noncomputable def p0 : Pg := ([], [], [], ivG, [], none)
theorem k0 : chk p0 tbF 3000 c0 = true := by decide +kernel
theorem t0 {J : Jt} {X : Tok} {et : Nat → Option va_E} (hX : tOk X) (hH : HandT J X et) (hJ : JS DJ J) : ctrT ivG J X et c0 := ctr_ok (tb := tbF) (P := p0) (c := c0) (f := 3000) tbF_ok hX hJ (by decide) rfl rfl k0 ct0
/-- MTo_floorAt -/
noncomputable def c1 : Ctr := (134, [aR 0, aT], some [aN, aR 64, aR 59, aR 54, aR 49], [], 1)
noncomputable def p1 : Pg := ([], [], [], ivG, [], none)
theorem k1 : chk p1 tbF 3000 c1 = true := by decide +kernel
theorem t1 {J : Jt} {X : Tok} {et : Nat → Option va_E} (hX : tOk X) (hH : HandT J X et) (hJ : JS DJ J) : ctrT ivG J X et c1 := ctr_ok (tb := tbF) (P := p1) (c := c1) (f := 3000) tbF_ok hX hJ (by decide) rfl rfl k1 ct0
/-- MTo_shelfAt -/
noncomputable def c2 : Ctr := (135, [aR 0, aT], some [aN, aR 79, aR 77, aR 75, aR 73, aR 71, aR 69], [], 1)
noncomputable def p2 : Pg := ([], [], [], ivG, [], none)
theorem k2 : chk p2 tbF 3000 c2 = true := by decide +kernel
theorem t2 {J : Jt} {X : Tok} {et : Nat → Option va_E} (hX : tOk X) (hH : HandT J X et) (hJ : JS DJ J) : ctrT ivG J X et c2 := ctr_ok (tb := tbF) (P := p2) (c := c2) (f := 3000) tbF_ok hX hJ (by decide) rfl rfl k2 ct0
/-- MTa_here -/
noncomputable def c3 : Ctr := (86, [aR 1], some [aI (-1) 255], [], 0)
noncomputable def p3 : Pg := ([], [], [], ivG, [], none)
theorem k3 : chk p3 tbF 3000 c3 = true := by decide +kernel
theorem t3 {J : Jt} {X : Tok} {et : Nat → Option va_E} (hX : tOk X) (hH : HandT J X et) (hJ : JS DJ J) : ctrT ivG J X et c3 := ctr_ok (tb := tbF) (P := p3) (c := c3) (f := 3000) tbF_ok hX hJ (by decide) rfl rfl k3 ct0
/-- MTa_skip -/
noncomputable def c4 : Ctr := (87, [aR 1, aT], some [aI 0 1], [(1, 3)], 1)
noncomputable def p4 : Pg := ([], [], [c3], ivG, [(1, 3)], none)
theorem k4 : chk p4 tbF 3000 c4 = true := by decide +kernel
theorem t4 {J : Jt} {X : Tok} {et : Nat → Option va_E} (hX : tOk X) (hH : HandT J X et) (hJ : JS DJ J) : ctrT ivG J X et c4 := ctr_ok (tb := tbF) (P := p4) (c := c4) (f := 3000) tbF_ok hX hJ (by decide) rfl rfl k4 (ct1 (t3 hX hH hJ) ct0)
/-- MTa_digit -/
noncomputable def c5 : Ctr := (88, [aR 1, aT], some [aI (-49) 9], [(1, 3)], 1)
noncomputable def p5 : Pg := ([], [], [c3], ivG, [(1, 3)], none)
theorem k5 : chk p5 tbF 3000 c5 = true := by decide +kernel
theorem t5 {J : Jt} {X : Tok} {et : Nat → Option va_E} (hX : tOk X) (hH : HandT J X et) (hJ : JS DJ J) : ctrT ivG J X et c5 := ctr_ok (tb := tbF) (P := p5) (c := c5) (f := 3000) tbF_ok hX hJ (by decide) rfl rfl k5 (ct1 (t3 hX hH hJ) ct0)
/-- MTa_number -/
noncomputable def c6 : Ctr := (89, [aR 1, aT], some [aT], [(1, 3)], 2)
noncomputable def p6 : Pg := ([(89, 19, [some none, some none, some (some ((-2147483648), 2147483647)), some (some (0, 1)), some (some (1, 2147483647)), none], [], .inl 4, true)], [], [c5], ivG, [(1, 3)], none)
theorem k6 : chk p6 tbF 3000 c6 = true := by decide +kernel
theorem t6 {J : Jt} {X : Tok} {et : Nat → Option va_E} (hX : tOk X) (hH : HandT J X et) (hJ : JS DJ J) : ctrT ivG J X et c6 := ctr_ok (tb := tbF) (P := p6) (c := c6) (f := 3000) tbF_ok hX hJ (by decide) rfl rfl k6 (ct1 (t5 hX hH hJ) ct0)
/-- MSt_weigh -/
noncomputable def c7 : Ctr := (71, [aR 19], none, [(19, 6), (19, 7), (19, 8), (19, 9), (19, 10), (19, 11)], 0)
noncomputable def p7 : Pg := ([(71, 32, [some none, some (some (0, 12)), none, none, none], [(19, 5), (19, 6), (19, 7), (19, 8), (19, 9), (19, 10)], .inl 1, true)], [], [], ivG, [(19, 6), (19, 7), (19, 8), (19, 9), (19, 10), (19, 11)], none)
theorem k7 : chk p7 tbF 3000 c7 = true := by decide +kernel
theorem t7 {J : Jt} {X : Tok} {et : Nat → Option va_E} (hX : tOk X) (hH : HandT J X et) (hJ : JS DJ J) : ctrT ivG J X et c7 := ctr_ok (tb := tbF) (P := p7) (c := c7) (f := 3000) tbF_ok hX hJ (by decide) rfl rfl k7 ct0
/-- MSt_keen -/
noncomputable def c8 : Ctr := (72, [aR 19], some [aI (-9) 9], [], 2)
noncomputable def p8 : Pg := ([], [], [], ivG, [], none)
theorem k8 : chk p8 tbF 3000 c8 = true := by decide +kernel
theorem t8 {J : Jt} {X : Tok} {et : Nat → Option va_E} (hX : tOk X) (hH : HandT J X et) (hJ : JS DJ J) : ctrT ivG J X et c8 := ctr_ok (tb := tbF) (P := p8) (c := c8) (f := 3000) tbF_ok hX hJ (by decide) rfl rfl k8 ct0
/-- MSt_keenWith -/
noncomputable def c9 : Ctr := (73, [aR 19, aT, aT, aT], some [aI (-9) 9], [], 1)
noncomputable def p9 : Pg := ([], [], [], ivG, [], none)
theorem k9 : chk p9 tbF 3000 c9 = true := by decide +kernel
theorem t9 {J : Jt} {X : Tok} {et : Nat → Option va_E} (hX : tOk X) (hH : HandT J X et) (hJ : JS DJ J) : ctrT ivG J X et c9 := ctr_ok (tb := tbF) (P := p9) (c := c9) (f := 3000) tbF_ok hX hJ (by decide) rfl rfl k9 ct0
/-- MSt_screwPlace -/
noncomputable def c10 : Ctr := (74, [aR 19, aT, aT], some [aI (-2) 1818], [], 2)
noncomputable def p10 : Pg := ([(74, 3, [some none, some none, some none, some (some ((-9), 10)), none], [], .inl 3, true), (74, 13, [some none, some none, some none, some none, some (some ((-9), 10))], [], .inl 4, true)], [], [c9], ivG, [], none)
theorem k10 : chk p10 tbF 3000 c10 = true := by decide +kernel
theorem t10 {J : Jt} {X : Tok} {et : Nat → Option va_E} (hX : tOk X) (hH : HandT J X et) (hJ : JS DJ J) : ctrT ivG J X et c10 := ctr_ok (tb := tbF) (P := p10) (c := c10) (f := 3000) tbF_ok hX hJ (by decide) rfl rfl k10 (ct1 (t9 hX hH hJ) ct0)
/-- MSt_readLump -/
noncomputable def c11 : Ctr := (67, [aR 19, aR 1, aT], some [aI 0 1], [(1, 3), (20, 0), (21, 0), (22, 0)], 3)
noncomputable def p11 : Pg := ([], [], [c4, c5], ivG, [(1, 3), (20, 0), (21, 0), (22, 0)], none)
theorem k11 : chk p11 tbF 3000 c11 = true := by decide +kernel
theorem t11 {J : Jt} {X : Tok} {et : Nat → Option va_E} (hX : tOk X) (hH : HandT J X et) (hJ : JS DJ J) : ctrT ivG J X et c11 := ctr_ok (tb := tbF) (P := p11) (c := c11) (f := 3000) tbF_ok hX hJ (by decide) rfl rfl k11 (ct1 (t4 hX hH hJ) (ct1 (t5 hX hH hJ) ct0))
/-- MSt_readRate -/
noncomputable def c12 : Ctr := (69, [aR 19, aR 1, aT], some [aI 0 1], [(1, 3), (23, 0)], 3)
noncomputable def p12 : Pg := ([], [], [c6], ivG, [(1, 3), (23, 0)], none)
theorem k12 : chk p12 tbF 3000 c12 = true := by decide +kernel
theorem t12 {J : Jt} {X : Tok} {et : Nat → Option va_E} (hX : tOk X) (hH : HandT J X et) (hJ : JS DJ J) : ctrT ivG J X et c12 := ctr_ok (tb := tbF) (P := p12) (c := c12) (f := 3000) tbF_ok hX hJ (by decide) rfl rfl k12 (ct1 (t6 hX hH hJ) ct0)
/-- MSt_readFrom -/
noncomputable def c13 : Ctr := (66, [aR 19, aR 1], some [aI 0 1], [(1, 3), (19, 5), (19, 6), (19, 7), (19, 8), (19, 9), (19, 10), (19, 11), (20, 0), (21, 0), (22, 0), (23, 0)], 4)
noncomputable def p13 : Pg := ([(66, 9, [some none, some none, some (some (0, 1)), some (some (0, 12)), none], [(19, 4)], .inl 3, true), (66, 73, [some none, some none, some none, some (some (44, 47)), some (some (0, 4))], [], .inl 4, true)], [], [c4, c7, c11, c12], ivG, [(1, 3), (19, 5), (19, 6), (19, 7), (19, 8), (19, 9), (19, 10), (19, 11), (20, 0), (21, 0), (22, 0), (23, 0)], none)
theorem k13 : chk p13 tbF 3000 c13 = true := by decide +kernel
theorem t13 {J : Jt} {X : Tok} {et : Nat → Option va_E} (hX : tOk X) (hH : HandT J X et) (hJ : JS DJ J) : ctrT ivG J X et c13 := ctr_ok (tb := tbF) (P := p13) (c := c13) (f := 3000) tbF_ok hX hJ (by decide) rfl rfl k13 (ct1 (t4 hX hH hJ) (ct1 (t7 hX hH hJ) (ct1 (t11 hX hH hJ) (ct1 (t12 hX hH hJ) ct0))))
/-- MSt_measure -/
noncomputable def c14 : Ctr := (76, [aR 19, aT], some [aT], [], 3)
noncomputable def p14 : Pg := ([], [], [c8], ivG, [], none)
theorem k14 : chk p14 tbF 3000 c14 = true := by decide +kernel
theorem t14 {J : Jt} {X : Tok} {et : Nat → Option va_E} (hX : tOk X) (hH : HandT J X et) (hJ : JS DJ J) : ctrT ivG J X et c14 := ctr_ok (tb := tbF) (P := p14) (c := c14) (f := 3000) tbF_ok hX hJ (by decide) rfl rfl k14 (ct1 (t8 hX hH hJ) ct0)
/-- MSt_change -/
noncomputable def c15 : Ctr := (80, [aR 19, aT, aT], some [aT], [(19, 6), (19, 7), (19, 8), (19, 9), (19, 10), (19, 11), (20, 0), (23, 0)], 1)
noncomputable def p15 : Pg := ([], [], [c7], ivG, [(19, 6), (19, 7), (19, 8), (19, 9), (19, 10), (19, 11), (20, 0), (23, 0)], none)
theorem k15 : chk p15 tbF 3000 c15 = true := by decide +kernel
theorem t15 {J : Jt} {X : Tok} {et : Nat → Option va_E} (hX : tOk X) (hH : HandT J X et) (hJ : JS DJ J) : ctrT ivG J X et c15 := ctr_ok (tb := tbF) (P := p15) (c := c15) (f := 3000) tbF_ok hX hJ (by decide) rfl rfl k15 (ct1 (t7 hX hH hJ) ct0)
/-- MSt_rate -/
noncomputable def c16 : Ctr := (75, [aR 19, aT], some [aT], [], 0)
noncomputable def p16 : Pg := ([], [], [], ivG, [], none)
theorem k16 : chk p16 tbF 3000 c16 = true := by decide +kernel
theorem t16 {J : Jt} {X : Tok} {et : Nat → Option va_E} (hX : tOk X) (hH : HandT J X et) (hJ : JS DJ J) : ctrT ivG J X et c16 := ctr_ok (tb := tbF) (P := p16) (c := c16) (f := 3000) tbF_ok hX hJ (by decide) rfl rfl k16 ct0
/-- MSt_mayBecome -/
noncomputable def c17 : Ctr := (79, [aR 19, aT, aT], some [aI 0 1], [], 1)
noncomputable def p17 : Pg := ([], [], [], ivG, [], none)
theorem k17 : chk p17 tbF 3000 c17 = true := by decide +kernel
theorem t17 {J : Jt} {X : Tok} {et : Nat → Option va_E} (hX : tOk X) (hH : HandT J X et) (hJ : JS DJ J) : ctrT ivG J X et c17 := ctr_ok (tb := tbF) (P := p17) (c := c17) (f := 3000) tbF_ok hX hJ (by decide) rfl rfl k17 ct0
/-- MSt_weigh -/
noncomputable def c18 : Ctr := (71, [aR 24], none, [(24, 6), (24, 7), (24, 8), (24, 9), (24, 10), (24, 11)], 0)
noncomputable def p18 : Pg := ([(71, 32, [some none, some (some (0, 12)), none, none, none], [(24, 5), (24, 6), (24, 7), (24, 8), (24, 9), (24, 10)], .inl 1, true)], [], [], ivG, [(24, 6), (24, 7), (24, 8), (24, 9), (24, 10), (24, 11)], none)
theorem k18 : chk p18 tbF 3000 c18 = true := by decide +kernel
theorem t18 {J : Jt} {X : Tok} {et : Nat → Option va_E} (hX : tOk X) (hH : HandT J X et) (hJ : JS DJ J) : ctrT ivG J X et c18 := ctr_ok (tb := tbF) (P := p18) (c := c18) (f := 3000) tbF_ok hX hJ (by decide) rfl rfl k18 ct0
/-- MSt_keen -/
noncomputable def c19 : Ctr := (72, [aR 24], some [aI (-9) 9], [], 2)
noncomputable def p19 : Pg := ([], [], [], ivG, [], none)
theorem k19 : chk p19 tbF 3000 c19 = true := by decide +kernel
theorem t19 {J : Jt} {X : Tok} {et : Nat → Option va_E} (hX : tOk X) (hH : HandT J X et) (hJ : JS DJ J) : ctrT ivG J X et c19 := ctr_ok (tb := tbF) (P := p19) (c := c19) (f := 3000) tbF_ok hX hJ (by decide) rfl rfl k19 ct0
/-- MSt_keenWith -/
noncomputable def c20 : Ctr := (73, [aR 24, aT, aT, aT], some [aI (-9) 9], [], 1)
noncomputable def p20 : Pg := ([], [], [], ivG, [], none)
theorem k20 : chk p20 tbF 3000 c20 = true := by decide +kernel
theorem t20 {J : Jt} {X : Tok} {et : Nat → Option va_E} (hX : tOk X) (hH : HandT J X et) (hJ : JS DJ J) : ctrT ivG J X et c20 := ctr_ok (tb := tbF) (P := p20) (c := c20) (f := 3000) tbF_ok hX hJ (by decide) rfl rfl k20 ct0
/-- MSt_screwPlace -/
noncomputable def c21 : Ctr := (74, [aR 24, aT, aT], some [aI (-2) 1818], [], 2)
noncomputable def p21 : Pg := ([(74, 3, [some none, some none, some none, some (some ((-9), 10)), none], [], .inl 3, true), (74, 13, [some none, some none, some none, some none, some (some ((-9), 10))], [], .inl 4, true)], [], [c20], ivG, [], none)
theorem k21 : chk p21 tbF 3000 c21 = true := by decide +kernel
theorem t21 {J : Jt} {X : Tok} {et : Nat → Option va_E} (hX : tOk X) (hH : HandT J X et) (hJ : JS DJ J) : ctrT ivG J X et c21 := ctr_ok (tb := tbF) (P := p21) (c := c21) (f := 3000) tbF_ok hX hJ (by decide) rfl rfl k21 (ct1 (t20 hX hH hJ) ct0)
/-- MSt_readLump -/
noncomputable def c22 : Ctr := (67, [aR 24, aR 1, aT], some [aI 0 1], [(1, 3), (25, 0), (26, 0), (27, 0)], 3)
noncomputable def p22 : Pg := ([], [], [c4, c5], ivG, [(1, 3), (25, 0), (26, 0), (27, 0)], none)
theorem k22 : chk p22 tbF 3000 c22 = true := by decide +kernel
theorem t22 {J : Jt} {X : Tok} {et : Nat → Option va_E} (hX : tOk X) (hH : HandT J X et) (hJ : JS DJ J) : ctrT ivG J X et c22 := ctr_ok (tb := tbF) (P := p22) (c := c22) (f := 3000) tbF_ok hX hJ (by decide) rfl rfl k22 (ct1 (t4 hX hH hJ) (ct1 (t5 hX hH hJ) ct0))
/-- MSt_readRate -/
noncomputable def c23 : Ctr := (69, [aR 24, aR 1, aT], some [aI 0 1], [(1, 3), (28, 0)], 3)
noncomputable def p23 : Pg := ([], [], [c6], ivG, [(1, 3), (28, 0)], none)
theorem k23 : chk p23 tbF 3000 c23 = true := by decide +kernel
theorem t23 {J : Jt} {X : Tok} {et : Nat → Option va_E} (hX : tOk X) (hH : HandT J X et) (hJ : JS DJ J) : ctrT ivG J X et c23 := ctr_ok (tb := tbF) (P := p23) (c := c23) (f := 3000) tbF_ok hX hJ (by decide) rfl rfl k23 (ct1 (t6 hX hH hJ) ct0)
/-- MSt_readFrom -/
noncomputable def c24 : Ctr := (66, [aR 24, aR 1], some [aI 0 1], [(1, 3), (24, 5), (24, 6), (24, 7), (24, 8), (24, 9), (24, 10), (24, 11), (25, 0), (26, 0), (27, 0), (28, 0)], 4)
noncomputable def p24 : Pg := ([(66, 9, [some none, some none, some (some (0, 1)), some (some (0, 12)), none], [(24, 4)], .inl 3, true), (66, 73, [some none, some none, some none, some (some (44, 47)), some (some (0, 4))], [], .inl 4, true)], [], [c4, c18, c22, c23], ivG, [(1, 3), (24, 5), (24, 6), (24, 7), (24, 8), (24, 9), (24, 10), (24, 11), (25, 0), (26, 0), (27, 0), (28, 0)], none)
theorem k24 : chk p24 tbF 3000 c24 = true := by decide +kernel
theorem t24 {J : Jt} {X : Tok} {et : Nat → Option va_E} (hX : tOk X) (hH : HandT J X et) (hJ : JS DJ J) : ctrT ivG J X et c24 := ctr_ok (tb := tbF) (P := p24) (c := c24) (f := 3000) tbF_ok hX hJ (by decide) rfl rfl k24 (ct1 (t4 hX hH hJ) (ct1 (t18 hX hH hJ) (ct1 (t22 hX hH hJ) (ct1 (t23 hX hH hJ) ct0))))
/-- MSt_measure -/
noncomputable def c25 : Ctr := (76, [aR 24, aT], some [aT], [], 3)
noncomputable def p25 : Pg := ([], [], [c19], ivG, [], none)
theorem k25 : chk p25 tbF 3000 c25 = true := by decide +kernel
theorem t25 {J : Jt} {X : Tok} {et : Nat → Option va_E} (hX : tOk X) (hH : HandT J X et) (hJ : JS DJ J) : ctrT ivG J X et c25 := ctr_ok (tb := tbF) (P := p25) (c := c25) (f := 3000) tbF_ok hX hJ (by decide) rfl rfl k25 (ct1 (t19 hX hH hJ) ct0)
/-- MSt_change -/
noncomputable def c26 : Ctr := (80, [aR 24, aT, aT], some [aT], [(24, 6), (24, 7), (24, 8), (24, 9), (24, 10), (24, 11), (25, 0), (28, 0)], 1)
noncomputable def p26 : Pg := ([], [], [c18], ivG, [(24, 6), (24, 7), (24, 8), (24, 9), (24, 10), (24, 11), (25, 0), (28, 0)], none)
theorem k26 : chk p26 tbF 3000 c26 = true := by decide +kernel
theorem t26 {J : Jt} {X : Tok} {et : Nat → Option va_E} (hX : tOk X) (hH : HandT J X et) (hJ : JS DJ J) : ctrT ivG J X et c26 := ctr_ok (tb := tbF) (P := p26) (c := c26) (f := 3000) tbF_ok hX hJ (by decide) rfl rfl k26 (ct1 (t18 hX hH hJ) ct0)
/-- MSt_rate -/
noncomputable def c27 : Ctr := (75, [aR 24, aT], some [aT], [], 0)
noncomputable def p27 : Pg := ([], [], [], ivG, [], none)
theorem k27 : chk p27 tbF 3000 c27 = true := by decide +kernel
theorem t27 {J : Jt} {X : Tok} {et : Nat → Option va_E} (hX : tOk X) (hH : HandT J X et) (hJ : JS DJ J) : ctrT ivG J X et c27 := ctr_ok (tb := tbF) (P := p27) (c := c27) (f := 3000) tbF_ok hX hJ (by decide) rfl rfl k27 ct0
/-- MSt_mayBecome -/
noncomputable def c28 : Ctr := (79, [aR 24, aT, aT], some [aI 0 1], [], 1)
noncomputable def p28 : Pg := ([], [], [], ivG, [], none)
theorem k28 : chk p28 tbF 3000 c28 = true := by decide +kernel
theorem t28 {J : Jt} {X : Tok} {et : Nat → Option va_E} (hX : tOk X) (hH : HandT J X et) (hJ : JS DJ J) : ctrT ivG J X et c28 := ctr_ok (tb := tbF) (P := p28) (c := c28) (f := 3000) tbF_ok hX hJ (by decide) rfl rfl k28 ct0
/-- MSt_weigh -/
noncomputable def c29 : Ctr := (71, [aR 29], none, [(29, 6), (29, 7), (29, 8), (29, 9), (29, 10), (29, 11)], 0)
noncomputable def p29 : Pg := ([(71, 32, [some none, some (some (0, 12)), none, none, none], [(29, 5), (29, 6), (29, 7), (29, 8), (29, 9), (29, 10)], .inl 1, true)], [], [], ivG, [(29, 6), (29, 7), (29, 8), (29, 9), (29, 10), (29, 11)], none)
theorem k29 : chk p29 tbF 3000 c29 = true := by decide +kernel
theorem t29 {J : Jt} {X : Tok} {et : Nat → Option va_E} (hX : tOk X) (hH : HandT J X et) (hJ : JS DJ J) : ctrT ivG J X et c29 := ctr_ok (tb := tbF) (P := p29) (c := c29) (f := 3000) tbF_ok hX hJ (by decide) rfl rfl k29 ct0
/-- MSt_keen -/
noncomputable def c30 : Ctr := (72, [aR 29], some [aI (-9) 9], [], 2)
noncomputable def p30 : Pg := ([], [], [], ivG, [], none)
theorem k30 : chk p30 tbF 3000 c30 = true := by decide +kernel
theorem t30 {J : Jt} {X : Tok} {et : Nat → Option va_E} (hX : tOk X) (hH : HandT J X et) (hJ : JS DJ J) : ctrT ivG J X et c30 := ctr_ok (tb := tbF) (P := p30) (c := c30) (f := 3000) tbF_ok hX hJ (by decide) rfl rfl k30 ct0
/-- MSt_keenWith -/
noncomputable def c31 : Ctr := (73, [aR 29, aT, aT, aT], some [aI (-9) 9], [], 1)
noncomputable def p31 : Pg := ([], [], [], ivG, [], none)
theorem k31 : chk p31 tbF 3000 c31 = true := by decide +kernel
theorem t31 {J : Jt} {X : Tok} {et : Nat → Option va_E} (hX : tOk X) (hH : HandT J X et) (hJ : JS DJ J) : ctrT ivG J X et c31 := ctr_ok (tb := tbF) (P := p31) (c := c31) (f := 3000) tbF_ok hX hJ (by decide) rfl rfl k31 ct0
/-- MSt_screwPlace -/
noncomputable def c32 : Ctr := (74, [aR 29, aT, aT], some [aI (-2) 1818], [], 2)
noncomputable def p32 : Pg := ([(74, 3, [some none, some none, some none, some (some ((-9), 10)), none], [], .inl 3, true), (74, 13, [some none, some none, some none, some none, some (some ((-9), 10))], [], .inl 4, true)], [], [c31], ivG, [], none)
theorem k32 : chk p32 tbF 3000 c32 = true := by decide +kernel
theorem t32 {J : Jt} {X : Tok} {et : Nat → Option va_E} (hX : tOk X) (hH : HandT J X et) (hJ : JS DJ J) : ctrT ivG J X et c32 := ctr_ok (tb := tbF) (P := p32) (c := c32) (f := 3000) tbF_ok hX hJ (by decide) rfl rfl k32 (ct1 (t31 hX hH hJ) ct0)
/-- MSt_readLump -/
noncomputable def c33 : Ctr := (67, [aR 29, aR 1, aT], some [aI 0 1], [(1, 3), (30, 0), (31, 0), (32, 0)], 3)
noncomputable def p33 : Pg := ([], [], [c4, c5], ivG, [(1, 3), (30, 0), (31, 0), (32, 0)], none)
theorem k33 : chk p33 tbF 3000 c33 = true := by decide +kernel
theorem t33 {J : Jt} {X : Tok} {et : Nat → Option va_E} (hX : tOk X) (hH : HandT J X et) (hJ : JS DJ J) : ctrT ivG J X et c33 := ctr_ok (tb := tbF) (P := p33) (c := c33) (f := 3000) tbF_ok hX hJ (by decide) rfl rfl k33 (ct1 (t4 hX hH hJ) (ct1 (t5 hX hH hJ) ct0))
/-- MSt_readRate -/
noncomputable def c34 : Ctr := (69, [aR 29, aR 1, aT], some [aI 0 1], [(1, 3), (33, 0)], 3)
noncomputable def p34 : Pg := ([], [], [c6], ivG, [(1, 3), (33, 0)], none)
theorem k34 : chk p34 tbF 3000 c34 = true := by decide +kernel
theorem t34 {J : Jt} {X : Tok} {et : Nat → Option va_E} (hX : tOk X) (hH : HandT J X et) (hJ : JS DJ J) : ctrT ivG J X et c34 := ctr_ok (tb := tbF) (P := p34) (c := c34) (f := 3000) tbF_ok hX hJ (by decide) rfl rfl k34 (ct1 (t6 hX hH hJ) ct0)
/-- MSt_readFrom -/
noncomputable def c35 : Ctr := (66, [aR 29, aR 1], some [aI 0 1], [(1, 3), (29, 5), (29, 6), (29, 7), (29, 8), (29, 9), (29, 10), (29, 11), (30, 0), (31, 0), (32, 0), (33, 0)], 4)
noncomputable def p35 : Pg := ([(66, 9, [some none, some none, some (some (0, 1)), some (some (0, 12)), none], [(29, 4)], .inl 3, true), (66, 73, [some none, some none, some none, some (some (44, 47)), some (some (0, 4))], [], .inl 4, true)], [], [c4, c29, c33, c34], ivG, [(1, 3), (29, 5), (29, 6), (29, 7), (29, 8), (29, 9), (29, 10), (29, 11), (30, 0), (31, 0), (32, 0), (33, 0)], none)
theorem k35 : chk p35 tbF 3000 c35 = true := by decide +kernel
theorem t35 {J : Jt} {X : Tok} {et : Nat → Option va_E} (hX : tOk X) (hH : HandT J X et) (hJ : JS DJ J) : ctrT ivG J X et c35 := ctr_ok (tb := tbF) (P := p35) (c := c35) (f := 3000) tbF_ok hX hJ (by decide) rfl rfl k35 (ct1 (t4 hX hH hJ) (ct1 (t29 hX hH hJ) (ct1 (t33 hX hH hJ) (ct1 (t34 hX hH hJ) ct0))))
/-- MSt_measure -/
noncomputable def c36 : Ctr := (76, [aR 29, aT], some [aT], [], 3)
noncomputable def p36 : Pg := ([], [], [c30], ivG, [], none)
theorem k36 : chk p36 tbF 3000 c36 = true := by decide +kernel
theorem t36 {J : Jt} {X : Tok} {et : Nat → Option va_E} (hX : tOk X) (hH : HandT J X et) (hJ : JS DJ J) : ctrT ivG J X et c36 := ctr_ok (tb := tbF) (P := p36) (c := c36) (f := 3000) tbF_ok hX hJ (by decide) rfl rfl k36 (ct1 (t30 hX hH hJ) ct0)
/-- MSt_change -/
noncomputable def c37 : Ctr := (80, [aR 29, aT, aT], some [aT], [(29, 6), (29, 7), (29, 8), (29, 9), (29, 10), (29, 11), (30, 0), (33, 0)], 1)
noncomputable def p37 : Pg := ([], [], [c29], ivG, [(29, 6), (29, 7), (29, 8), (29, 9), (29, 10), (29, 11), (30, 0), (33, 0)], none)
theorem k37 : chk p37 tbF 3000 c37 = true := by decide +kernel
theorem t37 {J : Jt} {X : Tok} {et : Nat → Option va_E} (hX : tOk X) (hH : HandT J X et) (hJ : JS DJ J) : ctrT ivG J X et c37 := ctr_ok (tb := tbF) (P := p37) (c := c37) (f := 3000) tbF_ok hX hJ (by decide) rfl rfl k37 (ct1 (t29 hX hH hJ) ct0)
/-- MSt_rate -/
noncomputable def c38 : Ctr := (75, [aR 29, aT], some [aT], [], 0)
noncomputable def p38 : Pg := ([], [], [], ivG, [], none)
theorem k38 : chk p38 tbF 3000 c38 = true := by decide +kernel
theorem t38 {J : Jt} {X : Tok} {et : Nat → Option va_E} (hX : tOk X) (hH : HandT J X et) (hJ : JS DJ J) : ctrT ivG J X et c38 := ctr_ok (tb := tbF) (P := p38) (c := c38) (f := 3000) tbF_ok hX hJ (by decide) rfl rfl k38 ct0
/-- MSt_mayBecome -/
noncomputable def c39 : Ctr := (79, [aR 29, aT, aT], some [aI 0 1], [], 1)
noncomputable def p39 : Pg := ([], [], [], ivG, [], none)
theorem k39 : chk p39 tbF 3000 c39 = true := by decide +kernel
theorem t39 {J : Jt} {X : Tok} {et : Nat → Option va_E} (hX : tOk X) (hH : HandT J X et) (hJ : JS DJ J) : ctrT ivG J X et c39 := ctr_ok (tb := tbF) (P := p39) (c := c39) (f := 3000) tbF_ok hX hJ (by decide) rfl rfl k39 ct0
/-- MSt_weigh -/
noncomputable def c40 : Ctr := (71, [aR 34], none, [(34, 6), (34, 7), (34, 8), (34, 9), (34, 10), (34, 11)], 0)
noncomputable def p40 : Pg := ([(71, 32, [some none, some (some (0, 12)), none, none, none], [(34, 5), (34, 6), (34, 7), (34, 8), (34, 9), (34, 10)], .inl 1, true)], [], [], ivG, [(34, 6), (34, 7), (34, 8), (34, 9), (34, 10), (34, 11)], none)
theorem k40 : chk p40 tbF 3000 c40 = true := by decide +kernel
theorem t40 {J : Jt} {X : Tok} {et : Nat → Option va_E} (hX : tOk X) (hH : HandT J X et) (hJ : JS DJ J) : ctrT ivG J X et c40 := ctr_ok (tb := tbF) (P := p40) (c := c40) (f := 3000) tbF_ok hX hJ (by decide) rfl rfl k40 ct0
/-- MSt_keen -/
noncomputable def c41 : Ctr := (72, [aR 34], some [aI (-9) 9], [], 2)
noncomputable def p41 : Pg := ([], [], [], ivG, [], none)
theorem k41 : chk p41 tbF 3000 c41 = true := by decide +kernel
theorem t41 {J : Jt} {X : Tok} {et : Nat → Option va_E} (hX : tOk X) (hH : HandT J X et) (hJ : JS DJ J) : ctrT ivG J X et c41 := ctr_ok (tb := tbF) (P := p41) (c := c41) (f := 3000) tbF_ok hX hJ (by decide) rfl rfl k41 ct0
/-- MSt_keenWith -/
noncomputable def c42 : Ctr := (73, [aR 34, aT, aT, aT], some [aI (-9) 9], [], 1)
noncomputable def p42 : Pg := ([], [], [], ivG, [], none)
theorem k42 : chk p42 tbF 3000 c42 = true := by decide +kernel
theorem t42 {J : Jt} {X : Tok} {et : Nat → Option va_E} (hX : tOk X) (hH : HandT J X et) (hJ : JS DJ J) : ctrT ivG J X et c42 := ctr_ok (tb := tbF) (P := p42) (c := c42) (f := 3000) tbF_ok hX hJ (by decide) rfl rfl k42 ct0
/-- MSt_screwPlace -/
noncomputable def c43 : Ctr := (74, [aR 34, aT, aT], some [aI (-2) 1818], [], 2)
noncomputable def p43 : Pg := ([(74, 3, [some none, some none, some none, some (some ((-9), 10)), none], [], .inl 3, true), (74, 13, [some none, some none, some none, some none, some (some ((-9), 10))], [], .inl 4, true)], [], [c42], ivG, [], none)
theorem k43 : chk p43 tbF 3000 c43 = true := by decide +kernel
theorem t43 {J : Jt} {X : Tok} {et : Nat → Option va_E} (hX : tOk X) (hH : HandT J X et) (hJ : JS DJ J) : ctrT ivG J X et c43 := ctr_ok (tb := tbF) (P := p43) (c := c43) (f := 3000) tbF_ok hX hJ (by decide) rfl rfl k43 (ct1 (t42 hX hH hJ) ct0)
/-- MSt_readLump -/
noncomputable def c44 : Ctr := (67, [aR 34, aR 1, aT], some [aI 0 1], [(1, 3), (35, 0), (36, 0), (37, 0)], 3)
noncomputable def p44 : Pg := ([], [], [c4, c5], ivG, [(1, 3), (35, 0), (36, 0), (37, 0)], none)
theorem k44 : chk p44 tbF 3000 c44 = true := by decide +kernel
theorem t44 {J : Jt} {X : Tok} {et : Nat → Option va_E} (hX : tOk X) (hH : HandT J X et) (hJ : JS DJ J) : ctrT ivG J X et c44 := ctr_ok (tb := tbF) (P := p44) (c := c44) (f := 3000) tbF_ok hX hJ (by decide) rfl rfl k44 (ct1 (t4 hX hH hJ) (ct1 (t5 hX hH hJ) ct0))
/-- MSt_readRate -/
noncomputable def c45 : Ctr := (69, [aR 34, aR 1, aT], some [aI 0 1], [(1, 3), (38, 0)], 3)
noncomputable def p45 : Pg := ([], [], [c6], ivG, [(1, 3), (38, 0)], none)
theorem k45 : chk p45 tbF 3000 c45 = true := by decide +kernel
theorem t45 {J : Jt} {X : Tok} {et : Nat → Option va_E} (hX : tOk X) (hH : HandT J X et) (hJ : JS DJ J) : ctrT ivG J X et c45 := ctr_ok (tb := tbF) (P := p45) (c := c45) (f := 3000) tbF_ok hX hJ (by decide) rfl rfl k45 (ct1 (t6 hX hH hJ) ct0)
/-- MSt_readFrom -/
noncomputable def c46 : Ctr := (66, [aR 34, aR 1], some [aI 0 1], [(1, 3), (34, 5), (34, 6), (34, 7), (34, 8), (34, 9), (34, 10), (34, 11), (35, 0), (36, 0), (37, 0), (38, 0)], 4)
noncomputable def p46 : Pg := ([(66, 9, [some none, some none, some (some (0, 1)), some (some (0, 12)), none], [(34, 4)], .inl 3, true), (66, 73, [some none, some none, some none, some (some (44, 47)), some (some (0, 4))], [], .inl 4, true)], [], [c4, c40, c44, c45], ivG, [(1, 3), (34, 5), (34, 6), (34, 7), (34, 8), (34, 9), (34, 10), (34, 11), (35, 0), (36, 0), (37, 0), (38, 0)], none)
theorem k46 : chk p46 tbF 3000 c46 = true := by decide +kernel
theorem t46 {J : Jt} {X : Tok} {et : Nat → Option va_E} (hX : tOk X) (hH : HandT J X et) (hJ : JS DJ J) : ctrT ivG J X et c46 := ctr_ok (tb := tbF) (P := p46) (c := c46) (f := 3000) tbF_ok hX hJ (by decide) rfl rfl k46 (ct1 (t4 hX hH hJ) (ct1 (t40 hX hH hJ) (ct1 (t44 hX hH hJ) (ct1 (t45 hX hH hJ) ct0))))
/-- MSt_measure -/
noncomputable def c47 : Ctr := (76, [aR 34, aT], some [aT], [], 3)
noncomputable def p47 : Pg := ([], [], [c41], ivG, [], none)
theorem k47 : chk p47 tbF 3000 c47 = true := by decide +kernel
theorem t47 {J : Jt} {X : Tok} {et : Nat → Option va_E} (hX : tOk X) (hH : HandT J X et) (hJ : JS DJ J) : ctrT ivG J X et c47 := ctr_ok (tb := tbF) (P := p47) (c := c47) (f := 3000) tbF_ok hX hJ (by decide) rfl rfl k47 (ct1 (t41 hX hH hJ) ct0)
/-- MSt_change -/
noncomputable def c48 : Ctr := (80, [aR 34, aT, aT], some [aT], [(34, 6), (34, 7), (34, 8), (34, 9), (34, 10), (34, 11), (35, 0), (38, 0)], 1)
noncomputable def p48 : Pg := ([], [], [c40], ivG, [(34, 6), (34, 7), (34, 8), (34, 9), (34, 10), (34, 11), (35, 0), (38, 0)], none)
theorem k48 : chk p48 tbF 3000 c48 = true := by decide +kernel
theorem t48 {J : Jt} {X : Tok} {et : Nat → Option va_E} (hX : tOk X) (hH : HandT J X et) (hJ : JS DJ J) : ctrT ivG J X et c48 := ctr_ok (tb := tbF) (P := p48) (c := c48) (f := 3000) tbF_ok hX hJ (by decide) rfl rfl k48 (ct1 (t40 hX hH hJ) ct0)
/-- MSt_rate -/
noncomputable def c49 : Ctr := (75, [aR 34, aT], some [aT], [], 0)
noncomputable def p49 : Pg := ([], [], [], ivG, [], none)
theorem k49 : chk p49 tbF 3000 c49 = true := by decide +kernel
theorem t49 {J : Jt} {X : Tok} {et : Nat → Option va_E} (hX : tOk X) (hH : HandT J X et) (hJ : JS DJ J) : ctrT ivG J X et c49 := ctr_ok (tb := tbF) (P := p49) (c := c49) (f := 3000) tbF_ok hX hJ (by decide) rfl rfl k49 ct0
/-- MSt_mayBecome -/
noncomputable def c50 : Ctr := (79, [aR 34, aT, aT], some [aI 0 1], [], 1)
noncomputable def p50 : Pg := ([], [], [], ivG, [], none)
theorem k50 : chk p50 tbF 3000 c50 = true := by decide +kernel
theorem t50 {J : Jt} {X : Tok} {et : Nat → Option va_E} (hX : tOk X) (hH : HandT J X et) (hJ : JS DJ J) : ctrT ivG J X et c50 := ctr_ok (tb := tbF) (P := p50) (c := c50) (f := 3000) tbF_ok hX hJ (by decide) rfl rfl k50 ct0
/-- MSt_weigh -/
noncomputable def c51 : Ctr := (71, [aR 39], none, [(39, 6), (39, 7), (39, 8), (39, 9), (39, 10), (39, 11)], 0)
noncomputable def p51 : Pg := ([(71, 32, [some none, some (some (0, 12)), none, none, none], [(39, 5), (39, 6), (39, 7), (39, 8), (39, 9), (39, 10)], .inl 1, true)], [], [], ivG, [(39, 6), (39, 7), (39, 8), (39, 9), (39, 10), (39, 11)], none)
theorem k51 : chk p51 tbF 3000 c51 = true := by decide +kernel
theorem t51 {J : Jt} {X : Tok} {et : Nat → Option va_E} (hX : tOk X) (hH : HandT J X et) (hJ : JS DJ J) : ctrT ivG J X et c51 := ctr_ok (tb := tbF) (P := p51) (c := c51) (f := 3000) tbF_ok hX hJ (by decide) rfl rfl k51 ct0
/-- MSt_keen -/
noncomputable def c52 : Ctr := (72, [aR 39], some [aI (-9) 9], [], 2)
noncomputable def p52 : Pg := ([], [], [], ivG, [], none)
theorem k52 : chk p52 tbF 3000 c52 = true := by decide +kernel
theorem t52 {J : Jt} {X : Tok} {et : Nat → Option va_E} (hX : tOk X) (hH : HandT J X et) (hJ : JS DJ J) : ctrT ivG J X et c52 := ctr_ok (tb := tbF) (P := p52) (c := c52) (f := 3000) tbF_ok hX hJ (by decide) rfl rfl k52 ct0
/-- MSt_keenWith -/
noncomputable def c53 : Ctr := (73, [aR 39, aT, aT, aT], some [aI (-9) 9], [], 1)
noncomputable def p53 : Pg := ([], [], [], ivG, [], none)
theorem k53 : chk p53 tbF 3000 c53 = true := by decide +kernel
theorem t53 {J : Jt} {X : Tok} {et : Nat → Option va_E} (hX : tOk X) (hH : HandT J X et) (hJ : JS DJ J) : ctrT ivG J X et c53 := ctr_ok (tb := tbF) (P := p53) (c := c53) (f := 3000) tbF_ok hX hJ (by decide) rfl rfl k53 ct0
/-- MSt_screwPlace -/
noncomputable def c54 : Ctr := (74, [aR 39, aT, aT], some [aI (-2) 1818], [], 2)
noncomputable def p54 : Pg := ([(74, 3, [some none, some none, some none, some (some ((-9), 10)), none], [], .inl 3, true), (74, 13, [some none, some none, some none, some none, some (some ((-9), 10))], [], .inl 4, true)], [], [c53], ivG, [], none)
theorem k54 : chk p54 tbF 3000 c54 = true := by decide +kernel
theorem t54 {J : Jt} {X : Tok} {et : Nat → Option va_E} (hX : tOk X) (hH : HandT J X et) (hJ : JS DJ J) : ctrT ivG J X et c54 := ctr_ok (tb := tbF) (P := p54) (c := c54) (f := 3000) tbF_ok hX hJ (by decide) rfl rfl k54 (ct1 (t53 hX hH hJ) ct0)
/-- MSt_readLump -/
noncomputable def c55 : Ctr := (67, [aR 39, aR 1, aT], some [aI 0 1], [(1, 3), (40, 0), (41, 0), (42, 0)], 3)
noncomputable def p55 : Pg := ([], [], [c4, c5], ivG, [(1, 3), (40, 0), (41, 0), (42, 0)], none)
theorem k55 : chk p55 tbF 3000 c55 = true := by decide +kernel
theorem t55 {J : Jt} {X : Tok} {et : Nat → Option va_E} (hX : tOk X) (hH : HandT J X et) (hJ : JS DJ J) : ctrT ivG J X et c55 := ctr_ok (tb := tbF) (P := p55) (c := c55) (f := 3000) tbF_ok hX hJ (by decide) rfl rfl k55 (ct1 (t4 hX hH hJ) (ct1 (t5 hX hH hJ) ct0))
/-- MSt_readRate -/
noncomputable def c56 : Ctr := (69, [aR 39, aR 1, aT], some [aI 0 1], [(1, 3), (43, 0)], 3)
noncomputable def p56 : Pg := ([], [], [c6], ivG, [(1, 3), (43, 0)], none)
theorem k56 : chk p56 tbF 3000 c56 = true := by decide +kernel
theorem t56 {J : Jt} {X : Tok} {et : Nat → Option va_E} (hX : tOk X) (hH : HandT J X et) (hJ : JS DJ J) : ctrT ivG J X et c56 := ctr_ok (tb := tbF) (P := p56) (c := c56) (f := 3000) tbF_ok hX hJ (by decide) rfl rfl k56 (ct1 (t6 hX hH hJ) ct0)
/-- MSt_readFrom -/
noncomputable def c57 : Ctr := (66, [aR 39, aR 1], some [aI 0 1], [(1, 3), (39, 5), (39, 6), (39, 7), (39, 8), (39, 9), (39, 10), (39, 11), (40, 0), (41, 0), (42, 0), (43, 0)], 4)
noncomputable def p57 : Pg := ([(66, 9, [some none, some none, some (some (0, 1)), some (some (0, 12)), none], [(39, 4)], .inl 3, true), (66, 73, [some none, some none, some none, some (some (44, 47)), some (some (0, 4))], [], .inl 4, true)], [], [c4, c51, c55, c56], ivG, [(1, 3), (39, 5), (39, 6), (39, 7), (39, 8), (39, 9), (39, 10), (39, 11), (40, 0), (41, 0), (42, 0), (43, 0)], none)
theorem k57 : chk p57 tbF 3000 c57 = true := by decide +kernel
theorem t57 {J : Jt} {X : Tok} {et : Nat → Option va_E} (hX : tOk X) (hH : HandT J X et) (hJ : JS DJ J) : ctrT ivG J X et c57 := ctr_ok (tb := tbF) (P := p57) (c := c57) (f := 3000) tbF_ok hX hJ (by decide) rfl rfl k57 (ct1 (t4 hX hH hJ) (ct1 (t51 hX hH hJ) (ct1 (t55 hX hH hJ) (ct1 (t56 hX hH hJ) ct0))))
/-- MSt_measure -/
noncomputable def c58 : Ctr := (76, [aR 39, aT], some [aT], [], 3)
noncomputable def p58 : Pg := ([], [], [c52], ivG, [], none)
theorem k58 : chk p58 tbF 3000 c58 = true := by decide +kernel
theorem t58 {J : Jt} {X : Tok} {et : Nat → Option va_E} (hX : tOk X) (hH : HandT J X et) (hJ : JS DJ J) : ctrT ivG J X et c58 := ctr_ok (tb := tbF) (P := p58) (c := c58) (f := 3000) tbF_ok hX hJ (by decide) rfl rfl k58 (ct1 (t52 hX hH hJ) ct0)
/-- MSt_change -/
noncomputable def c59 : Ctr := (80, [aR 39, aT, aT], some [aT], [(39, 6), (39, 7), (39, 8), (39, 9), (39, 10), (39, 11), (40, 0), (43, 0)], 1)
noncomputable def p59 : Pg := ([], [], [c51], ivG, [(39, 6), (39, 7), (39, 8), (39, 9), (39, 10), (39, 11), (40, 0), (43, 0)], none)
theorem k59 : chk p59 tbF 3000 c59 = true := by decide +kernel
theorem t59 {J : Jt} {X : Tok} {et : Nat → Option va_E} (hX : tOk X) (hH : HandT J X et) (hJ : JS DJ J) : ctrT ivG J X et c59 := ctr_ok (tb := tbF) (P := p59) (c := c59) (f := 3000) tbF_ok hX hJ (by decide) rfl rfl k59 (ct1 (t51 hX hH hJ) ct0)
/-- MSt_rate -/
noncomputable def c60 : Ctr := (75, [aR 39, aT], some [aT], [], 0)
noncomputable def p60 : Pg := ([], [], [], ivG, [], none)
theorem k60 : chk p60 tbF 3000 c60 = true := by decide +kernel
theorem t60 {J : Jt} {X : Tok} {et : Nat → Option va_E} (hX : tOk X) (hH : HandT J X et) (hJ : JS DJ J) : ctrT ivG J X et c60 := ctr_ok (tb := tbF) (P := p60) (c := c60) (f := 3000) tbF_ok hX hJ (by decide) rfl rfl k60 ct0
/-- MSt_mayBecome -/
noncomputable def c61 : Ctr := (79, [aR 39, aT, aT], some [aI 0 1], [], 1)
noncomputable def p61 : Pg := ([], [], [], ivG, [], none)
theorem k61 : chk p61 tbF 3000 c61 = true := by decide +kernel
theorem t61 {J : Jt} {X : Tok} {et : Nat → Option va_E} (hX : tOk X) (hH : HandT J X et) (hJ : JS DJ J) : ctrT ivG J X et c61 := ctr_ok (tb := tbF) (P := p61) (c := c61) (f := 3000) tbF_ok hX hJ (by decide) rfl rfl k61 ct0
/-- MSt_weigh -/
noncomputable def c62 : Ctr := (71, [aR 44], none, [(44, 6), (44, 7), (44, 8), (44, 9), (44, 10), (44, 11)], 0)
noncomputable def p62 : Pg := ([(71, 32, [some none, some (some (0, 12)), none, none, none], [(44, 5), (44, 6), (44, 7), (44, 8), (44, 9), (44, 10)], .inl 1, true)], [], [], ivG, [(44, 6), (44, 7), (44, 8), (44, 9), (44, 10), (44, 11)], none)
theorem k62 : chk p62 tbF 3000 c62 = true := by decide +kernel
theorem t62 {J : Jt} {X : Tok} {et : Nat → Option va_E} (hX : tOk X) (hH : HandT J X et) (hJ : JS DJ J) : ctrT ivG J X et c62 := ctr_ok (tb := tbF) (P := p62) (c := c62) (f := 3000) tbF_ok hX hJ (by decide) rfl rfl k62 ct0
/-- MSt_keen -/
noncomputable def c63 : Ctr := (72, [aR 44], some [aI (-9) 9], [], 2)
noncomputable def p63 : Pg := ([], [], [], ivG, [], none)
theorem k63 : chk p63 tbF 3000 c63 = true := by decide +kernel
theorem t63 {J : Jt} {X : Tok} {et : Nat → Option va_E} (hX : tOk X) (hH : HandT J X et) (hJ : JS DJ J) : ctrT ivG J X et c63 := ctr_ok (tb := tbF) (P := p63) (c := c63) (f := 3000) tbF_ok hX hJ (by decide) rfl rfl k63 ct0
/-- MSt_keenWith -/
noncomputable def c64 : Ctr := (73, [aR 44, aT, aT, aT], some [aI (-9) 9], [], 1)
noncomputable def p64 : Pg := ([], [], [], ivG, [], none)
theorem k64 : chk p64 tbF 3000 c64 = true := by decide +kernel
theorem t64 {J : Jt} {X : Tok} {et : Nat → Option va_E} (hX : tOk X) (hH : HandT J X et) (hJ : JS DJ J) : ctrT ivG J X et c64 := ctr_ok (tb := tbF) (P := p64) (c := c64) (f := 3000) tbF_ok hX hJ (by decide) rfl rfl k64 ct0
/-- MSt_screwPlace -/
noncomputable def c65 : Ctr := (74, [aR 44, aT, aT], some [aI (-2) 1818], [], 2)
noncomputable def p65 : Pg := ([(74, 3, [some none, some none, some none, some (some ((-9), 10)), none], [], .inl 3, true), (74, 13, [some none, some none, some none, some none, some (some ((-9), 10))], [], .inl 4, true)], [], [c64], ivG, [], none)
theorem k65 : chk p65 tbF 3000 c65 = true := by decide +kernel
theorem t65 {J : Jt} {X : Tok} {et : Nat → Option va_E} (hX : tOk X) (hH : HandT J X et) (hJ : JS DJ J) : ctrT ivG J X et c65 := ctr_ok (tb := tbF) (P := p65) (c := c65) (f := 3000) tbF_ok hX hJ (by decide) rfl rfl k65 (ct1 (t64 hX hH hJ) ct0)
/-- MSt_readLump -/
noncomputable def c66 : Ctr := (67, [aR 44, aR 1, aT], some [aI 0 1], [(1, 3), (45, 0), (46, 0), (47, 0)], 3)
noncomputable def p66 : Pg := ([], [], [c4, c5], ivG, [(1, 3), (45, 0), (46, 0), (47, 0)], none)
theorem k66 : chk p66 tbF 3000 c66 = true := by decide +kernel
theorem t66 {J : Jt} {X : Tok} {et : Nat → Option va_E} (hX : tOk X) (hH : HandT J X et) (hJ : JS DJ J) : ctrT ivG J X et c66 := ctr_ok (tb := tbF) (P := p66) (c := c66) (f := 3000) tbF_ok hX hJ (by decide) rfl rfl k66 (ct1 (t4 hX hH hJ) (ct1 (t5 hX hH hJ) ct0))
/-- MSt_readRate -/
noncomputable def c67 : Ctr := (69, [aR 44, aR 1, aT], some [aI 0 1], [(1, 3), (48, 0)], 3)
noncomputable def p67 : Pg := ([], [], [c6], ivG, [(1, 3), (48, 0)], none)
theorem k67 : chk p67 tbF 3000 c67 = true := by decide +kernel
theorem t67 {J : Jt} {X : Tok} {et : Nat → Option va_E} (hX : tOk X) (hH : HandT J X et) (hJ : JS DJ J) : ctrT ivG J X et c67 := ctr_ok (tb := tbF) (P := p67) (c := c67) (f := 3000) tbF_ok hX hJ (by decide) rfl rfl k67 (ct1 (t6 hX hH hJ) ct0)
/-- MSt_readFrom -/
noncomputable def c68 : Ctr := (66, [aR 44, aR 1], some [aI 0 1], [(1, 3), (44, 5), (44, 6), (44, 7), (44, 8), (44, 9), (44, 10), (44, 11), (45, 0), (46, 0), (47, 0), (48, 0)], 4)
noncomputable def p68 : Pg := ([(66, 9, [some none, some none, some (some (0, 1)), some (some (0, 12)), none], [(44, 4)], .inl 3, true), (66, 73, [some none, some none, some none, some (some (44, 47)), some (some (0, 4))], [], .inl 4, true)], [], [c4, c62, c66, c67], ivG, [(1, 3), (44, 5), (44, 6), (44, 7), (44, 8), (44, 9), (44, 10), (44, 11), (45, 0), (46, 0), (47, 0), (48, 0)], none)
theorem k68 : chk p68 tbF 3000 c68 = true := by decide +kernel
theorem t68 {J : Jt} {X : Tok} {et : Nat → Option va_E} (hX : tOk X) (hH : HandT J X et) (hJ : JS DJ J) : ctrT ivG J X et c68 := ctr_ok (tb := tbF) (P := p68) (c := c68) (f := 3000) tbF_ok hX hJ (by decide) rfl rfl k68 (ct1 (t4 hX hH hJ) (ct1 (t62 hX hH hJ) (ct1 (t66 hX hH hJ) (ct1 (t67 hX hH hJ) ct0))))
/-- MSt_measure -/
noncomputable def c69 : Ctr := (76, [aR 44, aT], some [aT], [], 3)
noncomputable def p69 : Pg := ([], [], [c63], ivG, [], none)
theorem k69 : chk p69 tbF 3000 c69 = true := by decide +kernel
theorem t69 {J : Jt} {X : Tok} {et : Nat → Option va_E} (hX : tOk X) (hH : HandT J X et) (hJ : JS DJ J) : ctrT ivG J X et c69 := ctr_ok (tb := tbF) (P := p69) (c := c69) (f := 3000) tbF_ok hX hJ (by decide) rfl rfl k69 (ct1 (t63 hX hH hJ) ct0)
/-- MSt_change -/
noncomputable def c70 : Ctr := (80, [aR 44, aT, aT], some [aT], [(44, 6), (44, 7), (44, 8), (44, 9), (44, 10), (44, 11), (45, 0), (48, 0)], 1)
noncomputable def p70 : Pg := ([], [], [c62], ivG, [(44, 6), (44, 7), (44, 8), (44, 9), (44, 10), (44, 11), (45, 0), (48, 0)], none)
theorem k70 : chk p70 tbF 3000 c70 = true := by decide +kernel
theorem t70 {J : Jt} {X : Tok} {et : Nat → Option va_E} (hX : tOk X) (hH : HandT J X et) (hJ : JS DJ J) : ctrT ivG J X et c70 := ctr_ok (tb := tbF) (P := p70) (c := c70) (f := 3000) tbF_ok hX hJ (by decide) rfl rfl k70 (ct1 (t62 hX hH hJ) ct0)
/-- MSt_rate -/
noncomputable def c71 : Ctr := (75, [aR 44, aT], some [aT], [], 0)
noncomputable def p71 : Pg := ([], [], [], ivG, [], none)
theorem k71 : chk p71 tbF 3000 c71 = true := by decide +kernel
theorem t71 {J : Jt} {X : Tok} {et : Nat → Option va_E} (hX : tOk X) (hH : HandT J X et) (hJ : JS DJ J) : ctrT ivG J X et c71 := ctr_ok (tb := tbF) (P := p71) (c := c71) (f := 3000) tbF_ok hX hJ (by decide) rfl rfl k71 ct0
/-- MSt_mayBecome -/
noncomputable def c72 : Ctr := (79, [aR 44, aT, aT], some [aI 0 1], [], 1)
noncomputable def p72 : Pg := ([], [], [], ivG, [], none)
theorem k72 : chk p72 tbF 3000 c72 = true := by decide +kernel
theorem t72 {J : Jt} {X : Tok} {et : Nat → Option va_E} (hX : tOk X) (hH : HandT J X et) (hJ : JS DJ J) : ctrT ivG J X et c72 := ctr_ok (tb := tbF) (P := p72) (c := c72) (f := 3000) tbF_ok hX hJ (by decide) rfl rfl k72 ct0
/-- MFl_append -/
noncomputable def c73 : Ctr := (27, [aR 49, aT, aT, aT], some [aI (-1) 120], [(49, 5), (50, 0), (51, 0), (52, 0)], 0)
noncomputable def p73 : Pg := ([], [], [], ivG, [(49, 5), (50, 0), (51, 0), (52, 0)], none)
theorem k73 : chk p73 tbF 3000 c73 = true := by decide +kernel
theorem t73 {J : Jt} {X : Tok} {et : Nat → Option va_E} (hX : tOk X) (hH : HandT J X et) (hJ : JS DJ J) : ctrT ivG J X et c73 := ctr_ok (tb := tbF) (P := p73) (c := c73) (f := 3000) tbF_ok hX hJ (by decide) rfl rfl k73 ct0
/-- MFl_appendNumber -/
noncomputable def c74 : Ctr := (28, [aR 49, aT], some [aI (-1) 120], [(49, 5), (50, 0), (51, 0), (52, 0), (53, 0)], 1)
noncomputable def p74 : Pg := ([], [], [c73], ivG, [(49, 5), (50, 0), (51, 0), (52, 0), (53, 0)], none)
theorem k74 : chk p74 tbF 3000 c74 = true := by decide +kernel
theorem t74 {J : Jt} {X : Tok} {et : Nat → Option va_E} (hX : tOk X) (hH : HandT J X et) (hJ : JS DJ J) : ctrT ivG J X et c74 := ctr_ok (tb := tbF) (P := p74) (c := c74) (f := 3000) tbF_ok hX hJ (by decide) rfl rfl k74 (ct1 (t73 hX hH hJ) ct0)
/-- readOne6 -/
noncomputable def c75 : Ctr := (25, [aR 49, aR 1, aI 6 6], some [aI (-1) 120], [(1, 3), (49, 5), (50, 0), (51, 0), (52, 0), (53, 0)], 3)
noncomputable def p75 : Pg := ([], [], [c3, c4, c6, c73, c74], ivG, [(1, 3), (49, 5), (50, 0), (51, 0), (52, 0), (53, 0)], none)
theorem k75 : chk p75 tbF 3000 c75 = true := by decide +kernel
theorem t75 {J : Jt} {X : Tok} {et : Nat → Option va_E} (hX : tOk X) (hH : HandT J X et) (hJ : JS DJ J) : ctrT ivG J X et c75 := ctr_ok (tb := tbF) (P := p75) (c := c75) (f := 3000) tbF_ok hX hJ (by decide) rfl rfl k75 (ct1 (t3 hX hH hJ) (ct1 (t4 hX hH hJ) (ct1 (t6 hX hH hJ) (ct1 (t73 hX hH hJ) (ct1 (t74 hX hH hJ) ct0)))))
/-- readJoined5_6 -/
noncomputable def c76 : Ctr := (23, [aR 49, aR 1, aI 5 5, aI 6 6], some [aI (-1) 120], [(1, 3), (49, 5), (50, 0), (51, 0), (52, 0), (53, 0)], 4)
noncomputable def p76 : Pg := ([], [], [c75], ivG, [(1, 3), (49, 5), (50, 0), (51, 0), (52, 0), (53, 0)], none)
theorem k76 : chk p76 tbF 3000 c76 = true := by decide +kernel
theorem t76 {J : Jt} {X : Tok} {et : Nat → Option va_E} (hX : tOk X) (hH : HandT J X et) (hJ : JS DJ J) : ctrT ivG J X et c76 := ctr_ok (tb := tbF) (P := p76) (c := c76) (f := 3000) tbF_ok hX hJ (by decide) rfl rfl k76 (ct1 (t75 hX hH hJ) ct0)
/-- readJoined4_6 -/
noncomputable def c77 : Ctr := (23, [aR 49, aR 1, aI 4 4, aI 6 6], some [aI (-1) 120], [(1, 3), (49, 5), (50, 0), (51, 0), (52, 0), (53, 0)], 5)
noncomputable def p77 : Pg := ([(23, 39, [some none, some none, some none, some none, some (some ((-1), 120)), some none, some (some (0, 120)), none, none], [], .inl 6, true)], [], [c3, c4, c73, c76], ivG, [(1, 3), (49, 5), (50, 0), (51, 0), (52, 0), (53, 0)], none)
theorem k77 : chk p77 tbF 3000 c77 = true := by decide +kernel
theorem t77 {J : Jt} {X : Tok} {et : Nat → Option va_E} (hX : tOk X) (hH : HandT J X et) (hJ : JS DJ J) : ctrT ivG J X et c77 := ctr_ok (tb := tbF) (P := p77) (c := c77) (f := 3000) tbF_ok hX hJ (by decide) rfl rfl k77 (ct1 (t3 hX hH hJ) (ct1 (t4 hX hH hJ) (ct1 (t73 hX hH hJ) (ct1 (t76 hX hH hJ) ct0))))
/-- readJoined3_6 -/
noncomputable def c78 : Ctr := (23, [aR 49, aR 1, aI 3 3, aI 6 6], some [aI (-1) 120], [(1, 3), (49, 5), (50, 0), (51, 0), (52, 0), (53, 0)], 6)
noncomputable def p78 : Pg := ([(23, 39, [some none, some none, some none, some none, some (some ((-1), 120)), some none, some (some (0, 120)), none, none], [], .inl 6, true)], [], [c3, c4, c73, c77], ivG, [(1, 3), (49, 5), (50, 0), (51, 0), (52, 0), (53, 0)], none)
theorem k78 : chk p78 tbF 3000 c78 = true := by decide +kernel
theorem t78 {J : Jt} {X : Tok} {et : Nat → Option va_E} (hX : tOk X) (hH : HandT J X et) (hJ : JS DJ J) : ctrT ivG J X et c78 := ctr_ok (tb := tbF) (P := p78) (c := c78) (f := 3000) tbF_ok hX hJ (by decide) rfl rfl k78 (ct1 (t3 hX hH hJ) (ct1 (t4 hX hH hJ) (ct1 (t73 hX hH hJ) (ct1 (t77 hX hH hJ) ct0))))
/-- readJoined2_6 -/
noncomputable def c79 : Ctr := (23, [aR 49, aR 1, aI 2 2, aI 6 6], some [aI (-1) 120], [(1, 3), (49, 5), (50, 0), (51, 0), (52, 0), (53, 0)], 7)
noncomputable def p79 : Pg := ([(23, 39, [some none, some none, some none, some none, some (some ((-1), 120)), some none, some (some (0, 1)), none, none], [], .inl 6, true)], [], [c3, c4, c73, c78], ivG, [(1, 3), (49, 5), (50, 0), (51, 0), (52, 0), (53, 0)], none)
theorem k79 : chk p79 tbF 3000 c79 = true := by decide +kernel
theorem t79 {J : Jt} {X : Tok} {et : Nat → Option va_E} (hX : tOk X) (hH : HandT J X et) (hJ : JS DJ J) : ctrT ivG J X et c79 := ctr_ok (tb := tbF) (P := p79) (c := c79) (f := 3000) tbF_ok hX hJ (by decide) rfl rfl k79 (ct1 (t3 hX hH hJ) (ct1 (t4 hX hH hJ) (ct1 (t73 hX hH hJ) (ct1 (t78 hX hH hJ) ct0))))
