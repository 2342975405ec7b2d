-- ===== contracts that the checker shows, 3
/-- MFl_name -/
noncomputable def c240 : Ctr := (29, [aR 59, aT, aT, aT, aT], none, [(59, 8), (59, 9), (59, 10), (59, 11)], 1)
noncomputable def p240 : Pg := ([], [], [], ivG, [(59, 8), (59, 9), (59, 10), (59, 11)], none)
theorem k240 : chk p240 tbF 3000 c240 = true := by decide +kernel
theorem t240 {J : Jt} {X : Tok} {et : Nat → Option va_E} (hX : tOk X) (hH : HandT J X et) (hJ : JS DJ J) : ctrT ivG J X et c240 := ctr_ok (tb := tbF) (P := p240) (c := c240) (f := 3000) tbF_ok hX hJ (by decide) rfl rfl k240 ct0
/-- MFl_append -/
noncomputable def c241 : Ctr := (27, [aR 64, aT, aT, aT], some [aI (-1) 120], [(64, 5), (65, 0), (66, 0), (67, 0)], 0)
noncomputable def p241 : Pg := ([], [], [], ivG, [(64, 5), (65, 0), (66, 0), (67, 0)], none)
theorem k241 : chk p241 tbF 3000 c241 = true := by decide +kernel
theorem t241 {J : Jt} {X : Tok} {et : Nat → Option va_E} (hX : tOk X) (hH : HandT J X et) (hJ : JS DJ J) : ctrT ivG J X et c241 := ctr_ok (tb := tbF) (P := p241) (c := c241) (f := 3000) tbF_ok hX hJ (by decide) rfl rfl k241 ct0
/-- MFl_appendNumber -/
noncomputable def c242 : Ctr := (28, [aR 64, aT], some [aI (-1) 120], [(64, 5), (65, 0), (66, 0), (67, 0), (68, 0)], 1)
noncomputable def p242 : Pg := ([], [], [c241], ivG, [(64, 5), (65, 0), (66, 0), (67, 0), (68, 0)], none)
theorem k242 : chk p242 tbF 3000 c242 = true := by decide +kernel
theorem t242 {J : Jt} {X : Tok} {et : Nat → Option va_E} (hX : tOk X) (hH : HandT J X et) (hJ : JS DJ J) : ctrT ivG J X et c242 := ctr_ok (tb := tbF) (P := p242) (c := c242) (f := 3000) tbF_ok hX hJ (by decide) rfl rfl k242 (ct1 (t241 hX hH hJ) ct0)
/-- readOne6 -/
noncomputable def c243 : Ctr := (25, [aR 64, aR 1, aI 6 6], some [aI (-1) 120], [(1, 3), (64, 5), (65, 0), (66, 0), (67, 0), (68, 0)], 3)
noncomputable def p243 : Pg := ([], [], [c3, c4, c6, c241, c242], ivG, [(1, 3), (64, 5), (65, 0), (66, 0), (67, 0), (68, 0)], none)
theorem k243 : chk p243 tbF 3000 c243 = true := by decide +kernel
theorem t243 {J : Jt} {X : Tok} {et : Nat → Option va_E} (hX : tOk X) (hH : HandT J X et) (hJ : JS DJ J) : ctrT ivG J X et c243 := ctr_ok (tb := tbF) (P := p243) (c := c243) (f := 3000) tbF_ok hX hJ (by decide) rfl rfl k243 (ct1 (t3 hX hH hJ) (ct1 (t4 hX hH hJ) (ct1 (t6 hX hH hJ) (ct1 (t241 hX hH hJ) (ct1 (t242 hX hH hJ) ct0)))))
/-- readJoined5_6 -/
noncomputable def c244 : Ctr := (23, [aR 64, aR 1, aI 5 5, aI 6 6], some [aI (-1) 120], [(1, 3), (64, 5), (65, 0), (66, 0), (67, 0), (68, 0)], 4)
noncomputable def p244 : Pg := ([], [], [c243], ivG, [(1, 3), (64, 5), (65, 0), (66, 0), (67, 0), (68, 0)], none)
theorem k244 : chk p244 tbF 3000 c244 = true := by decide +kernel
theorem t244 {J : Jt} {X : Tok} {et : Nat → Option va_E} (hX : tOk X) (hH : HandT J X et) (hJ : JS DJ J) : ctrT ivG J X et c244 := ctr_ok (tb := tbF) (P := p244) (c := c244) (f := 3000) tbF_ok hX hJ (by decide) rfl rfl k244 (ct1 (t243 hX hH hJ) ct0)
/-- readJoined4_6 -/
noncomputable def c245 : Ctr := (23, [aR 64, aR 1, aI 4 4, aI 6 6], some [aI (-1) 120], [(1, 3), (64, 5), (65, 0), (66, 0), (67, 0), (68, 0)], 5)
noncomputable def p245 : Pg := ([(23, 39, [some none, some none, some none, some none, some (some ((-1), 120)), some none, some (some (0, 120)), none, none], [], .inl 6, true)], [], [c3, c4, c241, c244], ivG, [(1, 3), (64, 5), (65, 0), (66, 0), (67, 0), (68, 0)], none)
theorem k245 : chk p245 tbF 3000 c245 = true := by decide +kernel
theorem t245 {J : Jt} {X : Tok} {et : Nat → Option va_E} (hX : tOk X) (hH : HandT J X et) (hJ : JS DJ J) : ctrT ivG J X et c245 := ctr_ok (tb := tbF) (P := p245) (c := c245) (f := 3000) tbF_ok hX hJ (by decide) rfl rfl k245 (ct1 (t3 hX hH hJ) (ct1 (t4 hX hH hJ) (ct1 (t241 hX hH hJ) (ct1 (t244 hX hH hJ) ct0))))
/-- readJoined3_6 -/
noncomputable def c246 : Ctr := (23, [aR 64, aR 1, aI 3 3, aI 6 6], some [aI (-1) 120], [(1, 3), (64, 5), (65, 0), (66, 0), (67, 0), (68, 0)], 6)
noncomputable def p246 : Pg := ([(23, 39, [some none, some none, some none, some none, some (some ((-1), 120)), some none, some (some (0, 120)), none, none], [], .inl 6, true)], [], [c3, c4, c241, c245], ivG, [(1, 3), (64, 5), (65, 0), (66, 0), (67, 0), (68, 0)], none)
theorem k246 : chk p246 tbF 3000 c246 = true := by decide +kernel
theorem t246 {J : Jt} {X : Tok} {et : Nat → Option va_E} (hX : tOk X) (hH : HandT J X et) (hJ : JS DJ J) : ctrT ivG J X et c246 := ctr_ok (tb := tbF) (P := p246) (c := c246) (f := 3000) tbF_ok hX hJ (by decide) rfl rfl k246 (ct1 (t3 hX hH hJ) (ct1 (t4 hX hH hJ) (ct1 (t241 hX hH hJ) (ct1 (t245 hX hH hJ) ct0))))
/-- readJoined2_6 -/
noncomputable def c247 : Ctr := (23, [aR 64, aR 1, aI 2 2, aI 6 6], some [aI (-1) 120], [(1, 3), (64, 5), (65, 0), (66, 0), (67, 0), (68, 0)], 7)
noncomputable def p247 : Pg := ([(23, 39, [some none, some none, some none, some none, some (some ((-1), 120)), some none, some (some (0, 1)), none, none], [], .inl 6, true)], [], [c3, c4, c241, c246], ivG, [(1, 3), (64, 5), (65, 0), (66, 0), (67, 0), (68, 0)], none)
theorem k247 : chk p247 tbF 3000 c247 = true := by decide +kernel
theorem t247 {J : Jt} {X : Tok} {et : Nat → Option va_E} (hX : tOk X) (hH : HandT J X et) (hJ : JS DJ J) : ctrT ivG J X et c247 := ctr_ok (tb := tbF) (P := p247) (c := c247) (f := 3000) tbF_ok hX hJ (by decide) rfl rfl k247 (ct1 (t3 hX hH hJ) (ct1 (t4 hX hH hJ) (ct1 (t241 hX hH hJ) (ct1 (t246 hX hH hJ) ct0))))
/-- readJoined1_6 -/
noncomputable def c248 : Ctr := (23, [aR 64, aR 1, aI 1 1, aI 6 6], some [aI (-1) 120], [(1, 3), (64, 5), (65, 0), (66, 0), (67, 0), (68, 0)], 8)
noncomputable def p248 : Pg := ([(23, 39, [some none, some none, some none, some none, some (some ((-1), 120)), some none, some (some (0, 120)), none, none], [], .inl 6, true)], [], [c3, c4, c241, c247], ivG, [(1, 3), (64, 5), (65, 0), (66, 0), (67, 0), (68, 0)], none)
theorem k248 : chk p248 tbF 3000 c248 = true := by decide +kernel
theorem t248 {J : Jt} {X : Tok} {et : Nat → Option va_E} (hX : tOk X) (hH : HandT J X et) (hJ : JS DJ J) : ctrT ivG J X et c248 := ctr_ok (tb := tbF) (P := p248) (c := c248) (f := 3000) tbF_ok hX hJ (by decide) rfl rfl k248 (ct1 (t3 hX hH hJ) (ct1 (t4 hX hH hJ) (ct1 (t241 hX hH hJ) (ct1 (t247 hX hH hJ) ct0))))
/-- readJoined0_6 -/
noncomputable def c249 : Ctr := (23, [aR 64, aR 1, aI 0 0, aI 6 6], some [aI (-1) 120], [(1, 3), (64, 5), (65, 0), (66, 0), (67, 0), (68, 0)], 9)
noncomputable def p249 : Pg := ([(23, 39, [some none, some none, some none, some none, some (some ((-1), 120)), some none, some (some (0, 120)), none, none], [], .inl 6, true)], [], [c3, c4, c241, c248], ivG, [(1, 3), (64, 5), (65, 0), (66, 0), (67, 0), (68, 0)], none)
theorem k249 : chk p249 tbF 3000 c249 = true := by decide +kernel
theorem t249 {J : Jt} {X : Tok} {et : Nat → Option va_E} (hX : tOk X) (hH : HandT J X et) (hJ : JS DJ J) : ctrT ivG J X et c249 := ctr_ok (tb := tbF) (P := p249) (c := c249) (f := 3000) tbF_ok hX hJ (by decide) rfl rfl k249 (ct1 (t3 hX hH hJ) (ct1 (t4 hX hH hJ) (ct1 (t241 hX hH hJ) (ct1 (t248 hX hH hJ) ct0))))
/-- readOne5 -/
noncomputable def c250 : Ctr := (25, [aR 64, aR 1, aI 5 5], some [aI (-1) 120], [(1, 3), (64, 5), (65, 0), (66, 0), (67, 0), (68, 0)], 11)
noncomputable def p250 : Pg := ([], [], [c3, c4, c6, c241, c242, c243, c249], ivG, [(1, 3), (64, 5), (65, 0), (66, 0), (67, 0), (68, 0)], none)
theorem k250 : chk p250 tbF 3000 c250 = true := by decide +kernel
theorem t250 {J : Jt} {X : Tok} {et : Nat → Option va_E} (hX : tOk X) (hH : HandT J X et) (hJ : JS DJ J) : ctrT ivG J X et c250 := ctr_ok (tb := tbF) (P := p250) (c := c250) (f := 3000) tbF_ok hX hJ (by decide) rfl rfl k250 (ct1 (t3 hX hH hJ) (ct1 (t4 hX hH hJ) (ct1 (t6 hX hH hJ) (ct1 (t241 hX hH hJ) (ct1 (t242 hX hH hJ) (ct1 (t243 hX hH hJ) (ct1 (t249 hX hH hJ) ct0)))))))
/-- readJoined5_5 -/
noncomputable def c251 : Ctr := (23, [aR 64, aR 1, aI 5 5, aI 5 5], some [aI (-1) 120], [(1, 3), (64, 5), (65, 0), (66, 0), (67, 0), (68, 0)], 12)
noncomputable def p251 : Pg := ([], [], [c250], ivG, [(1, 3), (64, 5), (65, 0), (66, 0), (67, 0), (68, 0)], none)
theorem k251 : chk p251 tbF 3000 c251 = true := by decide +kernel
theorem t251 {J : Jt} {X : Tok} {et : Nat → Option va_E} (hX : tOk X) (hH : HandT J X et) (hJ : JS DJ J) : ctrT ivG J X et c251 := ctr_ok (tb := tbF) (P := p251) (c := c251) (f := 3000) tbF_ok hX hJ (by decide) rfl rfl k251 (ct1 (t250 hX hH hJ) ct0)
/-- readJoined4_5 -/
noncomputable def c252 : Ctr := (23, [aR 64, aR 1, aI 4 4, aI 5 5], some [aI (-1) 120], [(1, 3), (64, 5), (65, 0), (66, 0), (67, 0), (68, 0)], 13)
noncomputable def p252 : Pg := ([(23, 39, [some none, some none, some none, some none, some (some ((-1), 120)), some none, some (some (0, 120)), none, none], [], .inl 6, true)], [], [c3, c4, c241, c251], ivG, [(1, 3), (64, 5), (65, 0), (66, 0), (67, 0), (68, 0)], none)
theorem k252 : chk p252 tbF 3000 c252 = true := by decide +kernel
theorem t252 {J : Jt} {X : Tok} {et : Nat → Option va_E} (hX : tOk X) (hH : HandT J X et) (hJ : JS DJ J) : ctrT ivG J X et c252 := ctr_ok (tb := tbF) (P := p252) (c := c252) (f := 3000) tbF_ok hX hJ (by decide) rfl rfl k252 (ct1 (t3 hX hH hJ) (ct1 (t4 hX hH hJ) (ct1 (t241 hX hH hJ) (ct1 (t251 hX hH hJ) ct0))))
/-- readJoined3_5 -/
noncomputable def c253 : Ctr := (23, [aR 64, aR 1, aI 3 3, aI 5 5], some [aI (-1) 120], [(1, 3), (64, 5), (65, 0), (66, 0), (67, 0), (68, 0)], 14)
noncomputable def p253 : Pg := ([(23, 39, [some none, some none, some none, some none, some (some ((-1), 120)), some none, some (some (0, 120)), none, none], [], .inl 6, true)], [], [c3, c4, c241, c252], ivG, [(1, 3), (64, 5), (65, 0), (66, 0), (67, 0), (68, 0)], none)
theorem k253 : chk p253 tbF 3000 c253 = true := by decide +kernel
theorem t253 {J : Jt} {X : Tok} {et : Nat → Option va_E} (hX : tOk X) (hH : HandT J X et) (hJ : JS DJ J) : ctrT ivG J X et c253 := ctr_ok (tb := tbF) (P := p253) (c := c253) (f := 3000) tbF_ok hX hJ (by decide) rfl rfl k253 (ct1 (t3 hX hH hJ) (ct1 (t4 hX hH hJ) (ct1 (t241 hX hH hJ) (ct1 (t252 hX hH hJ) ct0))))
/-- readJoined2_5 -/
noncomputable def c254 : Ctr := (23, [aR 64, aR 1, aI 2 2, aI 5 5], some [aI (-1) 120], [(1, 3), (64, 5), (65, 0), (66, 0), (67, 0), (68, 0)], 15)
noncomputable def p254 : Pg := ([(23, 39, [some none, some none, some none, some none, some (some ((-1), 120)), some none, some (some (0, 1)), none, none], [], .inl 6, true)], [], [c3, c4, c241, c253], ivG, [(1, 3), (64, 5), (65, 0), (66, 0), (67, 0), (68, 0)], none)
theorem k254 : chk p254 tbF 3000 c254 = true := by decide +kernel
theorem t254 {J : Jt} {X : Tok} {et : Nat → Option va_E} (hX : tOk X) (hH : HandT J X et) (hJ : JS DJ J) : ctrT ivG J X et c254 := ctr_ok (tb := tbF) (P := p254) (c := c254) (f := 3000) tbF_ok hX hJ (by decide) rfl rfl k254 (ct1 (t3 hX hH hJ) (ct1 (t4 hX hH hJ) (ct1 (t241 hX hH hJ) (ct1 (t253 hX hH hJ) ct0))))
/-- readJoined1_5 -/
noncomputable def c255 : Ctr := (23, [aR 64, aR 1, aI 1 1, aI 5 5], some [aI (-1) 120], [(1, 3), (64, 5), (65, 0), (66, 0), (67, 0), (68, 0)], 16)
noncomputable def p255 : Pg := ([(23, 39, [some none, some none, some none, some none, some (some ((-1), 120)), some none, some (some (0, 120)), none, none], [], .inl 6, true)], [], [c3, c4, c241, c254], ivG, [(1, 3), (64, 5), (65, 0), (66, 0), (67, 0), (68, 0)], none)
theorem k255 : chk p255 tbF 3000 c255 = true := by decide +kernel
theorem t255 {J : Jt} {X : Tok} {et : Nat → Option va_E} (hX : tOk X) (hH : HandT J X et) (hJ : JS DJ J) : ctrT ivG J X et c255 := ctr_ok (tb := tbF) (P := p255) (c := c255) (f := 3000) tbF_ok hX hJ (by decide) rfl rfl k255 (ct1 (t3 hX hH hJ) (ct1 (t4 hX hH hJ) (ct1 (t241 hX hH hJ) (ct1 (t254 hX hH hJ) ct0))))
/-- readJoined0_5 -/
noncomputable def c256 : Ctr := (23, [aR 64, aR 1, aI 0 0, aI 5 5], some [aI (-1) 120], [(1, 3), (64, 5), (65, 0), (66, 0), (67, 0), (68, 0)], 17)
noncomputable def p256 : Pg := ([(23, 39, [some none, some none, some none, some none, some (some ((-1), 120)), some none, some (some (0, 120)), none, none], [], .inl 6, true)], [], [c3, c4, c241, c255], ivG, [(1, 3), (64, 5), (65, 0), (66, 0), (67, 0), (68, 0)], none)
theorem k256 : chk p256 tbF 3000 c256 = true := by decide +kernel
theorem t256 {J : Jt} {X : Tok} {et : Nat → Option va_E} (hX : tOk X) (hH : HandT J X et) (hJ : JS DJ J) : ctrT ivG J X et c256 := ctr_ok (tb := tbF) (P := p256) (c := c256) (f := 3000) tbF_ok hX hJ (by decide) rfl rfl k256 (ct1 (t3 hX hH hJ) (ct1 (t4 hX hH hJ) (ct1 (t241 hX hH hJ) (ct1 (t255 hX hH hJ) ct0))))
/-- readOne4 -/
noncomputable def c257 : Ctr := (25, [aR 64, aR 1, aI 4 4], some [aI (-1) 120], [(1, 3), (64, 5), (65, 0), (66, 0), (67, 0), (68, 0)], 19)
noncomputable def p257 : Pg := ([], [], [c3, c4, c6, c241, c242, c250, c256], ivG, [(1, 3), (64, 5), (65, 0), (66, 0), (67, 0), (68, 0)], none)
theorem k257 : chk p257 tbF 3000 c257 = true := by decide +kernel
theorem t257 {J : Jt} {X : Tok} {et : Nat → Option va_E} (hX : tOk X) (hH : HandT J X et) (hJ : JS DJ J) : ctrT ivG J X et c257 := ctr_ok (tb := tbF) (P := p257) (c := c257) (f := 3000) tbF_ok hX hJ (by decide) rfl rfl k257 (ct1 (t3 hX hH hJ) (ct1 (t4 hX hH hJ) (ct1 (t6 hX hH hJ) (ct1 (t241 hX hH hJ) (ct1 (t242 hX hH hJ) (ct1 (t250 hX hH hJ) (ct1 (t256 hX hH hJ) ct0)))))))
/-- readJoined5_4 -/
noncomputable def c258 : Ctr := (23, [aR 64, aR 1, aI 5 5, aI 4 4], some [aI (-1) 120], [(1, 3), (64, 5), (65, 0), (66, 0), (67, 0), (68, 0)], 20)
noncomputable def p258 : Pg := ([], [], [c257], ivG, [(1, 3), (64, 5), (65, 0), (66, 0), (67, 0), (68, 0)], none)
theorem k258 : chk p258 tbF 3000 c258 = true := by decide +kernel
theorem t258 {J : Jt} {X : Tok} {et : Nat → Option va_E} (hX : tOk X) (hH : HandT J X et) (hJ : JS DJ J) : ctrT ivG J X et c258 := ctr_ok (tb := tbF) (P := p258) (c := c258) (f := 3000) tbF_ok hX hJ (by decide) rfl rfl k258 (ct1 (t257 hX hH hJ) ct0)
/-- readJoined4_4 -/
noncomputable def c259 : Ctr := (23, [aR 64, aR 1, aI 4 4, aI 4 4], some [aI (-1) 120], [(1, 3), (64, 5), (65, 0), (66, 0), (67, 0), (68, 0)], 21)
noncomputable def p259 : Pg := ([(23, 39, [some none, some none, some none, some none, some (some ((-1), 120)), some none, some (some (0, 120)), none, none], [], .inl 6, true)], [], [c3, c4, c241, c258], ivG, [(1, 3), (64, 5), (65, 0), (66, 0), (67, 0), (68, 0)], none)
theorem k259 : chk p259 tbF 3000 c259 = true := by decide +kernel
theorem t259 {J : Jt} {X : Tok} {et : Nat → Option va_E} (hX : tOk X) (hH : HandT J X et) (hJ : JS DJ J) : ctrT ivG J X et c259 := ctr_ok (tb := tbF) (P := p259) (c := c259) (f := 3000) tbF_ok hX hJ (by decide) rfl rfl k259 (ct1 (t3 hX hH hJ) (ct1 (t4 hX hH hJ) (ct1 (t241 hX hH hJ) (ct1 (t258 hX hH hJ) ct0))))
/-- readJoined3_4 -/
noncomputable def c260 : Ctr := (23, [aR 64, aR 1, aI 3 3, aI 4 4], some [aI (-1) 120], [(1, 3), (64, 5), (65, 0), (66, 0), (67, 0), (68, 0)], 22)
noncomputable def p260 : Pg := ([(23, 39, [some none, some none, some none, some none, some (some ((-1), 120)), some none, some (some (0, 120)), none, none], [], .inl 6, true)], [], [c3, c4, c241, c259], ivG, [(1, 3), (64, 5), (65, 0), (66, 0), (67, 0), (68, 0)], none)
theorem k260 : chk p260 tbF 3000 c260 = true := by decide +kernel
theorem t260 {J : Jt} {X : Tok} {et : Nat → Option va_E} (hX : tOk X) (hH : HandT J X et) (hJ : JS DJ J) : ctrT ivG J X et c260 := ctr_ok (tb := tbF) (P := p260) (c := c260) (f := 3000) tbF_ok hX hJ (by decide) rfl rfl k260 (ct1 (t3 hX hH hJ) (ct1 (t4 hX hH hJ) (ct1 (t241 hX hH hJ) (ct1 (t259 hX hH hJ) ct0))))
/-- readJoined2_4 -/
noncomputable def c261 : Ctr := (23, [aR 64, aR 1, aI 2 2, aI 4 4], some [aI (-1) 120], [(1, 3), (64, 5), (65, 0), (66, 0), (67, 0), (68, 0)], 23)
noncomputable def p261 : Pg := ([(23, 39, [some none, some none, some none, some none, some (some ((-1), 120)), some none, some (some (0, 1)), none, none], [], .inl 6, true)], [], [c3, c4, c241, c260], ivG, [(1, 3), (64, 5), (65, 0), (66, 0), (67, 0), (68, 0)], none)
theorem k261 : chk p261 tbF 3000 c261 = true := by decide +kernel
theorem t261 {J : Jt} {X : Tok} {et : Nat → Option va_E} (hX : tOk X) (hH : HandT J X et) (hJ : JS DJ J) : ctrT ivG J X et c261 := ctr_ok (tb := tbF) (P := p261) (c := c261) (f := 3000) tbF_ok hX hJ (by decide) rfl rfl k261 (ct1 (t3 hX hH hJ) (ct1 (t4 hX hH hJ) (ct1 (t241 hX hH hJ) (ct1 (t260 hX hH hJ) ct0))))
/-- readJoined1_4 -/
noncomputable def c262 : Ctr := (23, [aR 64, aR 1, aI 1 1, aI 4 4], some [aI (-1) 120], [(1, 3), (64, 5), (65, 0), (66, 0), (67, 0), (68, 0)], 24)
noncomputable def p262 : Pg := ([(23, 39, [some none, some none, some none, some none, some (some ((-1), 120)), some none, some (some (0, 120)), none, none], [], .inl 6, true)], [], [c3, c4, c241, c261], ivG, [(1, 3), (64, 5), (65, 0), (66, 0), (67, 0), (68, 0)], none)
theorem k262 : chk p262 tbF 3000 c262 = true := by decide +kernel
theorem t262 {J : Jt} {X : Tok} {et : Nat → Option va_E} (hX : tOk X) (hH : HandT J X et) (hJ : JS DJ J) : ctrT ivG J X et c262 := ctr_ok (tb := tbF) (P := p262) (c := c262) (f := 3000) tbF_ok hX hJ (by decide) rfl rfl k262 (ct1 (t3 hX hH hJ) (ct1 (t4 hX hH hJ) (ct1 (t241 hX hH hJ) (ct1 (t261 hX hH hJ) ct0))))
/-- readJoined0_4 -/
noncomputable def c263 : Ctr := (23, [aR 64, aR 1, aI 0 0, aI 4 4], some [aI (-1) 120], [(1, 3), (64, 5), (65, 0), (66, 0), (67, 0), (68, 0)], 25)
noncomputable def p263 : Pg := ([(23, 39, [some none, some none, some none, some none, some (some ((-1), 120)), some none, some (some (0, 120)), none, none], [], .inl 6, true)], [], [c3, c4, c241, c262], ivG, [(1, 3), (64, 5), (65, 0), (66, 0), (67, 0), (68, 0)], none)
theorem k263 : chk p263 tbF 3000 c263 = true := by decide +kernel
theorem t263 {J : Jt} {X : Tok} {et : Nat → Option va_E} (hX : tOk X) (hH : HandT J X et) (hJ : JS DJ J) : ctrT ivG J X et c263 := ctr_ok (tb := tbF) (P := p263) (c := c263) (f := 3000) tbF_ok hX hJ (by decide) rfl rfl k263 (ct1 (t3 hX hH hJ) (ct1 (t4 hX hH hJ) (ct1 (t241 hX hH hJ) (ct1 (t262 hX hH hJ) ct0))))
/-- readOne3 -/
noncomputable def c264 : Ctr := (25, [aR 64, aR 1, aI 3 3], some [aI (-1) 120], [(1, 3), (64, 5), (65, 0), (66, 0), (67, 0), (68, 0)], 27)
noncomputable def p264 : Pg := ([], [], [c3, c4, c6, c241, c242, c257, c263], ivG, [(1, 3), (64, 5), (65, 0), (66, 0), (67, 0), (68, 0)], none)
theorem k264 : chk p264 tbF 3000 c264 = true := by decide +kernel
theorem t264 {J : Jt} {X : Tok} {et : Nat → Option va_E} (hX : tOk X) (hH : HandT J X et) (hJ : JS DJ J) : ctrT ivG J X et c264 := ctr_ok (tb := tbF) (P := p264) (c := c264) (f := 3000) tbF_ok hX hJ (by decide) rfl rfl k264 (ct1 (t3 hX hH hJ) (ct1 (t4 hX hH hJ) (ct1 (t6 hX hH hJ) (ct1 (t241 hX hH hJ) (ct1 (t242 hX hH hJ) (ct1 (t257 hX hH hJ) (ct1 (t263 hX hH hJ) ct0)))))))
/-- readJoined5_3 -/
noncomputable def c265 : Ctr := (23, [aR 64, aR 1, aI 5 5, aI 3 3], some [aI (-1) 120], [(1, 3), (64, 5), (65, 0), (66, 0), (67, 0), (68, 0)], 28)
noncomputable def p265 : Pg := ([], [], [c264], ivG, [(1, 3), (64, 5), (65, 0), (66, 0), (67, 0), (68, 0)], none)
theorem k265 : chk p265 tbF 3000 c265 = true := by decide +kernel
theorem t265 {J : Jt} {X : Tok} {et : Nat → Option va_E} (hX : tOk X) (hH : HandT J X et) (hJ : JS DJ J) : ctrT ivG J X et c265 := ctr_ok (tb := tbF) (P := p265) (c := c265) (f := 3000) tbF_ok hX hJ (by decide) rfl rfl k265 (ct1 (t264 hX hH hJ) ct0)
/-- readJoined4_3 -/
noncomputable def c266 : Ctr := (23, [aR 64, aR 1, aI 4 4, aI 3 3], some [aI (-1) 120], [(1, 3), (64, 5), (65, 0), (66, 0), (67, 0), (68, 0)], 29)
noncomputable def p266 : Pg := ([(23, 39, [some none, some none, some none, some none, some (some ((-1), 120)), some none, some (some (0, 120)), none, none], [], .inl 6, true)], [], [c3, c4, c241, c265], ivG, [(1, 3), (64, 5), (65, 0), (66, 0), (67, 0), (68, 0)], none)
theorem k266 : chk p266 tbF 3000 c266 = true := by decide +kernel
theorem t266 {J : Jt} {X : Tok} {et : Nat → Option va_E} (hX : tOk X) (hH : HandT J X et) (hJ : JS DJ J) : ctrT ivG J X et c266 := ctr_ok (tb := tbF) (P := p266) (c := c266) (f := 3000) tbF_ok hX hJ (by decide) rfl rfl k266 (ct1 (t3 hX hH hJ) (ct1 (t4 hX hH hJ) (ct1 (t241 hX hH hJ) (ct1 (t265 hX hH hJ) ct0))))
/-- readJoined3_3 -/
noncomputable def c267 : Ctr := (23, [aR 64, aR 1, aI 3 3, aI 3 3], some [aI (-1) 120], [(1, 3), (64, 5), (65, 0), (66, 0), (67, 0), (68, 0)], 30)
noncomputable def p267 : Pg := ([(23, 39, [some none, some none, some none, some none, some (some ((-1), 120)), some none, some (some (0, 120)), none, none], [], .inl 6, true)], [], [c3, c4, c241, c266], ivG, [(1, 3), (64, 5), (65, 0), (66, 0), (67, 0), (68, 0)], none)
theorem k267 : chk p267 tbF 3000 c267 = true := by decide +kernel
theorem t267 {J : Jt} {X : Tok} {et : Nat → Option va_E} (hX : tOk X) (hH : HandT J X et) (hJ : JS DJ J) : ctrT ivG J X et c267 := ctr_ok (tb := tbF) (P := p267) (c := c267) (f := 3000) tbF_ok hX hJ (by decide) rfl rfl k267 (ct1 (t3 hX hH hJ) (ct1 (t4 hX hH hJ) (ct1 (t241 hX hH hJ) (ct1 (t266 hX hH hJ) ct0))))
/-- readJoined2_3 -/
noncomputable def c268 : Ctr := (23, [aR 64, aR 1, aI 2 2, aI 3 3], some [aI (-1) 120], [(1, 3), (64, 5), (65, 0), (66, 0), (67, 0), (68, 0)], 31)
noncomputable def p268 : Pg := ([(23, 39, [some none, some none, some none, some none, some (some ((-1), 120)), some none, some (some (0, 1)), none, none], [], .inl 6, true)], [], [c3, c4, c241, c267], ivG, [(1, 3), (64, 5), (65, 0), (66, 0), (67, 0), (68, 0)], none)
theorem k268 : chk p268 tbF 3000 c268 = true := by decide +kernel
theorem t268 {J : Jt} {X : Tok} {et : Nat → Option va_E} (hX : tOk X) (hH : HandT J X et) (hJ : JS DJ J) : ctrT ivG J X et c268 := ctr_ok (tb := tbF) (P := p268) (c := c268) (f := 3000) tbF_ok hX hJ (by decide) rfl rfl k268 (ct1 (t3 hX hH hJ) (ct1 (t4 hX hH hJ) (ct1 (t241 hX hH hJ) (ct1 (t267 hX hH hJ) ct0))))
/-- readJoined1_3 -/
noncomputable def c269 : Ctr := (23, [aR 64, aR 1, aI 1 1, aI 3 3], some [aI (-1) 120], [(1, 3), (64, 5), (65, 0), (66, 0), (67, 0), (68, 0)], 32)
noncomputable def p269 : Pg := ([(23, 39, [some none, some none, some none, some none, some (some ((-1), 120)), some none, some (some (0, 120)), none, none], [], .inl 6, true)], [], [c3, c4, c241, c268], ivG, [(1, 3), (64, 5), (65, 0), (66, 0), (67, 0), (68, 0)], none)
theorem k269 : chk p269 tbF 3000 c269 = true := by decide +kernel
theorem t269 {J : Jt} {X : Tok} {et : Nat → Option va_E} (hX : tOk X) (hH : HandT J X et) (hJ : JS DJ J) : ctrT ivG J X et c269 := ctr_ok (tb := tbF) (P := p269) (c := c269) (f := 3000) tbF_ok hX hJ (by decide) rfl rfl k269 (ct1 (t3 hX hH hJ) (ct1 (t4 hX hH hJ) (ct1 (t241 hX hH hJ) (ct1 (t268 hX hH hJ) ct0))))
/-- readJoined0_3 -/
noncomputable def c270 : Ctr := (23, [aR 64, aR 1, aI 0 0, aI 3 3], some [aI (-1) 120], [(1, 3), (64, 5), (65, 0), (66, 0), (67, 0), (68, 0)], 33)
noncomputable def p270 : Pg := ([(23, 39, [some none, some none, some none, some none, some (some ((-1), 120)), some none, some (some (0, 120)), none, none], [], .inl 6, true)], [], [c3, c4, c241, c269], ivG, [(1, 3), (64, 5), (65, 0), (66, 0), (67, 0), (68, 0)], none)
theorem k270 : chk p270 tbF 3000 c270 = true := by decide +kernel
theorem t270 {J : Jt} {X : Tok} {et : Nat → Option va_E} (hX : tOk X) (hH : HandT J X et) (hJ : JS DJ J) : ctrT ivG J X et c270 := ctr_ok (tb := tbF) (P := p270) (c := c270) (f := 3000) tbF_ok hX hJ (by decide) rfl rfl k270 (ct1 (t3 hX hH hJ) (ct1 (t4 hX hH hJ) (ct1 (t241 hX hH hJ) (ct1 (t269 hX hH hJ) ct0))))
/-- readOne2 -/
noncomputable def c271 : Ctr := (25, [aR 64, aR 1, aI 2 2], some [aI (-1) 120], [(1, 3), (64, 5), (65, 0), (66, 0), (67, 0), (68, 0)], 35)
noncomputable def p271 : Pg := ([], [], [c3, c4, c6, c241, c242, c264, c270], ivG, [(1, 3), (64, 5), (65, 0), (66, 0), (67, 0), (68, 0)], none)
theorem k271 : chk p271 tbF 3000 c271 = true := by decide +kernel
theorem t271 {J : Jt} {X : Tok} {et : Nat → Option va_E} (hX : tOk X) (hH : HandT J X et) (hJ : JS DJ J) : ctrT ivG J X et c271 := ctr_ok (tb := tbF) (P := p271) (c := c271) (f := 3000) tbF_ok hX hJ (by decide) rfl rfl k271 (ct1 (t3 hX hH hJ) (ct1 (t4 hX hH hJ) (ct1 (t6 hX hH hJ) (ct1 (t241 hX hH hJ) (ct1 (t242 hX hH hJ) (ct1 (t264 hX hH hJ) (ct1 (t270 hX hH hJ) ct0)))))))
/-- readJoined5_2 -/
noncomputable def c272 : Ctr := (23, [aR 64, aR 1, aI 5 5, aI 2 2], some [aI (-1) 120], [(1, 3), (64, 5), (65, 0), (66, 0), (67, 0), (68, 0)], 36)
noncomputable def p272 : Pg := ([], [], [c271], ivG, [(1, 3), (64, 5), (65, 0), (66, 0), (67, 0), (68, 0)], none)
theorem k272 : chk p272 tbF 3000 c272 = true := by decide +kernel
theorem t272 {J : Jt} {X : Tok} {et : Nat → Option va_E} (hX : tOk X) (hH : HandT J X et) (hJ : JS DJ J) : ctrT ivG J X et c272 := ctr_ok (tb := tbF) (P := p272) (c := c272) (f := 3000) tbF_ok hX hJ (by decide) rfl rfl k272 (ct1 (t271 hX hH hJ) ct0)
/-- readJoined4_2 -/
noncomputable def c273 : Ctr := (23, [aR 64, aR 1, aI 4 4, aI 2 2], some [aI (-1) 120], [(1, 3), (64, 5), (65, 0), (66, 0), (67, 0), (68, 0)], 37)
noncomputable def p273 : Pg := ([(23, 39, [some none, some none, some none, some none, some (some ((-1), 120)), some none, some (some (0, 120)), none, none], [], .inl 6, true)], [], [c3, c4, c241, c272], ivG, [(1, 3), (64, 5), (65, 0), (66, 0), (67, 0), (68, 0)], none)
theorem k273 : chk p273 tbF 3000 c273 = true := by decide +kernel
theorem t273 {J : Jt} {X : Tok} {et : Nat → Option va_E} (hX : tOk X) (hH : HandT J X et) (hJ : JS DJ J) : ctrT ivG J X et c273 := ctr_ok (tb := tbF) (P := p273) (c := c273) (f := 3000) tbF_ok hX hJ (by decide) rfl rfl k273 (ct1 (t3 hX hH hJ) (ct1 (t4 hX hH hJ) (ct1 (t241 hX hH hJ) (ct1 (t272 hX hH hJ) ct0))))
/-- readJoined3_2 -/
noncomputable def c274 : Ctr := (23, [aR 64, aR 1, aI 3 3, aI 2 2], some [aI (-1) 120], [(1, 3), (64, 5), (65, 0), (66, 0), (67, 0), (68, 0)], 38)
noncomputable def p274 : Pg := ([(23, 39, [some none, some none, some none, some none, some (some ((-1), 120)), some none, some (some (0, 120)), none, none], [], .inl 6, true)], [], [c3, c4, c241, c273], ivG, [(1, 3), (64, 5), (65, 0), (66, 0), (67, 0), (68, 0)], none)
theorem k274 : chk p274 tbF 3000 c274 = true := by decide +kernel
theorem t274 {J : Jt} {X : Tok} {et : Nat → Option va_E} (hX : tOk X) (hH : HandT J X et) (hJ : JS DJ J) : ctrT ivG J X et c274 := ctr_ok (tb := tbF) (P := p274) (c := c274) (f := 3000) tbF_ok hX hJ (by decide) rfl rfl k274 (ct1 (t3 hX hH hJ) (ct1 (t4 hX hH hJ) (ct1 (t241 hX hH hJ) (ct1 (t273 hX hH hJ) ct0))))
/-- readJoined2_2 -/
noncomputable def c275 : Ctr := (23, [aR 64, aR 1, aI 2 2, aI 2 2], some [aI (-1) 120], [(1, 3), (64, 5), (65, 0), (66, 0), (67, 0), (68, 0)], 39)
noncomputable def p275 : Pg := ([(23, 39, [some none, some none, some none, some none, some (some ((-1), 120)), some none, some (some (0, 1)), none, none], [], .inl 6, true)], [], [c3, c4, c241, c274], ivG, [(1, 3), (64, 5), (65, 0), (66, 0), (67, 0), (68, 0)], none)
theorem k275 : chk p275 tbF 3000 c275 = true := by decide +kernel
theorem t275 {J : Jt} {X : Tok} {et : Nat → Option va_E} (hX : tOk X) (hH : HandT J X et) (hJ : JS DJ J) : ctrT ivG J X et c275 := ctr_ok (tb := tbF) (P := p275) (c := c275) (f := 3000) tbF_ok hX hJ (by decide) rfl rfl k275 (ct1 (t3 hX hH hJ) (ct1 (t4 hX hH hJ) (ct1 (t241 hX hH hJ) (ct1 (t274 hX hH hJ) ct0))))
/-- readJoined1_2 -/
noncomputable def c276 : Ctr := (23, [aR 64, aR 1, aI 1 1, aI 2 2], some [aI (-1) 120], [(1, 3), (64, 5), (65, 0), (66, 0), (67, 0), (68, 0)], 40)
noncomputable def p276 : Pg := ([(23, 39, [some none, some none, some none, some none, some (some ((-1), 120)), some none, some (some (0, 120)), none, none], [], .inl 6, true)], [], [c3, c4, c241, c275], ivG, [(1, 3), (64, 5), (65, 0), (66, 0), (67, 0), (68, 0)], none)
theorem k276 : chk p276 tbF 3000 c276 = true := by decide +kernel
theorem t276 {J : Jt} {X : Tok} {et : Nat → Option va_E} (hX : tOk X) (hH : HandT J X et) (hJ : JS DJ J) : ctrT ivG J X et c276 := ctr_ok (tb := tbF) (P := p276) (c := c276) (f := 3000) tbF_ok hX hJ (by decide) rfl rfl k276 (ct1 (t3 hX hH hJ) (ct1 (t4 hX hH hJ) (ct1 (t241 hX hH hJ) (ct1 (t275 hX hH hJ) ct0))))
/-- readJoined0_2 -/
noncomputable def c277 : Ctr := (23, [aR 64, aR 1, aI 0 0, aI 2 2], some [aI (-1) 120], [(1, 3), (64, 5), (65, 0), (66, 0), (67, 0), (68, 0)], 41)
noncomputable def p277 : Pg := ([(23, 39, [some none, some none, some none, some none, some (some ((-1), 120)), some none, some (some (0, 120)), none, none], [], .inl 6, true)], [], [c3, c4, c241, c276], ivG, [(1, 3), (64, 5), (65, 0), (66, 0), (67, 0), (68, 0)], none)
theorem k277 : chk p277 tbF 3000 c277 = true := by decide +kernel
theorem t277 {J : Jt} {X : Tok} {et : Nat → Option va_E} (hX : tOk X) (hH : HandT J X et) (hJ : JS DJ J) : ctrT ivG J X et c277 := ctr_ok (tb := tbF) (P := p277) (c := c277) (f := 3000) tbF_ok hX hJ (by decide) rfl rfl k277 (ct1 (t3 hX hH hJ) (ct1 (t4 hX hH hJ) (ct1 (t241 hX hH hJ) (ct1 (t276 hX hH hJ) ct0))))
/-- readOne1 -/
noncomputable def c278 : Ctr := (25, [aR 64, aR 1, aI 1 1], some [aI (-1) 120], [(1, 3), (64, 5), (65, 0), (66, 0), (67, 0), (68, 0)], 43)
noncomputable def p278 : Pg := ([], [], [c3, c4, c6, c241, c242, c271, c277], ivG, [(1, 3), (64, 5), (65, 0), (66, 0), (67, 0), (68, 0)], none)
theorem k278 : chk p278 tbF 3000 c278 = true := by decide +kernel
theorem t278 {J : Jt} {X : Tok} {et : Nat → Option va_E} (hX : tOk X) (hH : HandT J X et) (hJ : JS DJ J) : ctrT ivG J X et c278 := ctr_ok (tb := tbF) (P := p278) (c := c278) (f := 3000) tbF_ok hX hJ (by decide) rfl rfl k278 (ct1 (t3 hX hH hJ) (ct1 (t4 hX hH hJ) (ct1 (t6 hX hH hJ) (ct1 (t241 hX hH hJ) (ct1 (t242 hX hH hJ) (ct1 (t271 hX hH hJ) (ct1 (t277 hX hH hJ) ct0)))))))
/-- readJoined5_1 -/
noncomputable def c279 : Ctr := (23, [aR 64, aR 1, aI 5 5, aI 1 1], some [aI (-1) 120], [(1, 3), (64, 5), (65, 0), (66, 0), (67, 0), (68, 0)], 44)
noncomputable def p279 : Pg := ([], [], [c278], ivG, [(1, 3), (64, 5), (65, 0), (66, 0), (67, 0), (68, 0)], none)
theorem k279 : chk p279 tbF 3000 c279 = true := by decide +kernel
theorem t279 {J : Jt} {X : Tok} {et : Nat → Option va_E} (hX : tOk X) (hH : HandT J X et) (hJ : JS DJ J) : ctrT ivG J X et c279 := ctr_ok (tb := tbF) (P := p279) (c := c279) (f := 3000) tbF_ok hX hJ (by decide) rfl rfl k279 (ct1 (t278 hX hH hJ) ct0)
/-- readJoined4_1 -/
noncomputable def c280 : Ctr := (23, [aR 64, aR 1, aI 4 4, aI 1 1], some [aI (-1) 120], [(1, 3), (64, 5), (65, 0), (66, 0), (67, 0), (68, 0)], 45)
noncomputable def p280 : Pg := ([(23, 39, [some none, some none, some none, some none, some (some ((-1), 120)), some none, some (some (0, 120)), none, none], [], .inl 6, true)], [], [c3, c4, c241, c279], ivG, [(1, 3), (64, 5), (65, 0), (66, 0), (67, 0), (68, 0)], none)
theorem k280 : chk p280 tbF 3000 c280 = true := by decide +kernel
theorem t280 {J : Jt} {X : Tok} {et : Nat → Option va_E} (hX : tOk X) (hH : HandT J X et) (hJ : JS DJ J) : ctrT ivG J X et c280 := ctr_ok (tb := tbF) (P := p280) (c := c280) (f := 3000) tbF_ok hX hJ (by decide) rfl rfl k280 (ct1 (t3 hX hH hJ) (ct1 (t4 hX hH hJ) (ct1 (t241 hX hH hJ) (ct1 (t279 hX hH hJ) ct0))))
/-- readJoined3_1 -/
noncomputable def c281 : Ctr := (23, [aR 64, aR 1, aI 3 3, aI 1 1], some [aI (-1) 120], [(1, 3), (64, 5), (65, 0), (66, 0), (67, 0), (68, 0)], 46)
noncomputable def p281 : Pg := ([(23, 39, [some none, some none, some none, some none, some (some ((-1), 120)), some none, some (some (0, 120)), none, none], [], .inl 6, true)], [], [c3, c4, c241, c280], ivG, [(1, 3), (64, 5), (65, 0), (66, 0), (67, 0), (68, 0)], none)
theorem k281 : chk p281 tbF 3000 c281 = true := by decide +kernel
theorem t281 {J : Jt} {X : Tok} {et : Nat → Option va_E} (hX : tOk X) (hH : HandT J X et) (hJ : JS DJ J) : ctrT ivG J X et c281 := ctr_ok (tb := tbF) (P := p281) (c := c281) (f := 3000) tbF_ok hX hJ (by decide) rfl rfl k281 (ct1 (t3 hX hH hJ) (ct1 (t4 hX hH hJ) (ct1 (t241 hX hH hJ) (ct1 (t280 hX hH hJ) ct0))))
/-- readJoined2_1 -/
noncomputable def c282 : Ctr := (23, [aR 64, aR 1, aI 2 2, aI 1 1], some [aI (-1) 120], [(1, 3), (64, 5), (65, 0), (66, 0), (67, 0), (68, 0)], 47)
noncomputable def p282 : Pg := ([(23, 39, [some none, some none, some none, some none, some (some ((-1), 120)), some none, some (some (0, 1)), none, none], [], .inl 6, true)], [], [c3, c4, c241, c281], ivG, [(1, 3), (64, 5), (65, 0), (66, 0), (67, 0), (68, 0)], none)
theorem k282 : chk p282 tbF 3000 c282 = true := by decide +kernel
theorem t282 {J : Jt} {X : Tok} {et : Nat → Option va_E} (hX : tOk X) (hH : HandT J X et) (hJ : JS DJ J) : ctrT ivG J X et c282 := ctr_ok (tb := tbF) (P := p282) (c := c282) (f := 3000) tbF_ok hX hJ (by decide) rfl rfl k282 (ct1 (t3 hX hH hJ) (ct1 (t4 hX hH hJ) (ct1 (t241 hX hH hJ) (ct1 (t281 hX hH hJ) ct0))))
/-- readJoined1_1 -/
noncomputable def c283 : Ctr := (23, [aR 64, aR 1, aI 1 1, aI 1 1], some [aI (-1) 120], [(1, 3), (64, 5), (65, 0), (66, 0), (67, 0), (68, 0)], 48)
noncomputable def p283 : Pg := ([(23, 39, [some none, some none, some none, some none, some (some ((-1), 120)), some none, some (some (0, 120)), none, none], [], .inl 6, true)], [], [c3, c4, c241, c282], ivG, [(1, 3), (64, 5), (65, 0), (66, 0), (67, 0), (68, 0)], none)
theorem k283 : chk p283 tbF 3000 c283 = true := by decide +kernel
theorem t283 {J : Jt} {X : Tok} {et : Nat → Option va_E} (hX : tOk X) (hH : HandT J X et) (hJ : JS DJ J) : ctrT ivG J X et c283 := ctr_ok (tb := tbF) (P := p283) (c := c283) (f := 3000) tbF_ok hX hJ (by decide) rfl rfl k283 (ct1 (t3 hX hH hJ) (ct1 (t4 hX hH hJ) (ct1 (t241 hX hH hJ) (ct1 (t282 hX hH hJ) ct0))))
/-- readJoined0_1 -/
noncomputable def c284 : Ctr := (23, [aR 64, aR 1, aI 0 0, aI 1 1], some [aI (-1) 120], [(1, 3), (64, 5), (65, 0), (66, 0), (67, 0), (68, 0)], 49)
noncomputable def p284 : Pg := ([(23, 39, [some none, some none, some none, some none, some (some ((-1), 120)), some none, some (some (0, 120)), none, none], [], .inl 6, true)], [], [c3, c4, c241, c283], ivG, [(1, 3), (64, 5), (65, 0), (66, 0), (67, 0), (68, 0)], none)
theorem k284 : chk p284 tbF 3000 c284 = true := by decide +kernel
theorem t284 {J : Jt} {X : Tok} {et : Nat → Option va_E} (hX : tOk X) (hH : HandT J X et) (hJ : JS DJ J) : ctrT ivG J X et c284 := ctr_ok (tb := tbF) (P := p284) (c := c284) (f := 3000) tbF_ok hX hJ (by decide) rfl rfl k284 (ct1 (t3 hX hH hJ) (ct1 (t4 hX hH hJ) (ct1 (t241 hX hH hJ) (ct1 (t283 hX hH hJ) ct0))))
/-- readOne0 -/
noncomputable def c285 : Ctr := (25, [aR 64, aR 1, aI 0 0], some [aI (-1) 120], [(1, 3), (64, 5), (65, 0), (66, 0), (67, 0), (68, 0)], 51)
noncomputable def p285 : Pg := ([], [], [c3, c4, c6, c241, c242, c278, c284], ivG, [(1, 3), (64, 5), (65, 0), (66, 0), (67, 0), (68, 0)], none)
theorem k285 : chk p285 tbF 3000 c285 = true := by decide +kernel
theorem t285 {J : Jt} {X : Tok} {et : Nat → Option va_E} (hX : tOk X) (hH : HandT J X et) (hJ : JS DJ J) : ctrT ivG J X et c285 := ctr_ok (tb := tbF) (P := p285) (c := c285) (f := 3000) tbF_ok hX hJ (by decide) rfl rfl k285 (ct1 (t3 hX hH hJ) (ct1 (t4 hX hH hJ) (ct1 (t6 hX hH hJ) (ct1 (t241 hX hH hJ) (ct1 (t242 hX hH hJ) (ct1 (t278 hX hH hJ) (ct1 (t284 hX hH hJ) ct0)))))))
/-- readJoined5_0 -/
noncomputable def c286 : Ctr := (23, [aR 64, aR 1, aI 5 5, aI 0 0], some [aI (-1) 120], [(1, 3), (64, 5), (65, 0), (66, 0), (67, 0), (68, 0)], 52)
noncomputable def p286 : Pg := ([], [], [c285], ivG, [(1, 3), (64, 5), (65, 0), (66, 0), (67, 0), (68, 0)], none)
theorem k286 : chk p286 tbF 3000 c286 = true := by decide +kernel
theorem t286 {J : Jt} {X : Tok} {et : Nat → Option va_E} (hX : tOk X) (hH : HandT J X et) (hJ : JS DJ J) : ctrT ivG J X et c286 := ctr_ok (tb := tbF) (P := p286) (c := c286) (f := 3000) tbF_ok hX hJ (by decide) rfl rfl k286 (ct1 (t285 hX hH hJ) ct0)
/-- readJoined4_0 -/
noncomputable def c287 : Ctr := (23, [aR 64, aR 1, aI 4 4, aI 0 0], some [aI (-1) 120], [(1, 3), (64, 5), (65, 0), (66, 0), (67, 0), (68, 0)], 53)
noncomputable def p287 : Pg := ([(23, 39, [some none, some none, some none, some none, some (some ((-1), 120)), some none, some (some (0, 120)), none, none], [], .inl 6, true)], [], [c3, c4, c241, c286], ivG, [(1, 3), (64, 5), (65, 0), (66, 0), (67, 0), (68, 0)], none)
theorem k287 : chk p287 tbF 3000 c287 = true := by decide +kernel
theorem t287 {J : Jt} {X : Tok} {et : Nat → Option va_E} (hX : tOk X) (hH : HandT J X et) (hJ : JS DJ J) : ctrT ivG J X et c287 := ctr_ok (tb := tbF) (P := p287) (c := c287) (f := 3000) tbF_ok hX hJ (by decide) rfl rfl k287 (ct1 (t3 hX hH hJ) (ct1 (t4 hX hH hJ) (ct1 (t241 hX hH hJ) (ct1 (t286 hX hH hJ) ct0))))
/-- readJoined3_0 -/
noncomputable def c288 : Ctr := (23, [aR 64, aR 1, aI 3 3, aI 0 0], some [aI (-1) 120], [(1, 3), (64, 5), (65, 0), (66, 0), (67, 0), (68, 0)], 54)
noncomputable def p288 : Pg := ([(23, 39, [some none, some none, some none, some none, some (some ((-1), 120)), some none, some (some (0, 120)), none, none], [], .inl 6, true)], [], [c3, c4, c241, c287], ivG, [(1, 3), (64, 5), (65, 0), (66, 0), (67, 0), (68, 0)], none)
theorem k288 : chk p288 tbF 3000 c288 = true := by decide +kernel
theorem t288 {J : Jt} {X : Tok} {et : Nat → Option va_E} (hX : tOk X) (hH : HandT J X et) (hJ : JS DJ J) : ctrT ivG J X et c288 := ctr_ok (tb := tbF) (P := p288) (c := c288) (f := 3000) tbF_ok hX hJ (by decide) rfl rfl k288 (ct1 (t3 hX hH hJ) (ct1 (t4 hX hH hJ) (ct1 (t241 hX hH hJ) (ct1 (t287 hX hH hJ) ct0))))
/-- readJoined2_0 -/
noncomputable def c289 : Ctr := (23, [aR 64, aR 1, aI 2 2, aI 0 0], some [aI (-1) 120], [(1, 3), (64, 5), (65, 0), (66, 0), (67, 0), (68, 0)], 55)
noncomputable def p289 : Pg := ([(23, 39, [some none, some none, some none, some none, some (some ((-1), 120)), some none, some (some (0, 1)), none, none], [], .inl 6, true)], [], [c3, c4, c241, c288], ivG, [(1, 3), (64, 5), (65, 0), (66, 0), (67, 0), (68, 0)], none)
theorem k289 : chk p289 tbF 3000 c289 = true := by decide +kernel
theorem t289 {J : Jt} {X : Tok} {et : Nat → Option va_E} (hX : tOk X) (hH : HandT J X et) (hJ : JS DJ J) : ctrT ivG J X et c289 := ctr_ok (tb := tbF) (P := p289) (c := c289) (f := 3000) tbF_ok hX hJ (by decide) rfl rfl k289 (ct1 (t3 hX hH hJ) (ct1 (t4 hX hH hJ) (ct1 (t241 hX hH hJ) (ct1 (t288 hX hH hJ) ct0))))
/-- readJoined1_0 -/
noncomputable def c290 : Ctr := (23, [aR 64, aR 1, aI 1 1, aI 0 0], some [aI (-1) 120], [(1, 3), (64, 5), (65, 0), (66, 0), (67, 0), (68, 0)], 56)
noncomputable def p290 : Pg := ([(23, 39, [some none, some none, some none, some none, some (some ((-1), 120)), some none, some (some (0, 120)), none, none], [], .inl 6, true)], [], [c3, c4, c241, c289], ivG, [(1, 3), (64, 5), (65, 0), (66, 0), (67, 0), (68, 0)], none)
theorem k290 : chk p290 tbF 3000 c290 = true := by decide +kernel
theorem t290 {J : Jt} {X : Tok} {et : Nat → Option va_E} (hX : tOk X) (hH : HandT J X et) (hJ : JS DJ J) : ctrT ivG J X et c290 := ctr_ok (tb := tbF) (P := p290) (c := c290) (f := 3000) tbF_ok hX hJ (by decide) rfl rfl k290 (ct1 (t3 hX hH hJ) (ct1 (t4 hX hH hJ) (ct1 (t241 hX hH hJ) (ct1 (t289 hX hH hJ) ct0))))
/-- readJoined0_0 -/
noncomputable def c291 : Ctr := (23, [aR 64, aR 1, aI 0 0, aI 0 0], some [aI (-1) 120], [(1, 3), (64, 5), (65, 0), (66, 0), (67, 0), (68, 0)], 57)
noncomputable def p291 : Pg := ([(23, 39, [some none, some none, some none, some none, some (some ((-1), 120)), some none, some (some (0, 120)), none, none], [], .inl 6, true)], [], [c3, c4, c241, c290], ivG, [(1, 3), (64, 5), (65, 0), (66, 0), (67, 0), (68, 0)], none)
theorem k291 : chk p291 tbF 3000 c291 = true := by decide +kernel
theorem t291 {J : Jt} {X : Tok} {et : Nat → Option va_E} (hX : tOk X) (hH : HandT J X et) (hJ : JS DJ J) : ctrT ivG J X et c291 := ctr_ok (tb := tbF) (P := p291) (c := c291) (f := 3000) tbF_ok hX hJ (by decide) rfl rfl k291 (ct1 (t3 hX hH hJ) (ct1 (t4 hX hH hJ) (ct1 (t241 hX hH hJ) (ct1 (t290 hX hH hJ) ct0))))
/-- MFl_readLine -/
noncomputable def c292 : Ctr := (22, [aR 64, aR 1], some [aI 0 1], [(1, 3), (64, 5), (65, 0), (66, 0), (67, 0), (68, 0)], 58)
noncomputable def p292 : Pg := ([], [], [c4, c241, c291], ivG, [(1, 3), (64, 5), (65, 0), (66, 0), (67, 0), (68, 0)], none)
theorem k292 : chk p292 tbF 3000 c292 = true := by decide +kernel
theorem t292 {J : Jt} {X : Tok} {et : Nat → Option va_E} (hX : tOk X) (hH : HandT J X et) (hJ : JS DJ J) : ctrT ivG J X et c292 := ctr_ok (tb := tbF) (P := p292) (c := c292) (f := 3000) tbF_ok hX hJ (by decide) rfl rfl k292 (ct1 (t4 hX hH hJ) (ct1 (t241 hX hH hJ) (ct1 (t291 hX hH hJ) ct0)))
/-- MFl_readFrom -/
noncomputable def c293 : Ctr := (21, [aR 64, aR 1], some [aI 0 1], [(1, 3), (64, 5), (65, 0), (66, 0), (67, 0), (68, 0)], 59)
noncomputable def p293 : Pg := ([(21, 9, [some none, some none, some (some (0, 1)), some (some (0, 121))], [(64, 4)], .inl 3, true)], [], [c4, c292], ivG, [(1, 3), (64, 5), (65, 0), (66, 0), (67, 0), (68, 0)], none)
theorem k293 : chk p293 tbF 3000 c293 = true := by decide +kernel
theorem t293 {J : Jt} {X : Tok} {et : Nat → Option va_E} (hX : tOk X) (hH : HandT J X et) (hJ : JS DJ J) : ctrT ivG J X et c293 := ctr_ok (tb := tbF) (P := p293) (c := c293) (f := 3000) tbF_ok hX hJ (by decide) rfl rfl k293 (ct1 (t4 hX hH hJ) (ct1 (t292 hX hH hJ) ct0))
/-- MFl_result -/
noncomputable def c294 : Ctr := (32, [aR 64, aT, aT, aT], some [aT], [], 0)
noncomputable def p294 : Pg := ([], [], [], ivG, [], none)
theorem k294 : chk p294 tbF 3000 c294 = true := by decide +kernel
theorem t294 {J : Jt} {X : Tok} {et : Nat → Option va_E} (hX : tOk X) (hH : HandT J X et) (hJ : JS DJ J) : ctrT ivG J X et c294 := ctr_ok (tb := tbF) (P := p294) (c := c294) (f := 3000) tbF_ok hX hJ (by decide) rfl rfl k294 ct0
/-- MFl_takes -/
noncomputable def c295 : Ctr := (30, [aR 64, aT, aT], some [aI 0 2147483647], [(64, 6), (64, 7), (68, 0)], 1)
noncomputable def p295 : Pg := ([(30, 15, [some none, some none, some none, some (some (0, 1)), some (some (0, 121)), none, none], [], .inl 4, true)], [], [c294], ivG, [(64, 6), (64, 7), (68, 0)], none)
theorem k295 : chk p295 tbF 3000 c295 = true := by decide +kernel
theorem t295 {J : Jt} {X : Tok} {et : Nat → Option va_E} (hX : tOk X) (hH : HandT J X et) (hJ : JS DJ J) : ctrT ivG J X et c295 := ctr_ok (tb := tbF) (P := p295) (c := c295) (f := 3000) tbF_ok hX hJ (by decide) rfl rfl k295 (ct1 (t294 hX hH hJ) ct0)
/-- MFl_name -/
noncomputable def c296 : Ctr := (29, [aR 64, aT, aT, aT, aT], none, [(64, 8), (64, 9), (64, 10), (64, 11)], 1)
noncomputable def p296 : Pg := ([], [], [], ivG, [(64, 8), (64, 9), (64, 10), (64, 11)], none)
theorem k296 : chk p296 tbF 3000 c296 = true := by decide +kernel
theorem t296 {J : Jt} {X : Tok} {et : Nat → Option va_E} (hX : tOk X) (hH : HandT J X et) (hJ : JS DJ J) : ctrT ivG J X et c296 := ctr_ok (tb := tbF) (P := p296) (c := c296) (f := 3000) tbF_ok hX hJ (by decide) rfl rfl k296 ct0
/-- MMo_lose@ -/
noncomputable def c297 : Ctr := (49, [aR 6], none, [(6, 8), (6, 9), (6, 10), (6, 15), (6, 16), (6, 17), (49, 6), (49, 7), (49, 8), (49, 9), (49, 10), (49, 11), (53, 0), (54, 6), (54, 7), (54, 8), (54, 9), (54, 10), (54, 11), (58, 0), (59, 6), (59, 7), (59, 8), (59, 9), (59, 10), (59, 11), (63, 0), (64, 6), (64, 7), (64, 8), (64, 9), (64, 10), (64, 11), (68, 0)], 3)
noncomputable def p297 (q : Option (Option Nat)) : Pg := ([], [], [c127, c128, c183, c184, c239, c240, c295, c296], ivG, [(6, 8), (6, 9), (6, 10), (6, 15), (6, 16), (6, 17), (49, 6), (49, 7), (49, 8), (49, 9), (49, 10), (49, 11), (53, 0), (54, 6), (54, 7), (54, 8), (54, 9), (54, 10), (54, 11), (58, 0), (59, 6), (59, 7), (59, 8), (59, 9), (59, 10), (59, 11), (63, 0), (64, 6), (64, 7), (64, 8), (64, 9), (64, 10), (64, 11), (68, 0)], q)
theorem k297_0 : chk (p297 (some none)) tbF 3000 c297 = true := by decide +kernel
theorem k297_1 : chk (p297 (some (some 49))) tbF 3000 c297 = true := by decide +kernel
theorem k297_2 : chk (p297 (some (some 54))) tbF 3000 c297 = true := by decide +kernel
theorem k297_3 : chk (p297 (some (some 59))) tbF 3000 c297 = true := by decide +kernel
theorem k297_4 : chk (p297 (some (some 64))) tbF 3000 c297 = true := by decide +kernel
theorem t297 {J : Jt} {X : Tok} {et : Nat → Option va_E} (hX : tOk X) (hH : HandT J X et) (hJ : JS DJ J) : ctrT ivG J X et c297 := by
  refine ctr_five (p := p297) (fun _ => ⟨rfl, rfl⟩) fun q hq => ?_
  rcases hq with rfl | rfl | rfl | rfl | rfl
  · exact ctrQ_ok tbF_ok hX hJ (by decide) (fun _ _ => by decide) rfl k297_0 (ct1 (t127 hX hH hJ) (ct1 (t128 hX hH hJ) (ct1 (t183 hX hH hJ) (ct1 (t184 hX hH hJ) (ct1 (t239 hX hH hJ) (ct1 (t240 hX hH hJ) (ct1 (t295 hX hH hJ) (ct1 (t296 hX hH hJ) ct0))))))))
  · exact ctrQ_ok tbF_ok hX hJ (by decide) (fun _ _ => by decide) rfl k297_1 (ct1 (t127 hX hH hJ) (ct1 (t128 hX hH hJ) (ct1 (t183 hX hH hJ) (ct1 (t184 hX hH hJ) (ct1 (t239 hX hH hJ) (ct1 (t240 hX hH hJ) (ct1 (t295 hX hH hJ) (ct1 (t296 hX hH hJ) ct0))))))))
  · exact ctrQ_ok tbF_ok hX hJ (by decide) (fun _ _ => by decide) rfl k297_2 (ct1 (t127 hX hH hJ) (ct1 (t128 hX hH hJ) (ct1 (t183 hX hH hJ) (ct1 (t184 hX hH hJ) (ct1 (t239 hX hH hJ) (ct1 (t240 hX hH hJ) (ct1 (t295 hX hH hJ) (ct1 (t296 hX hH hJ) ct0))))))))
  · exact ctrQ_ok tbF_ok hX hJ (by decide) (fun _ _ => by decide) rfl k297_3 (ct1 (t127 hX hH hJ) (ct1 (t128 hX hH hJ) (ct1 (t183 hX hH hJ) (ct1 (t184 hX hH hJ) (ct1 (t239 hX hH hJ) (ct1 (t240 hX hH hJ) (ct1 (t295 hX hH hJ) (ct1 (t296 hX hH hJ) ct0))))))))
  · exact ctrQ_ok tbF_ok hX hJ (by decide) (fun _ _ => by decide) rfl k297_4 (ct1 (t127 hX hH hJ) (ct1 (t128 hX hH hJ) (ct1 (t183 hX hH hJ) (ct1 (t184 hX hH hJ) (ct1 (t239 hX hH hJ) (ct1 (t240 hX hH hJ) (ct1 (t295 hX hH hJ) (ct1 (t296 hX hH hJ) ct0))))))))
/-- MMo_rule -/
noncomputable def c298 : Ctr := (42, [aR 6, aR 19, aT, aN], none, [(6, 1), (6, 2), (6, 3), (6, 4), (6, 5), (6, 6), (6, 7)], 1)
noncomputable def p298 : Pg := ([], [], [c16], ivG, [(6, 1), (6, 2), (6, 3), (6, 4), (6, 5), (6, 6), (6, 7)], none)
theorem k298 : chk p298 tbF 3000 c298 = true := by decide +kernel
theorem t298 {J : Jt} {X : Tok} {et : Nat → Option va_E} (hX : tOk X) (hH : HandT J X et) (hJ : JS DJ J) : ctrT ivG J X et c298 := ctr_ok (tb := tbF) (P := p298) (c := c298) (f := 3000) tbF_ok hX hJ (by decide) rfl rfl k298 (ct1 (t16 hX hH hJ) ct0)
/-- MMo_rule -/
noncomputable def c299 : Ctr := (42, [aR 6, aR 19, aT, aR 49], none, [(6, 1), (6, 2), (6, 3), (6, 4), (6, 5), (6, 6), (6, 7)], 1)
noncomputable def p299 : Pg := ([], [], [c16], ivG, [(6, 1), (6, 2), (6, 3), (6, 4), (6, 5), (6, 6), (6, 7)], none)
theorem k299 : chk p299 tbF 3000 c299 = true := by decide +kernel
theorem t299 {J : Jt} {X : Tok} {et : Nat → Option va_E} (hX : tOk X) (hH : HandT J X et) (hJ : JS DJ J) : ctrT ivG J X et c299 := ctr_ok (tb := tbF) (P := p299) (c := c299) (f := 3000) tbF_ok hX hJ (by decide) rfl rfl k299 (ct1 (t16 hX hH hJ) ct0)
/-- MMo_rule -/
noncomputable def c300 : Ctr := (42, [aR 6, aR 19, aT, aR 54], none, [(6, 1), (6, 2), (6, 3), (6, 4), (6, 5), (6, 6), (6, 7)], 1)
noncomputable def p300 : Pg := ([], [], [c16], ivG, [(6, 1), (6, 2), (6, 3), (6, 4), (6, 5), (6, 6), (6, 7)], none)
theorem k300 : chk p300 tbF 3000 c300 = true := by decide +kernel
theorem t300 {J : Jt} {X : Tok} {et : Nat → Option va_E} (hX : tOk X) (hH : HandT J X et) (hJ : JS DJ J) : ctrT ivG J X et c300 := ctr_ok (tb := tbF) (P := p300) (c := c300) (f := 3000) tbF_ok hX hJ (by decide) rfl rfl k300 (ct1 (t16 hX hH hJ) ct0)
/-- MMo_rule -/
noncomputable def c301 : Ctr := (42, [aR 6, aR 19, aT, aR 59], none, [(6, 1), (6, 2), (6, 3), (6, 4), (6, 5), (6, 6), (6, 7)], 1)
noncomputable def p301 : Pg := ([], [], [c16], ivG, [(6, 1), (6, 2), (6, 3), (6, 4), (6, 5), (6, 6), (6, 7)], none)
theorem k301 : chk p301 tbF 3000 c301 = true := by decide +kernel
theorem t301 {J : Jt} {X : Tok} {et : Nat → Option va_E} (hX : tOk X) (hH : HandT J X et) (hJ : JS DJ J) : ctrT ivG J X et c301 := ctr_ok (tb := tbF) (P := p301) (c := c301) (f := 3000) tbF_ok hX hJ (by decide) rfl rfl k301 (ct1 (t16 hX hH hJ) ct0)
/-- MMo_rule -/
noncomputable def c302 : Ctr := (42, [aR 6, aR 19, aT, aR 64], none, [(6, 1), (6, 2), (6, 3), (6, 4), (6, 5), (6, 6), (6, 7)], 1)
noncomputable def p302 : Pg := ([], [], [c16], ivG, [(6, 1), (6, 2), (6, 3), (6, 4), (6, 5), (6, 6), (6, 7)], none)
theorem k302 : chk p302 tbF 3000 c302 = true := by decide +kernel
theorem t302 {J : Jt} {X : Tok} {et : Nat → Option va_E} (hX : tOk X) (hH : HandT J X et) (hJ : JS DJ J) : ctrT ivG J X et c302 := ctr_ok (tb := tbF) (P := p302) (c := c302) (f := 3000) tbF_ok hX hJ (by decide) rfl rfl k302 (ct1 (t16 hX hH hJ) ct0)
/-- MMo_rule -/
noncomputable def c303 : Ctr := (42, [aR 6, aR 24, aT, aN], none, [(6, 1), (6, 2), (6, 3), (6, 4), (6, 5), (6, 6), (6, 7)], 1)
noncomputable def p303 : Pg := ([], [], [c27], ivG, [(6, 1), (6, 2), (6, 3), (6, 4), (6, 5), (6, 6), (6, 7)], none)
theorem k303 : chk p303 tbF 3000 c303 = true := by decide +kernel
theorem t303 {J : Jt} {X : Tok} {et : Nat → Option va_E} (hX : tOk X) (hH : HandT J X et) (hJ : JS DJ J) : ctrT ivG J X et c303 := ctr_ok (tb := tbF) (P := p303) (c := c303) (f := 3000) tbF_ok hX hJ (by decide) rfl rfl k303 (ct1 (t27 hX hH hJ) ct0)
/-- MMo_rule -/
noncomputable def c304 : Ctr := (42, [aR 6, aR 24, aT, aR 49], none, [(6, 1), (6, 2), (6, 3), (6, 4), (6, 5), (6, 6), (6, 7)], 1)
noncomputable def p304 : Pg := ([], [], [c27], ivG, [(6, 1), (6, 2), (6, 3), (6, 4), (6, 5), (6, 6), (6, 7)], none)
theorem k304 : chk p304 tbF 3000 c304 = true := by decide +kernel
theorem t304 {J : Jt} {X : Tok} {et : Nat → Option va_E} (hX : tOk X) (hH : HandT J X et) (hJ : JS DJ J) : ctrT ivG J X et c304 := ctr_ok (tb := tbF) (P := p304) (c := c304) (f := 3000) tbF_ok hX hJ (by decide) rfl rfl k304 (ct1 (t27 hX hH hJ) ct0)
/-- MMo_rule -/
noncomputable def c305 : Ctr := (42, [aR 6, aR 24, aT, aR 54], none, [(6, 1), (6, 2), (6, 3), (6, 4), (6, 5), (6, 6), (6, 7)], 1)
noncomputable def p305 : Pg := ([], [], [c27], ivG, [(6, 1), (6, 2), (6, 3), (6, 4), (6, 5), (6, 6), (6, 7)], none)
theorem k305 : chk p305 tbF 3000 c305 = true := by decide +kernel
theorem t305 {J : Jt} {X : Tok} {et : Nat → Option va_E} (hX : tOk X) (hH : HandT J X et) (hJ : JS DJ J) : ctrT ivG J X et c305 := ctr_ok (tb := tbF) (P := p305) (c := c305) (f := 3000) tbF_ok hX hJ (by decide) rfl rfl k305 (ct1 (t27 hX hH hJ) ct0)
/-- MMo_rule -/
noncomputable def c306 : Ctr := (42, [aR 6, aR 24, aT, aR 59], none, [(6, 1), (6, 2), (6, 3), (6, 4), (6, 5), (6, 6), (6, 7)], 1)
noncomputable def p306 : Pg := ([], [], [c27], ivG, [(6, 1), (6, 2), (6, 3), (6, 4), (6, 5), (6, 6), (6, 7)], none)
theorem k306 : chk p306 tbF 3000 c306 = true := by decide +kernel
theorem t306 {J : Jt} {X : Tok} {et : Nat → Option va_E} (hX : tOk X) (hH : HandT J X et) (hJ : JS DJ J) : ctrT ivG J X et c306 := ctr_ok (tb := tbF) (P := p306) (c := c306) (f := 3000) tbF_ok hX hJ (by decide) rfl rfl k306 (ct1 (t27 hX hH hJ) ct0)
/-- MMo_rule -/
noncomputable def c307 : Ctr := (42, [aR 6, aR 24, aT, aR 64], none, [(6, 1), (6, 2), (6, 3), (6, 4), (6, 5), (6, 6), (6, 7)], 1)
noncomputable def p307 : Pg := ([], [], [c27], ivG, [(6, 1), (6, 2), (6, 3), (6, 4), (6, 5), (6, 6), (6, 7)], none)
theorem k307 : chk p307 tbF 3000 c307 = true := by decide +kernel
theorem t307 {J : Jt} {X : Tok} {et : Nat → Option va_E} (hX : tOk X) (hH : HandT J X et) (hJ : JS DJ J) : ctrT ivG J X et c307 := ctr_ok (tb := tbF) (P := p307) (c := c307) (f := 3000) tbF_ok hX hJ (by decide) rfl rfl k307 (ct1 (t27 hX hH hJ) ct0)
/-- MMo_rule -/
noncomputable def c308 : Ctr := (42, [aR 6, aR 29, aT, aN], none, [(6, 1), (6, 2), (6, 3), (6, 4), (6, 5), (6, 6), (6, 7)], 1)
noncomputable def p308 : Pg := ([], [], [c38], ivG, [(6, 1), (6, 2), (6, 3), (6, 4), (6, 5), (6, 6), (6, 7)], none)
theorem k308 : chk p308 tbF 3000 c308 = true := by decide +kernel
theorem t308 {J : Jt} {X : Tok} {et : Nat → Option va_E} (hX : tOk X) (hH : HandT J X et) (hJ : JS DJ J) : ctrT ivG J X et c308 := ctr_ok (tb := tbF) (P := p308) (c := c308) (f := 3000) tbF_ok hX hJ (by decide) rfl rfl k308 (ct1 (t38 hX hH hJ) ct0)
/-- MMo_rule -/
noncomputable def c309 : Ctr := (42, [aR 6, aR 29, aT, aR 49], none, [(6, 1), (6, 2), (6, 3), (6, 4), (6, 5), (6, 6), (6, 7)], 1)
noncomputable def p309 : Pg := ([], [], [c38], ivG, [(6, 1), (6, 2), (6, 3), (6, 4), (6, 5), (6, 6), (6, 7)], none)
theorem k309 : chk p309 tbF 3000 c309 = true := by decide +kernel
theorem t309 {J : Jt} {X : Tok} {et : Nat → Option va_E} (hX : tOk X) (hH : HandT J X et) (hJ : JS DJ J) : ctrT ivG J X et c309 := ctr_ok (tb := tbF) (P := p309) (c := c309) (f := 3000) tbF_ok hX hJ (by decide) rfl rfl k309 (ct1 (t38 hX hH hJ) ct0)
/-- MMo_rule -/
noncomputable def c310 : Ctr := (42, [aR 6, aR 29, aT, aR 54], none, [(6, 1), (6, 2), (6, 3), (6, 4), (6, 5), (6, 6), (6, 7)], 1)
noncomputable def p310 : Pg := ([], [], [c38], ivG, [(6, 1), (6, 2), (6, 3), (6, 4), (6, 5), (6, 6), (6, 7)], none)
theorem k310 : chk p310 tbF 3000 c310 = true := by decide +kernel
theorem t310 {J : Jt} {X : Tok} {et : Nat → Option va_E} (hX : tOk X) (hH : HandT J X et) (hJ : JS DJ J) : ctrT ivG J X et c310 := ctr_ok (tb := tbF) (P := p310) (c := c310) (f := 3000) tbF_ok hX hJ (by decide) rfl rfl k310 (ct1 (t38 hX hH hJ) ct0)
/-- MMo_rule -/
noncomputable def c311 : Ctr := (42, [aR 6, aR 29, aT, aR 59], none, [(6, 1), (6, 2), (6, 3), (6, 4), (6, 5), (6, 6), (6, 7)], 1)
noncomputable def p311 : Pg := ([], [], [c38], ivG, [(6, 1), (6, 2), (6, 3), (6, 4), (6, 5), (6, 6), (6, 7)], none)
theorem k311 : chk p311 tbF 3000 c311 = true := by decide +kernel
theorem t311 {J : Jt} {X : Tok} {et : Nat → Option va_E} (hX : tOk X) (hH : HandT J X et) (hJ : JS DJ J) : ctrT ivG J X et c311 := ctr_ok (tb := tbF) (P := p311) (c := c311) (f := 3000) tbF_ok hX hJ (by decide) rfl rfl k311 (ct1 (t38 hX hH hJ) ct0)
/-- MMo_rule -/
noncomputable def c312 : Ctr := (42, [aR 6, aR 29, aT, aR 64], none, [(6, 1), (6, 2), (6, 3), (6, 4), (6, 5), (6, 6), (6, 7)], 1)
noncomputable def p312 : Pg := ([], [], [c38], ivG, [(6, 1), (6, 2), (6, 3), (6, 4), (6, 5), (6, 6), (6, 7)], none)
theorem k312 : chk p312 tbF 3000 c312 = true := by decide +kernel
theorem t312 {J : Jt} {X : Tok} {et : Nat → Option va_E} (hX : tOk X) (hH : HandT J X et) (hJ : JS DJ J) : ctrT ivG J X et c312 := ctr_ok (tb := tbF) (P := p312) (c := c312) (f := 3000) tbF_ok hX hJ (by decide) rfl rfl k312 (ct1 (t38 hX hH hJ) ct0)
/-- MMo_rule -/
noncomputable def c313 : Ctr := (42, [aR 6, aR 34, aT, aN], none, [(6, 1), (6, 2), (6, 3), (6, 4), (6, 5), (6, 6), (6, 7)], 1)
noncomputable def p313 : Pg := ([], [], [c49], ivG, [(6, 1), (6, 2), (6, 3), (6, 4), (6, 5), (6, 6), (6, 7)], none)
theorem k313 : chk p313 tbF 3000 c313 = true := by decide +kernel
theorem t313 {J : Jt} {X : Tok} {et : Nat → Option va_E} (hX : tOk X) (hH : HandT J X et) (hJ : JS DJ J) : ctrT ivG J X et c313 := ctr_ok (tb := tbF) (P := p313) (c := c313) (f := 3000) tbF_ok hX hJ (by decide) rfl rfl k313 (ct1 (t49 hX hH hJ) ct0)
/-- MMo_rule -/
noncomputable def c314 : Ctr := (42, [aR 6, aR 34, aT, aR 49], none, [(6, 1), (6, 2), (6, 3), (6, 4), (6, 5), (6, 6), (6, 7)], 1)
noncomputable def p314 : Pg := ([], [], [c49], ivG, [(6, 1), (6, 2), (6, 3), (6, 4), (6, 5), (6, 6), (6, 7)], none)
theorem k314 : chk p314 tbF 3000 c314 = true := by decide +kernel
theorem t314 {J : Jt} {X : Tok} {et : Nat → Option va_E} (hX : tOk X) (hH : HandT J X et) (hJ : JS DJ J) : ctrT ivG J X et c314 := ctr_ok (tb := tbF) (P := p314) (c := c314) (f := 3000) tbF_ok hX hJ (by decide) rfl rfl k314 (ct1 (t49 hX hH hJ) ct0)
/-- MMo_rule -/
noncomputable def c315 : Ctr := (42, [aR 6, aR 34, aT, aR 54], none, [(6, 1), (6, 2), (6, 3), (6, 4), (6, 5), (6, 6), (6, 7)], 1)
noncomputable def p315 : Pg := ([], [], [c49], ivG, [(6, 1), (6, 2), (6, 3), (6, 4), (6, 5), (6, 6), (6, 7)], none)
theorem k315 : chk p315 tbF 3000 c315 = true := by decide +kernel
theorem t315 {J : Jt} {X : Tok} {et : Nat → Option va_E} (hX : tOk X) (hH : HandT J X et) (hJ : JS DJ J) : ctrT ivG J X et c315 := ctr_ok (tb := tbF) (P := p315) (c := c315) (f := 3000) tbF_ok hX hJ (by decide) rfl rfl k315 (ct1 (t49 hX hH hJ) ct0)
/-- MMo_rule -/
noncomputable def c316 : Ctr := (42, [aR 6, aR 34, aT, aR 59], none, [(6, 1), (6, 2), (6, 3), (6, 4), (6, 5), (6, 6), (6, 7)], 1)
noncomputable def p316 : Pg := ([], [], [c49], ivG, [(6, 1), (6, 2), (6, 3), (6, 4), (6, 5), (6, 6), (6, 7)], none)
theorem k316 : chk p316 tbF 3000 c316 = true := by decide +kernel
theorem t316 {J : Jt} {X : Tok} {et : Nat → Option va_E} (hX : tOk X) (hH : HandT J X et) (hJ : JS DJ J) : ctrT ivG J X et c316 := ctr_ok (tb := tbF) (P := p316) (c := c316) (f := 3000) tbF_ok hX hJ (by decide) rfl rfl k316 (ct1 (t49 hX hH hJ) ct0)
/-- MMo_rule -/
noncomputable def c317 : Ctr := (42, [aR 6, aR 34, aT, aR 64], none, [(6, 1), (6, 2), (6, 3), (6, 4), (6, 5), (6, 6), (6, 7)], 1)
noncomputable def p317 : Pg := ([], [], [c49], ivG, [(6, 1), (6, 2), (6, 3), (6, 4), (6, 5), (6, 6), (6, 7)], none)
theorem k317 : chk p317 tbF 3000 c317 = true := by decide +kernel
theorem t317 {J : Jt} {X : Tok} {et : Nat → Option va_E} (hX : tOk X) (hH : HandT J X et) (hJ : JS DJ J) : ctrT ivG J X et c317 := ctr_ok (tb := tbF) (P := p317) (c := c317) (f := 3000) tbF_ok hX hJ (by decide) rfl rfl k317 (ct1 (t49 hX hH hJ) ct0)
/-- MMo_rule -/
noncomputable def c318 : Ctr := (42, [aR 6, aR 39, aT, aN], none, [(6, 1), (6, 2), (6, 3), (6, 4), (6, 5), (6, 6), (6, 7)], 1)
noncomputable def p318 : Pg := ([], [], [c60], ivG, [(6, 1), (6, 2), (6, 3), (6, 4), (6, 5), (6, 6), (6, 7)], none)
theorem k318 : chk p318 tbF 3000 c318 = true := by decide +kernel
theorem t318 {J : Jt} {X : Tok} {et : Nat → Option va_E} (hX : tOk X) (hH : HandT J X et) (hJ : JS DJ J) : ctrT ivG J X et c318 := ctr_ok (tb := tbF) (P := p318) (c := c318) (f := 3000) tbF_ok hX hJ (by decide) rfl rfl k318 (ct1 (t60 hX hH hJ) ct0)
/-- MMo_rule -/
noncomputable def c319 : Ctr := (42, [aR 6, aR 39, aT, aR 49], none, [(6, 1), (6, 2), (6, 3), (6, 4), (6, 5), (6, 6), (6, 7)], 1)
noncomputable def p319 : Pg := ([], [], [c60], ivG, [(6, 1), (6, 2), (6, 3), (6, 4), (6, 5), (6, 6), (6, 7)], none)
theorem k319 : chk p319 tbF 3000 c319 = true := by decide +kernel
theorem t319 {J : Jt} {X : Tok} {et : Nat → Option va_E} (hX : tOk X) (hH : HandT J X et) (hJ : JS DJ J) : ctrT ivG J X et c319 := ctr_ok (tb := tbF) (P := p319) (c := c319) (f := 3000) tbF_ok hX hJ (by decide) rfl rfl k319 (ct1 (t60 hX hH hJ) ct0)
