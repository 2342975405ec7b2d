-- ===== contracts that the checker shows, 2
/-- readJoined5_2 -/
noncomputable def c160 : Ctr := (23, [aR 54, aR 1, aI 5 5, aI 2 2], some [aI (-1) 120], [(1, 3), (54, 5), (55, 0), (56, 0), (57, 0), (58, 0)], 36)
noncomputable def p160 : Pg := ([], [], [c159], ivG, [(1, 3), (54, 5), (55, 0), (56, 0), (57, 0), (58, 0)], none)
theorem k160 : chk p160 tbF 3000 c160 = true := by decide +kernel
theorem t160 {J : Jt} {X : Tok} {et : Nat → Option va_E} (hX : tOk X) (hH : HandT J X et) (hJ : JS DJ J) : ctrT ivG J X et c160 := ctr_ok (tb := tbF) (P := p160) (c := c160) (f := 3000) tbF_ok hX hJ (by decide) rfl rfl k160 (ct1 (t159 hX hH hJ) ct0)
/-- readJoined4_2 -/
noncomputable def c161 : Ctr := (23, [aR 54, aR 1, aI 4 4, aI 2 2], some [aI (-1) 120], [(1, 3), (54, 5), (55, 0), (56, 0), (57, 0), (58, 0)], 37)
noncomputable def p161 : Pg := ([(23, 39, [some none, some none, some none, some none, some (some ((-1), 120)), some none, some (some (0, 120)), none, none], [], .inl 6, true)], [], [c3, c4, c129, c160], ivG, [(1, 3), (54, 5), (55, 0), (56, 0), (57, 0), (58, 0)], none)
theorem k161 : chk p161 tbF 3000 c161 = true := by decide +kernel
theorem t161 {J : Jt} {X : Tok} {et : Nat → Option va_E} (hX : tOk X) (hH : HandT J X et) (hJ : JS DJ J) : ctrT ivG J X et c161 := ctr_ok (tb := tbF) (P := p161) (c := c161) (f := 3000) tbF_ok hX hJ (by decide) rfl rfl k161 (ct1 (t3 hX hH hJ) (ct1 (t4 hX hH hJ) (ct1 (t129 hX hH hJ) (ct1 (t160 hX hH hJ) ct0))))
/-- readJoined3_2 -/
noncomputable def c162 : Ctr := (23, [aR 54, aR 1, aI 3 3, aI 2 2], some [aI (-1) 120], [(1, 3), (54, 5), (55, 0), (56, 0), (57, 0), (58, 0)], 38)
noncomputable def p162 : Pg := ([(23, 39, [some none, some none, some none, some none, some (some ((-1), 120)), some none, some (some (0, 120)), none, none], [], .inl 6, true)], [], [c3, c4, c129, c161], ivG, [(1, 3), (54, 5), (55, 0), (56, 0), (57, 0), (58, 0)], none)
theorem k162 : chk p162 tbF 3000 c162 = true := by decide +kernel
theorem t162 {J : Jt} {X : Tok} {et : Nat → Option va_E} (hX : tOk X) (hH : HandT J X et) (hJ : JS DJ J) : ctrT ivG J X et c162 := ctr_ok (tb := tbF) (P := p162) (c := c162) (f := 3000) tbF_ok hX hJ (by decide) rfl rfl k162 (ct1 (t3 hX hH hJ) (ct1 (t4 hX hH hJ) (ct1 (t129 hX hH hJ) (ct1 (t161 hX hH hJ) ct0))))
/-- readJoined2_2 -/
noncomputable def c163 : Ctr := (23, [aR 54, aR 1, aI 2 2, aI 2 2], some [aI (-1) 120], [(1, 3), (54, 5), (55, 0), (56, 0), (57, 0), (58, 0)], 39)
noncomputable def p163 : Pg := ([(23, 39, [some none, some none, some none, some none, some (some ((-1), 120)), some none, some (some (0, 1)), none, none], [], .inl 6, true)], [], [c3, c4, c129, c162], ivG, [(1, 3), (54, 5), (55, 0), (56, 0), (57, 0), (58, 0)], none)
theorem k163 : chk p163 tbF 3000 c163 = true := by decide +kernel
theorem t163 {J : Jt} {X : Tok} {et : Nat → Option va_E} (hX : tOk X) (hH : HandT J X et) (hJ : JS DJ J) : ctrT ivG J X et c163 := ctr_ok (tb := tbF) (P := p163) (c := c163) (f := 3000) tbF_ok hX hJ (by decide) rfl rfl k163 (ct1 (t3 hX hH hJ) (ct1 (t4 hX hH hJ) (ct1 (t129 hX hH hJ) (ct1 (t162 hX hH hJ) ct0))))
/-- readJoined1_2 -/
noncomputable def c164 : Ctr := (23, [aR 54, aR 1, aI 1 1, aI 2 2], some [aI (-1) 120], [(1, 3), (54, 5), (55, 0), (56, 0), (57, 0), (58, 0)], 40)
noncomputable def p164 : Pg := ([(23, 39, [some none, some none, some none, some none, some (some ((-1), 120)), some none, some (some (0, 120)), none, none], [], .inl 6, true)], [], [c3, c4, c129, c163], ivG, [(1, 3), (54, 5), (55, 0), (56, 0), (57, 0), (58, 0)], none)
theorem k164 : chk p164 tbF 3000 c164 = true := by decide +kernel
theorem t164 {J : Jt} {X : Tok} {et : Nat → Option va_E} (hX : tOk X) (hH : HandT J X et) (hJ : JS DJ J) : ctrT ivG J X et c164 := ctr_ok (tb := tbF) (P := p164) (c := c164) (f := 3000) tbF_ok hX hJ (by decide) rfl rfl k164 (ct1 (t3 hX hH hJ) (ct1 (t4 hX hH hJ) (ct1 (t129 hX hH hJ) (ct1 (t163 hX hH hJ) ct0))))
/-- readJoined0_2 -/
noncomputable def c165 : Ctr := (23, [aR 54, aR 1, aI 0 0, aI 2 2], some [aI (-1) 120], [(1, 3), (54, 5), (55, 0), (56, 0), (57, 0), (58, 0)], 41)
noncomputable def p165 : Pg := ([(23, 39, [some none, some none, some none, some none, some (some ((-1), 120)), some none, some (some (0, 120)), none, none], [], .inl 6, true)], [], [c3, c4, c129, c164], ivG, [(1, 3), (54, 5), (55, 0), (56, 0), (57, 0), (58, 0)], none)
theorem k165 : chk p165 tbF 3000 c165 = true := by decide +kernel
theorem t165 {J : Jt} {X : Tok} {et : Nat → Option va_E} (hX : tOk X) (hH : HandT J X et) (hJ : JS DJ J) : ctrT ivG J X et c165 := ctr_ok (tb := tbF) (P := p165) (c := c165) (f := 3000) tbF_ok hX hJ (by decide) rfl rfl k165 (ct1 (t3 hX hH hJ) (ct1 (t4 hX hH hJ) (ct1 (t129 hX hH hJ) (ct1 (t164 hX hH hJ) ct0))))
/-- readOne1 -/
noncomputable def c166 : Ctr := (25, [aR 54, aR 1, aI 1 1], some [aI (-1) 120], [(1, 3), (54, 5), (55, 0), (56, 0), (57, 0), (58, 0)], 43)
noncomputable def p166 : Pg := ([], [], [c3, c4, c6, c129, c130, c159, c165], ivG, [(1, 3), (54, 5), (55, 0), (56, 0), (57, 0), (58, 0)], none)
theorem k166 : chk p166 tbF 3000 c166 = true := by decide +kernel
theorem t166 {J : Jt} {X : Tok} {et : Nat → Option va_E} (hX : tOk X) (hH : HandT J X et) (hJ : JS DJ J) : ctrT ivG J X et c166 := ctr_ok (tb := tbF) (P := p166) (c := c166) (f := 3000) tbF_ok hX hJ (by decide) rfl rfl k166 (ct1 (t3 hX hH hJ) (ct1 (t4 hX hH hJ) (ct1 (t6 hX hH hJ) (ct1 (t129 hX hH hJ) (ct1 (t130 hX hH hJ) (ct1 (t159 hX hH hJ) (ct1 (t165 hX hH hJ) ct0)))))))
/-- readJoined5_1 -/
noncomputable def c167 : Ctr := (23, [aR 54, aR 1, aI 5 5, aI 1 1], some [aI (-1) 120], [(1, 3), (54, 5), (55, 0), (56, 0), (57, 0), (58, 0)], 44)
noncomputable def p167 : Pg := ([], [], [c166], ivG, [(1, 3), (54, 5), (55, 0), (56, 0), (57, 0), (58, 0)], none)
theorem k167 : chk p167 tbF 3000 c167 = true := by decide +kernel
theorem t167 {J : Jt} {X : Tok} {et : Nat → Option va_E} (hX : tOk X) (hH : HandT J X et) (hJ : JS DJ J) : ctrT ivG J X et c167 := ctr_ok (tb := tbF) (P := p167) (c := c167) (f := 3000) tbF_ok hX hJ (by decide) rfl rfl k167 (ct1 (t166 hX hH hJ) ct0)
/-- readJoined4_1 -/
noncomputable def c168 : Ctr := (23, [aR 54, aR 1, aI 4 4, aI 1 1], some [aI (-1) 120], [(1, 3), (54, 5), (55, 0), (56, 0), (57, 0), (58, 0)], 45)
noncomputable def p168 : Pg := ([(23, 39, [some none, some none, some none, some none, some (some ((-1), 120)), some none, some (some (0, 120)), none, none], [], .inl 6, true)], [], [c3, c4, c129, c167], ivG, [(1, 3), (54, 5), (55, 0), (56, 0), (57, 0), (58, 0)], none)
theorem k168 : chk p168 tbF 3000 c168 = true := by decide +kernel
theorem t168 {J : Jt} {X : Tok} {et : Nat → Option va_E} (hX : tOk X) (hH : HandT J X et) (hJ : JS DJ J) : ctrT ivG J X et c168 := ctr_ok (tb := tbF) (P := p168) (c := c168) (f := 3000) tbF_ok hX hJ (by decide) rfl rfl k168 (ct1 (t3 hX hH hJ) (ct1 (t4 hX hH hJ) (ct1 (t129 hX hH hJ) (ct1 (t167 hX hH hJ) ct0))))
/-- readJoined3_1 -/
noncomputable def c169 : Ctr := (23, [aR 54, aR 1, aI 3 3, aI 1 1], some [aI (-1) 120], [(1, 3), (54, 5), (55, 0), (56, 0), (57, 0), (58, 0)], 46)
noncomputable def p169 : Pg := ([(23, 39, [some none, some none, some none, some none, some (some ((-1), 120)), some none, some (some (0, 120)), none, none], [], .inl 6, true)], [], [c3, c4, c129, c168], ivG, [(1, 3), (54, 5), (55, 0), (56, 0), (57, 0), (58, 0)], none)
theorem k169 : chk p169 tbF 3000 c169 = true := by decide +kernel
theorem t169 {J : Jt} {X : Tok} {et : Nat → Option va_E} (hX : tOk X) (hH : HandT J X et) (hJ : JS DJ J) : ctrT ivG J X et c169 := ctr_ok (tb := tbF) (P := p169) (c := c169) (f := 3000) tbF_ok hX hJ (by decide) rfl rfl k169 (ct1 (t3 hX hH hJ) (ct1 (t4 hX hH hJ) (ct1 (t129 hX hH hJ) (ct1 (t168 hX hH hJ) ct0))))
/-- readJoined2_1 -/
noncomputable def c170 : Ctr := (23, [aR 54, aR 1, aI 2 2, aI 1 1], some [aI (-1) 120], [(1, 3), (54, 5), (55, 0), (56, 0), (57, 0), (58, 0)], 47)
noncomputable def p170 : Pg := ([(23, 39, [some none, some none, some none, some none, some (some ((-1), 120)), some none, some (some (0, 1)), none, none], [], .inl 6, true)], [], [c3, c4, c129, c169], ivG, [(1, 3), (54, 5), (55, 0), (56, 0), (57, 0), (58, 0)], none)
theorem k170 : chk p170 tbF 3000 c170 = true := by decide +kernel
theorem t170 {J : Jt} {X : Tok} {et : Nat → Option va_E} (hX : tOk X) (hH : HandT J X et) (hJ : JS DJ J) : ctrT ivG J X et c170 := ctr_ok (tb := tbF) (P := p170) (c := c170) (f := 3000) tbF_ok hX hJ (by decide) rfl rfl k170 (ct1 (t3 hX hH hJ) (ct1 (t4 hX hH hJ) (ct1 (t129 hX hH hJ) (ct1 (t169 hX hH hJ) ct0))))
/-- readJoined1_1 -/
noncomputable def c171 : Ctr := (23, [aR 54, aR 1, aI 1 1, aI 1 1], some [aI (-1) 120], [(1, 3), (54, 5), (55, 0), (56, 0), (57, 0), (58, 0)], 48)
noncomputable def p171 : Pg := ([(23, 39, [some none, some none, some none, some none, some (some ((-1), 120)), some none, some (some (0, 120)), none, none], [], .inl 6, true)], [], [c3, c4, c129, c170], ivG, [(1, 3), (54, 5), (55, 0), (56, 0), (57, 0), (58, 0)], none)
theorem k171 : chk p171 tbF 3000 c171 = true := by decide +kernel
theorem t171 {J : Jt} {X : Tok} {et : Nat → Option va_E} (hX : tOk X) (hH : HandT J X et) (hJ : JS DJ J) : ctrT ivG J X et c171 := ctr_ok (tb := tbF) (P := p171) (c := c171) (f := 3000) tbF_ok hX hJ (by decide) rfl rfl k171 (ct1 (t3 hX hH hJ) (ct1 (t4 hX hH hJ) (ct1 (t129 hX hH hJ) (ct1 (t170 hX hH hJ) ct0))))
/-- readJoined0_1 -/
noncomputable def c172 : Ctr := (23, [aR 54, aR 1, aI 0 0, aI 1 1], some [aI (-1) 120], [(1, 3), (54, 5), (55, 0), (56, 0), (57, 0), (58, 0)], 49)
noncomputable def p172 : Pg := ([(23, 39, [some none, some none, some none, some none, some (some ((-1), 120)), some none, some (some (0, 120)), none, none], [], .inl 6, true)], [], [c3, c4, c129, c171], ivG, [(1, 3), (54, 5), (55, 0), (56, 0), (57, 0), (58, 0)], none)
theorem k172 : chk p172 tbF 3000 c172 = true := by decide +kernel
theorem t172 {J : Jt} {X : Tok} {et : Nat → Option va_E} (hX : tOk X) (hH : HandT J X et) (hJ : JS DJ J) : ctrT ivG J X et c172 := ctr_ok (tb := tbF) (P := p172) (c := c172) (f := 3000) tbF_ok hX hJ (by decide) rfl rfl k172 (ct1 (t3 hX hH hJ) (ct1 (t4 hX hH hJ) (ct1 (t129 hX hH hJ) (ct1 (t171 hX hH hJ) ct0))))
/-- readOne0 -/
noncomputable def c173 : Ctr := (25, [aR 54, aR 1, aI 0 0], some [aI (-1) 120], [(1, 3), (54, 5), (55, 0), (56, 0), (57, 0), (58, 0)], 51)
noncomputable def p173 : Pg := ([], [], [c3, c4, c6, c129, c130, c166, c172], ivG, [(1, 3), (54, 5), (55, 0), (56, 0), (57, 0), (58, 0)], none)
theorem k173 : chk p173 tbF 3000 c173 = true := by decide +kernel
theorem t173 {J : Jt} {X : Tok} {et : Nat → Option va_E} (hX : tOk X) (hH : HandT J X et) (hJ : JS DJ J) : ctrT ivG J X et c173 := ctr_ok (tb := tbF) (P := p173) (c := c173) (f := 3000) tbF_ok hX hJ (by decide) rfl rfl k173 (ct1 (t3 hX hH hJ) (ct1 (t4 hX hH hJ) (ct1 (t6 hX hH hJ) (ct1 (t129 hX hH hJ) (ct1 (t130 hX hH hJ) (ct1 (t166 hX hH hJ) (ct1 (t172 hX hH hJ) ct0)))))))
/-- readJoined5_0 -/
noncomputable def c174 : Ctr := (23, [aR 54, aR 1, aI 5 5, aI 0 0], some [aI (-1) 120], [(1, 3), (54, 5), (55, 0), (56, 0), (57, 0), (58, 0)], 52)
noncomputable def p174 : Pg := ([], [], [c173], ivG, [(1, 3), (54, 5), (55, 0), (56, 0), (57, 0), (58, 0)], none)
theorem k174 : chk p174 tbF 3000 c174 = true := by decide +kernel
theorem t174 {J : Jt} {X : Tok} {et : Nat → Option va_E} (hX : tOk X) (hH : HandT J X et) (hJ : JS DJ J) : ctrT ivG J X et c174 := ctr_ok (tb := tbF) (P := p174) (c := c174) (f := 3000) tbF_ok hX hJ (by decide) rfl rfl k174 (ct1 (t173 hX hH hJ) ct0)
/-- readJoined4_0 -/
noncomputable def c175 : Ctr := (23, [aR 54, aR 1, aI 4 4, aI 0 0], some [aI (-1) 120], [(1, 3), (54, 5), (55, 0), (56, 0), (57, 0), (58, 0)], 53)
noncomputable def p175 : Pg := ([(23, 39, [some none, some none, some none, some none, some (some ((-1), 120)), some none, some (some (0, 120)), none, none], [], .inl 6, true)], [], [c3, c4, c129, c174], ivG, [(1, 3), (54, 5), (55, 0), (56, 0), (57, 0), (58, 0)], none)
theorem k175 : chk p175 tbF 3000 c175 = true := by decide +kernel
theorem t175 {J : Jt} {X : Tok} {et : Nat → Option va_E} (hX : tOk X) (hH : HandT J X et) (hJ : JS DJ J) : ctrT ivG J X et c175 := ctr_ok (tb := tbF) (P := p175) (c := c175) (f := 3000) tbF_ok hX hJ (by decide) rfl rfl k175 (ct1 (t3 hX hH hJ) (ct1 (t4 hX hH hJ) (ct1 (t129 hX hH hJ) (ct1 (t174 hX hH hJ) ct0))))
/-- readJoined3_0 -/
noncomputable def c176 : Ctr := (23, [aR 54, aR 1, aI 3 3, aI 0 0], some [aI (-1) 120], [(1, 3), (54, 5), (55, 0), (56, 0), (57, 0), (58, 0)], 54)
noncomputable def p176 : Pg := ([(23, 39, [some none, some none, some none, some none, some (some ((-1), 120)), some none, some (some (0, 120)), none, none], [], .inl 6, true)], [], [c3, c4, c129, c175], ivG, [(1, 3), (54, 5), (55, 0), (56, 0), (57, 0), (58, 0)], none)
theorem k176 : chk p176 tbF 3000 c176 = true := by decide +kernel
theorem t176 {J : Jt} {X : Tok} {et : Nat → Option va_E} (hX : tOk X) (hH : HandT J X et) (hJ : JS DJ J) : ctrT ivG J X et c176 := ctr_ok (tb := tbF) (P := p176) (c := c176) (f := 3000) tbF_ok hX hJ (by decide) rfl rfl k176 (ct1 (t3 hX hH hJ) (ct1 (t4 hX hH hJ) (ct1 (t129 hX hH hJ) (ct1 (t175 hX hH hJ) ct0))))
/-- readJoined2_0 -/
noncomputable def c177 : Ctr := (23, [aR 54, aR 1, aI 2 2, aI 0 0], some [aI (-1) 120], [(1, 3), (54, 5), (55, 0), (56, 0), (57, 0), (58, 0)], 55)
noncomputable def p177 : Pg := ([(23, 39, [some none, some none, some none, some none, some (some ((-1), 120)), some none, some (some (0, 1)), none, none], [], .inl 6, true)], [], [c3, c4, c129, c176], ivG, [(1, 3), (54, 5), (55, 0), (56, 0), (57, 0), (58, 0)], none)
theorem k177 : chk p177 tbF 3000 c177 = true := by decide +kernel
theorem t177 {J : Jt} {X : Tok} {et : Nat → Option va_E} (hX : tOk X) (hH : HandT J X et) (hJ : JS DJ J) : ctrT ivG J X et c177 := ctr_ok (tb := tbF) (P := p177) (c := c177) (f := 3000) tbF_ok hX hJ (by decide) rfl rfl k177 (ct1 (t3 hX hH hJ) (ct1 (t4 hX hH hJ) (ct1 (t129 hX hH hJ) (ct1 (t176 hX hH hJ) ct0))))
/-- readJoined1_0 -/
noncomputable def c178 : Ctr := (23, [aR 54, aR 1, aI 1 1, aI 0 0], some [aI (-1) 120], [(1, 3), (54, 5), (55, 0), (56, 0), (57, 0), (58, 0)], 56)
noncomputable def p178 : Pg := ([(23, 39, [some none, some none, some none, some none, some (some ((-1), 120)), some none, some (some (0, 120)), none, none], [], .inl 6, true)], [], [c3, c4, c129, c177], ivG, [(1, 3), (54, 5), (55, 0), (56, 0), (57, 0), (58, 0)], none)
theorem k178 : chk p178 tbF 3000 c178 = true := by decide +kernel
theorem t178 {J : Jt} {X : Tok} {et : Nat → Option va_E} (hX : tOk X) (hH : HandT J X et) (hJ : JS DJ J) : ctrT ivG J X et c178 := ctr_ok (tb := tbF) (P := p178) (c := c178) (f := 3000) tbF_ok hX hJ (by decide) rfl rfl k178 (ct1 (t3 hX hH hJ) (ct1 (t4 hX hH hJ) (ct1 (t129 hX hH hJ) (ct1 (t177 hX hH hJ) ct0))))
/-- readJoined0_0 -/
noncomputable def c179 : Ctr := (23, [aR 54, aR 1, aI 0 0, aI 0 0], some [aI (-1) 120], [(1, 3), (54, 5), (55, 0), (56, 0), (57, 0), (58, 0)], 57)
noncomputable def p179 : Pg := ([(23, 39, [some none, some none, some none, some none, some (some ((-1), 120)), some none, some (some (0, 120)), none, none], [], .inl 6, true)], [], [c3, c4, c129, c178], ivG, [(1, 3), (54, 5), (55, 0), (56, 0), (57, 0), (58, 0)], none)
theorem k179 : chk p179 tbF 3000 c179 = true := by decide +kernel
theorem t179 {J : Jt} {X : Tok} {et : Nat → Option va_E} (hX : tOk X) (hH : HandT J X et) (hJ : JS DJ J) : ctrT ivG J X et c179 := ctr_ok (tb := tbF) (P := p179) (c := c179) (f := 3000) tbF_ok hX hJ (by decide) rfl rfl k179 (ct1 (t3 hX hH hJ) (ct1 (t4 hX hH hJ) (ct1 (t129 hX hH hJ) (ct1 (t178 hX hH hJ) ct0))))
/-- MFl_readLine -/
noncomputable def c180 : Ctr := (22, [aR 54, aR 1], some [aI 0 1], [(1, 3), (54, 5), (55, 0), (56, 0), (57, 0), (58, 0)], 58)
noncomputable def p180 : Pg := ([], [], [c4, c129, c179], ivG, [(1, 3), (54, 5), (55, 0), (56, 0), (57, 0), (58, 0)], none)
theorem k180 : chk p180 tbF 3000 c180 = true := by decide +kernel
theorem t180 {J : Jt} {X : Tok} {et : Nat → Option va_E} (hX : tOk X) (hH : HandT J X et) (hJ : JS DJ J) : ctrT ivG J X et c180 := ctr_ok (tb := tbF) (P := p180) (c := c180) (f := 3000) tbF_ok hX hJ (by decide) rfl rfl k180 (ct1 (t4 hX hH hJ) (ct1 (t129 hX hH hJ) (ct1 (t179 hX hH hJ) ct0)))
/-- MFl_readFrom -/
noncomputable def c181 : Ctr := (21, [aR 54, aR 1], some [aI 0 1], [(1, 3), (54, 5), (55, 0), (56, 0), (57, 0), (58, 0)], 59)
noncomputable def p181 : Pg := ([(21, 9, [some none, some none, some (some (0, 1)), some (some (0, 121))], [(54, 4)], .inl 3, true)], [], [c4, c180], ivG, [(1, 3), (54, 5), (55, 0), (56, 0), (57, 0), (58, 0)], none)
theorem k181 : chk p181 tbF 3000 c181 = true := by decide +kernel
theorem t181 {J : Jt} {X : Tok} {et : Nat → Option va_E} (hX : tOk X) (hH : HandT J X et) (hJ : JS DJ J) : ctrT ivG J X et c181 := ctr_ok (tb := tbF) (P := p181) (c := c181) (f := 3000) tbF_ok hX hJ (by decide) rfl rfl k181 (ct1 (t4 hX hH hJ) (ct1 (t180 hX hH hJ) ct0))
/-- MFl_result -/
noncomputable def c182 : Ctr := (32, [aR 54, aT, aT, aT], some [aT], [], 0)
noncomputable def p182 : Pg := ([], [], [], ivG, [], none)
theorem k182 : chk p182 tbF 3000 c182 = true := by decide +kernel
theorem t182 {J : Jt} {X : Tok} {et : Nat → Option va_E} (hX : tOk X) (hH : HandT J X et) (hJ : JS DJ J) : ctrT ivG J X et c182 := ctr_ok (tb := tbF) (P := p182) (c := c182) (f := 3000) tbF_ok hX hJ (by decide) rfl rfl k182 ct0
/-- MFl_takes -/
noncomputable def c183 : Ctr := (30, [aR 54, aT, aT], some [aI 0 2147483647], [(54, 6), (54, 7), (58, 0)], 1)
noncomputable def p183 : Pg := ([(30, 15, [some none, some none, some none, some (some (0, 1)), some (some (0, 121)), none, none], [], .inl 4, true)], [], [c182], ivG, [(54, 6), (54, 7), (58, 0)], none)
theorem k183 : chk p183 tbF 3000 c183 = true := by decide +kernel
theorem t183 {J : Jt} {X : Tok} {et : Nat → Option va_E} (hX : tOk X) (hH : HandT J X et) (hJ : JS DJ J) : ctrT ivG J X et c183 := ctr_ok (tb := tbF) (P := p183) (c := c183) (f := 3000) tbF_ok hX hJ (by decide) rfl rfl k183 (ct1 (t182 hX hH hJ) ct0)
/-- MFl_name -/
noncomputable def c184 : Ctr := (29, [aR 54, aT, aT, aT, aT], none, [(54, 8), (54, 9), (54, 10), (54, 11)], 1)
noncomputable def p184 : Pg := ([], [], [], ivG, [(54, 8), (54, 9), (54, 10), (54, 11)], none)
theorem k184 : chk p184 tbF 3000 c184 = true := by decide +kernel
theorem t184 {J : Jt} {X : Tok} {et : Nat → Option va_E} (hX : tOk X) (hH : HandT J X et) (hJ : JS DJ J) : ctrT ivG J X et c184 := ctr_ok (tb := tbF) (P := p184) (c := c184) (f := 3000) tbF_ok hX hJ (by decide) rfl rfl k184 ct0
/-- MFl_append -/
noncomputable def c185 : Ctr := (27, [aR 59, aT, aT, aT], some [aI (-1) 120], [(59, 5), (60, 0), (61, 0), (62, 0)], 0)
noncomputable def p185 : Pg := ([], [], [], ivG, [(59, 5), (60, 0), (61, 0), (62, 0)], none)
theorem k185 : chk p185 tbF 3000 c185 = true := by decide +kernel
theorem t185 {J : Jt} {X : Tok} {et : Nat → Option va_E} (hX : tOk X) (hH : HandT J X et) (hJ : JS DJ J) : ctrT ivG J X et c185 := ctr_ok (tb := tbF) (P := p185) (c := c185) (f := 3000) tbF_ok hX hJ (by decide) rfl rfl k185 ct0
/-- MFl_appendNumber -/
noncomputable def c186 : Ctr := (28, [aR 59, aT], some [aI (-1) 120], [(59, 5), (60, 0), (61, 0), (62, 0), (63, 0)], 1)
noncomputable def p186 : Pg := ([], [], [c185], ivG, [(59, 5), (60, 0), (61, 0), (62, 0), (63, 0)], none)
theorem k186 : chk p186 tbF 3000 c186 = true := by decide +kernel
theorem t186 {J : Jt} {X : Tok} {et : Nat → Option va_E} (hX : tOk X) (hH : HandT J X et) (hJ : JS DJ J) : ctrT ivG J X et c186 := ctr_ok (tb := tbF) (P := p186) (c := c186) (f := 3000) tbF_ok hX hJ (by decide) rfl rfl k186 (ct1 (t185 hX hH hJ) ct0)
/-- readOne6 -/
noncomputable def c187 : Ctr := (25, [aR 59, aR 1, aI 6 6], some [aI (-1) 120], [(1, 3), (59, 5), (60, 0), (61, 0), (62, 0), (63, 0)], 3)
noncomputable def p187 : Pg := ([], [], [c3, c4, c6, c185, c186], ivG, [(1, 3), (59, 5), (60, 0), (61, 0), (62, 0), (63, 0)], none)
theorem k187 : chk p187 tbF 3000 c187 = true := by decide +kernel
theorem t187 {J : Jt} {X : Tok} {et : Nat → Option va_E} (hX : tOk X) (hH : HandT J X et) (hJ : JS DJ J) : ctrT ivG J X et c187 := ctr_ok (tb := tbF) (P := p187) (c := c187) (f := 3000) tbF_ok hX hJ (by decide) rfl rfl k187 (ct1 (t3 hX hH hJ) (ct1 (t4 hX hH hJ) (ct1 (t6 hX hH hJ) (ct1 (t185 hX hH hJ) (ct1 (t186 hX hH hJ) ct0)))))
/-- readJoined5_6 -/
noncomputable def c188 : Ctr := (23, [aR 59, aR 1, aI 5 5, aI 6 6], some [aI (-1) 120], [(1, 3), (59, 5), (60, 0), (61, 0), (62, 0), (63, 0)], 4)
noncomputable def p188 : Pg := ([], [], [c187], ivG, [(1, 3), (59, 5), (60, 0), (61, 0), (62, 0), (63, 0)], none)
theorem k188 : chk p188 tbF 3000 c188 = true := by decide +kernel
theorem t188 {J : Jt} {X : Tok} {et : Nat → Option va_E} (hX : tOk X) (hH : HandT J X et) (hJ : JS DJ J) : ctrT ivG J X et c188 := ctr_ok (tb := tbF) (P := p188) (c := c188) (f := 3000) tbF_ok hX hJ (by decide) rfl rfl k188 (ct1 (t187 hX hH hJ) ct0)
/-- readJoined4_6 -/
noncomputable def c189 : Ctr := (23, [aR 59, aR 1, aI 4 4, aI 6 6], some [aI (-1) 120], [(1, 3), (59, 5), (60, 0), (61, 0), (62, 0), (63, 0)], 5)
noncomputable def p189 : Pg := ([(23, 39, [some none, some none, some none, some none, some (some ((-1), 120)), some none, some (some (0, 120)), none, none], [], .inl 6, true)], [], [c3, c4, c185, c188], ivG, [(1, 3), (59, 5), (60, 0), (61, 0), (62, 0), (63, 0)], none)
theorem k189 : chk p189 tbF 3000 c189 = true := by decide +kernel
theorem t189 {J : Jt} {X : Tok} {et : Nat → Option va_E} (hX : tOk X) (hH : HandT J X et) (hJ : JS DJ J) : ctrT ivG J X et c189 := ctr_ok (tb := tbF) (P := p189) (c := c189) (f := 3000) tbF_ok hX hJ (by decide) rfl rfl k189 (ct1 (t3 hX hH hJ) (ct1 (t4 hX hH hJ) (ct1 (t185 hX hH hJ) (ct1 (t188 hX hH hJ) ct0))))
/-- readJoined3_6 -/
noncomputable def c190 : Ctr := (23, [aR 59, aR 1, aI 3 3, aI 6 6], some [aI (-1) 120], [(1, 3), (59, 5), (60, 0), (61, 0), (62, 0), (63, 0)], 6)
noncomputable def p190 : Pg := ([(23, 39, [some none, some none, some none, some none, some (some ((-1), 120)), some none, some (some (0, 120)), none, none], [], .inl 6, true)], [], [c3, c4, c185, c189], ivG, [(1, 3), (59, 5), (60, 0), (61, 0), (62, 0), (63, 0)], none)
theorem k190 : chk p190 tbF 3000 c190 = true := by decide +kernel
theorem t190 {J : Jt} {X : Tok} {et : Nat → Option va_E} (hX : tOk X) (hH : HandT J X et) (hJ : JS DJ J) : ctrT ivG J X et c190 := ctr_ok (tb := tbF) (P := p190) (c := c190) (f := 3000) tbF_ok hX hJ (by decide) rfl rfl k190 (ct1 (t3 hX hH hJ) (ct1 (t4 hX hH hJ) (ct1 (t185 hX hH hJ) (ct1 (t189 hX hH hJ) ct0))))
/-- readJoined2_6 -/
noncomputable def c191 : Ctr := (23, [aR 59, aR 1, aI 2 2, aI 6 6], some [aI (-1) 120], [(1, 3), (59, 5), (60, 0), (61, 0), (62, 0), (63, 0)], 7)
noncomputable def p191 : Pg := ([(23, 39, [some none, some none, some none, some none, some (some ((-1), 120)), some none, some (some (0, 1)), none, none], [], .inl 6, true)], [], [c3, c4, c185, c190], ivG, [(1, 3), (59, 5), (60, 0), (61, 0), (62, 0), (63, 0)], none)
theorem k191 : chk p191 tbF 3000 c191 = true := by decide +kernel
theorem t191 {J : Jt} {X : Tok} {et : Nat → Option va_E} (hX : tOk X) (hH : HandT J X et) (hJ : JS DJ J) : ctrT ivG J X et c191 := ctr_ok (tb := tbF) (P := p191) (c := c191) (f := 3000) tbF_ok hX hJ (by decide) rfl rfl k191 (ct1 (t3 hX hH hJ) (ct1 (t4 hX hH hJ) (ct1 (t185 hX hH hJ) (ct1 (t190 hX hH hJ) ct0))))
/-- readJoined1_6 -/
noncomputable def c192 : Ctr := (23, [aR 59, aR 1, aI 1 1, aI 6 6], some [aI (-1) 120], [(1, 3), (59, 5), (60, 0), (61, 0), (62, 0), (63, 0)], 8)
noncomputable def p192 : Pg := ([(23, 39, [some none, some none, some none, some none, some (some ((-1), 120)), some none, some (some (0, 120)), none, none], [], .inl 6, true)], [], [c3, c4, c185, c191], ivG, [(1, 3), (59, 5), (60, 0), (61, 0), (62, 0), (63, 0)], none)
theorem k192 : chk p192 tbF 3000 c192 = true := by decide +kernel
theorem t192 {J : Jt} {X : Tok} {et : Nat → Option va_E} (hX : tOk X) (hH : HandT J X et) (hJ : JS DJ J) : ctrT ivG J X et c192 := ctr_ok (tb := tbF) (P := p192) (c := c192) (f := 3000) tbF_ok hX hJ (by decide) rfl rfl k192 (ct1 (t3 hX hH hJ) (ct1 (t4 hX hH hJ) (ct1 (t185 hX hH hJ) (ct1 (t191 hX hH hJ) ct0))))
/-- readJoined0_6 -/
noncomputable def c193 : Ctr := (23, [aR 59, aR 1, aI 0 0, aI 6 6], some [aI (-1) 120], [(1, 3), (59, 5), (60, 0), (61, 0), (62, 0), (63, 0)], 9)
noncomputable def p193 : Pg := ([(23, 39, [some none, some none, some none, some none, some (some ((-1), 120)), some none, some (some (0, 120)), none, none], [], .inl 6, true)], [], [c3, c4, c185, c192], ivG, [(1, 3), (59, 5), (60, 0), (61, 0), (62, 0), (63, 0)], none)
theorem k193 : chk p193 tbF 3000 c193 = true := by decide +kernel
theorem t193 {J : Jt} {X : Tok} {et : Nat → Option va_E} (hX : tOk X) (hH : HandT J X et) (hJ : JS DJ J) : ctrT ivG J X et c193 := ctr_ok (tb := tbF) (P := p193) (c := c193) (f := 3000) tbF_ok hX hJ (by decide) rfl rfl k193 (ct1 (t3 hX hH hJ) (ct1 (t4 hX hH hJ) (ct1 (t185 hX hH hJ) (ct1 (t192 hX hH hJ) ct0))))
/-- readOne5 -/
noncomputable def c194 : Ctr := (25, [aR 59, aR 1, aI 5 5], some [aI (-1) 120], [(1, 3), (59, 5), (60, 0), (61, 0), (62, 0), (63, 0)], 11)
noncomputable def p194 : Pg := ([], [], [c3, c4, c6, c185, c186, c187, c193], ivG, [(1, 3), (59, 5), (60, 0), (61, 0), (62, 0), (63, 0)], none)
theorem k194 : chk p194 tbF 3000 c194 = true := by decide +kernel
theorem t194 {J : Jt} {X : Tok} {et : Nat → Option va_E} (hX : tOk X) (hH : HandT J X et) (hJ : JS DJ J) : ctrT ivG J X et c194 := ctr_ok (tb := tbF) (P := p194) (c := c194) (f := 3000) tbF_ok hX hJ (by decide) rfl rfl k194 (ct1 (t3 hX hH hJ) (ct1 (t4 hX hH hJ) (ct1 (t6 hX hH hJ) (ct1 (t185 hX hH hJ) (ct1 (t186 hX hH hJ) (ct1 (t187 hX hH hJ) (ct1 (t193 hX hH hJ) ct0)))))))
/-- readJoined5_5 -/
noncomputable def c195 : Ctr := (23, [aR 59, aR 1, aI 5 5, aI 5 5], some [aI (-1) 120], [(1, 3), (59, 5), (60, 0), (61, 0), (62, 0), (63, 0)], 12)
noncomputable def p195 : Pg := ([], [], [c194], ivG, [(1, 3), (59, 5), (60, 0), (61, 0), (62, 0), (63, 0)], none)
theorem k195 : chk p195 tbF 3000 c195 = true := by decide +kernel
theorem t195 {J : Jt} {X : Tok} {et : Nat → Option va_E} (hX : tOk X) (hH : HandT J X et) (hJ : JS DJ J) : ctrT ivG J X et c195 := ctr_ok (tb := tbF) (P := p195) (c := c195) (f := 3000) tbF_ok hX hJ (by decide) rfl rfl k195 (ct1 (t194 hX hH hJ) ct0)
/-- readJoined4_5 -/
noncomputable def c196 : Ctr := (23, [aR 59, aR 1, aI 4 4, aI 5 5], some [aI (-1) 120], [(1, 3), (59, 5), (60, 0), (61, 0), (62, 0), (63, 0)], 13)
noncomputable def p196 : Pg := ([(23, 39, [some none, some none, some none, some none, some (some ((-1), 120)), some none, some (some (0, 120)), none, none], [], .inl 6, true)], [], [c3, c4, c185, c195], ivG, [(1, 3), (59, 5), (60, 0), (61, 0), (62, 0), (63, 0)], none)
theorem k196 : chk p196 tbF 3000 c196 = true := by decide +kernel
theorem t196 {J : Jt} {X : Tok} {et : Nat → Option va_E} (hX : tOk X) (hH : HandT J X et) (hJ : JS DJ J) : ctrT ivG J X et c196 := ctr_ok (tb := tbF) (P := p196) (c := c196) (f := 3000) tbF_ok hX hJ (by decide) rfl rfl k196 (ct1 (t3 hX hH hJ) (ct1 (t4 hX hH hJ) (ct1 (t185 hX hH hJ) (ct1 (t195 hX hH hJ) ct0))))
/-- readJoined3_5 -/
noncomputable def c197 : Ctr := (23, [aR 59, aR 1, aI 3 3, aI 5 5], some [aI (-1) 120], [(1, 3), (59, 5), (60, 0), (61, 0), (62, 0), (63, 0)], 14)
noncomputable def p197 : Pg := ([(23, 39, [some none, some none, some none, some none, some (some ((-1), 120)), some none, some (some (0, 120)), none, none], [], .inl 6, true)], [], [c3, c4, c185, c196], ivG, [(1, 3), (59, 5), (60, 0), (61, 0), (62, 0), (63, 0)], none)
theorem k197 : chk p197 tbF 3000 c197 = true := by decide +kernel
theorem t197 {J : Jt} {X : Tok} {et : Nat → Option va_E} (hX : tOk X) (hH : HandT J X et) (hJ : JS DJ J) : ctrT ivG J X et c197 := ctr_ok (tb := tbF) (P := p197) (c := c197) (f := 3000) tbF_ok hX hJ (by decide) rfl rfl k197 (ct1 (t3 hX hH hJ) (ct1 (t4 hX hH hJ) (ct1 (t185 hX hH hJ) (ct1 (t196 hX hH hJ) ct0))))
/-- readJoined2_5 -/
noncomputable def c198 : Ctr := (23, [aR 59, aR 1, aI 2 2, aI 5 5], some [aI (-1) 120], [(1, 3), (59, 5), (60, 0), (61, 0), (62, 0), (63, 0)], 15)
noncomputable def p198 : Pg := ([(23, 39, [some none, some none, some none, some none, some (some ((-1), 120)), some none, some (some (0, 1)), none, none], [], .inl 6, true)], [], [c3, c4, c185, c197], ivG, [(1, 3), (59, 5), (60, 0), (61, 0), (62, 0), (63, 0)], none)
theorem k198 : chk p198 tbF 3000 c198 = true := by decide +kernel
theorem t198 {J : Jt} {X : Tok} {et : Nat → Option va_E} (hX : tOk X) (hH : HandT J X et) (hJ : JS DJ J) : ctrT ivG J X et c198 := ctr_ok (tb := tbF) (P := p198) (c := c198) (f := 3000) tbF_ok hX hJ (by decide) rfl rfl k198 (ct1 (t3 hX hH hJ) (ct1 (t4 hX hH hJ) (ct1 (t185 hX hH hJ) (ct1 (t197 hX hH hJ) ct0))))
/-- readJoined1_5 -/
noncomputable def c199 : Ctr := (23, [aR 59, aR 1, aI 1 1, aI 5 5], some [aI (-1) 120], [(1, 3), (59, 5), (60, 0), (61, 0), (62, 0), (63, 0)], 16)
noncomputable def p199 : Pg := ([(23, 39, [some none, some none, some none, some none, some (some ((-1), 120)), some none, some (some (0, 120)), none, none], [], .inl 6, true)], [], [c3, c4, c185, c198], ivG, [(1, 3), (59, 5), (60, 0), (61, 0), (62, 0), (63, 0)], none)
theorem k199 : chk p199 tbF 3000 c199 = true := by decide +kernel
theorem t199 {J : Jt} {X : Tok} {et : Nat → Option va_E} (hX : tOk X) (hH : HandT J X et) (hJ : JS DJ J) : ctrT ivG J X et c199 := ctr_ok (tb := tbF) (P := p199) (c := c199) (f := 3000) tbF_ok hX hJ (by decide) rfl rfl k199 (ct1 (t3 hX hH hJ) (ct1 (t4 hX hH hJ) (ct1 (t185 hX hH hJ) (ct1 (t198 hX hH hJ) ct0))))
/-- readJoined0_5 -/
noncomputable def c200 : Ctr := (23, [aR 59, aR 1, aI 0 0, aI 5 5], some [aI (-1) 120], [(1, 3), (59, 5), (60, 0), (61, 0), (62, 0), (63, 0)], 17)
noncomputable def p200 : Pg := ([(23, 39, [some none, some none, some none, some none, some (some ((-1), 120)), some none, some (some (0, 120)), none, none], [], .inl 6, true)], [], [c3, c4, c185, c199], ivG, [(1, 3), (59, 5), (60, 0), (61, 0), (62, 0), (63, 0)], none)
theorem k200 : chk p200 tbF 3000 c200 = true := by decide +kernel
theorem t200 {J : Jt} {X : Tok} {et : Nat → Option va_E} (hX : tOk X) (hH : HandT J X et) (hJ : JS DJ J) : ctrT ivG J X et c200 := ctr_ok (tb := tbF) (P := p200) (c := c200) (f := 3000) tbF_ok hX hJ (by decide) rfl rfl k200 (ct1 (t3 hX hH hJ) (ct1 (t4 hX hH hJ) (ct1 (t185 hX hH hJ) (ct1 (t199 hX hH hJ) ct0))))
/-- readOne4 -/
noncomputable def c201 : Ctr := (25, [aR 59, aR 1, aI 4 4], some [aI (-1) 120], [(1, 3), (59, 5), (60, 0), (61, 0), (62, 0), (63, 0)], 19)
noncomputable def p201 : Pg := ([], [], [c3, c4, c6, c185, c186, c194, c200], ivG, [(1, 3), (59, 5), (60, 0), (61, 0), (62, 0), (63, 0)], none)
theorem k201 : chk p201 tbF 3000 c201 = true := by decide +kernel
theorem t201 {J : Jt} {X : Tok} {et : Nat → Option va_E} (hX : tOk X) (hH : HandT J X et) (hJ : JS DJ J) : ctrT ivG J X et c201 := ctr_ok (tb := tbF) (P := p201) (c := c201) (f := 3000) tbF_ok hX hJ (by decide) rfl rfl k201 (ct1 (t3 hX hH hJ) (ct1 (t4 hX hH hJ) (ct1 (t6 hX hH hJ) (ct1 (t185 hX hH hJ) (ct1 (t186 hX hH hJ) (ct1 (t194 hX hH hJ) (ct1 (t200 hX hH hJ) ct0)))))))
/-- readJoined5_4 -/
noncomputable def c202 : Ctr := (23, [aR 59, aR 1, aI 5 5, aI 4 4], some [aI (-1) 120], [(1, 3), (59, 5), (60, 0), (61, 0), (62, 0), (63, 0)], 20)
noncomputable def p202 : Pg := ([], [], [c201], ivG, [(1, 3), (59, 5), (60, 0), (61, 0), (62, 0), (63, 0)], none)
theorem k202 : chk p202 tbF 3000 c202 = true := by decide +kernel
theorem t202 {J : Jt} {X : Tok} {et : Nat → Option va_E} (hX : tOk X) (hH : HandT J X et) (hJ : JS DJ J) : ctrT ivG J X et c202 := ctr_ok (tb := tbF) (P := p202) (c := c202) (f := 3000) tbF_ok hX hJ (by decide) rfl rfl k202 (ct1 (t201 hX hH hJ) ct0)
/-- readJoined4_4 -/
noncomputable def c203 : Ctr := (23, [aR 59, aR 1, aI 4 4, aI 4 4], some [aI (-1) 120], [(1, 3), (59, 5), (60, 0), (61, 0), (62, 0), (63, 0)], 21)
noncomputable def p203 : Pg := ([(23, 39, [some none, some none, some none, some none, some (some ((-1), 120)), some none, some (some (0, 120)), none, none], [], .inl 6, true)], [], [c3, c4, c185, c202], ivG, [(1, 3), (59, 5), (60, 0), (61, 0), (62, 0), (63, 0)], none)
theorem k203 : chk p203 tbF 3000 c203 = true := by decide +kernel
theorem t203 {J : Jt} {X : Tok} {et : Nat → Option va_E} (hX : tOk X) (hH : HandT J X et) (hJ : JS DJ J) : ctrT ivG J X et c203 := ctr_ok (tb := tbF) (P := p203) (c := c203) (f := 3000) tbF_ok hX hJ (by decide) rfl rfl k203 (ct1 (t3 hX hH hJ) (ct1 (t4 hX hH hJ) (ct1 (t185 hX hH hJ) (ct1 (t202 hX hH hJ) ct0))))
/-- readJoined3_4 -/
noncomputable def c204 : Ctr := (23, [aR 59, aR 1, aI 3 3, aI 4 4], some [aI (-1) 120], [(1, 3), (59, 5), (60, 0), (61, 0), (62, 0), (63, 0)], 22)
noncomputable def p204 : Pg := ([(23, 39, [some none, some none, some none, some none, some (some ((-1), 120)), some none, some (some (0, 120)), none, none], [], .inl 6, true)], [], [c3, c4, c185, c203], ivG, [(1, 3), (59, 5), (60, 0), (61, 0), (62, 0), (63, 0)], none)
theorem k204 : chk p204 tbF 3000 c204 = true := by decide +kernel
theorem t204 {J : Jt} {X : Tok} {et : Nat → Option va_E} (hX : tOk X) (hH : HandT J X et) (hJ : JS DJ J) : ctrT ivG J X et c204 := ctr_ok (tb := tbF) (P := p204) (c := c204) (f := 3000) tbF_ok hX hJ (by decide) rfl rfl k204 (ct1 (t3 hX hH hJ) (ct1 (t4 hX hH hJ) (ct1 (t185 hX hH hJ) (ct1 (t203 hX hH hJ) ct0))))
/-- readJoined2_4 -/
noncomputable def c205 : Ctr := (23, [aR 59, aR 1, aI 2 2, aI 4 4], some [aI (-1) 120], [(1, 3), (59, 5), (60, 0), (61, 0), (62, 0), (63, 0)], 23)
noncomputable def p205 : Pg := ([(23, 39, [some none, some none, some none, some none, some (some ((-1), 120)), some none, some (some (0, 1)), none, none], [], .inl 6, true)], [], [c3, c4, c185, c204], ivG, [(1, 3), (59, 5), (60, 0), (61, 0), (62, 0), (63, 0)], none)
theorem k205 : chk p205 tbF 3000 c205 = true := by decide +kernel
theorem t205 {J : Jt} {X : Tok} {et : Nat → Option va_E} (hX : tOk X) (hH : HandT J X et) (hJ : JS DJ J) : ctrT ivG J X et c205 := ctr_ok (tb := tbF) (P := p205) (c := c205) (f := 3000) tbF_ok hX hJ (by decide) rfl rfl k205 (ct1 (t3 hX hH hJ) (ct1 (t4 hX hH hJ) (ct1 (t185 hX hH hJ) (ct1 (t204 hX hH hJ) ct0))))
/-- readJoined1_4 -/
noncomputable def c206 : Ctr := (23, [aR 59, aR 1, aI 1 1, aI 4 4], some [aI (-1) 120], [(1, 3), (59, 5), (60, 0), (61, 0), (62, 0), (63, 0)], 24)
noncomputable def p206 : Pg := ([(23, 39, [some none, some none, some none, some none, some (some ((-1), 120)), some none, some (some (0, 120)), none, none], [], .inl 6, true)], [], [c3, c4, c185, c205], ivG, [(1, 3), (59, 5), (60, 0), (61, 0), (62, 0), (63, 0)], none)
theorem k206 : chk p206 tbF 3000 c206 = true := by decide +kernel
theorem t206 {J : Jt} {X : Tok} {et : Nat → Option va_E} (hX : tOk X) (hH : HandT J X et) (hJ : JS DJ J) : ctrT ivG J X et c206 := ctr_ok (tb := tbF) (P := p206) (c := c206) (f := 3000) tbF_ok hX hJ (by decide) rfl rfl k206 (ct1 (t3 hX hH hJ) (ct1 (t4 hX hH hJ) (ct1 (t185 hX hH hJ) (ct1 (t205 hX hH hJ) ct0))))
/-- readJoined0_4 -/
noncomputable def c207 : Ctr := (23, [aR 59, aR 1, aI 0 0, aI 4 4], some [aI (-1) 120], [(1, 3), (59, 5), (60, 0), (61, 0), (62, 0), (63, 0)], 25)
noncomputable def p207 : Pg := ([(23, 39, [some none, some none, some none, some none, some (some ((-1), 120)), some none, some (some (0, 120)), none, none], [], .inl 6, true)], [], [c3, c4, c185, c206], ivG, [(1, 3), (59, 5), (60, 0), (61, 0), (62, 0), (63, 0)], none)
theorem k207 : chk p207 tbF 3000 c207 = true := by decide +kernel
theorem t207 {J : Jt} {X : Tok} {et : Nat → Option va_E} (hX : tOk X) (hH : HandT J X et) (hJ : JS DJ J) : ctrT ivG J X et c207 := ctr_ok (tb := tbF) (P := p207) (c := c207) (f := 3000) tbF_ok hX hJ (by decide) rfl rfl k207 (ct1 (t3 hX hH hJ) (ct1 (t4 hX hH hJ) (ct1 (t185 hX hH hJ) (ct1 (t206 hX hH hJ) ct0))))
/-- readOne3 -/
noncomputable def c208 : Ctr := (25, [aR 59, aR 1, aI 3 3], some [aI (-1) 120], [(1, 3), (59, 5), (60, 0), (61, 0), (62, 0), (63, 0)], 27)
noncomputable def p208 : Pg := ([], [], [c3, c4, c6, c185, c186, c201, c207], ivG, [(1, 3), (59, 5), (60, 0), (61, 0), (62, 0), (63, 0)], none)
theorem k208 : chk p208 tbF 3000 c208 = true := by decide +kernel
theorem t208 {J : Jt} {X : Tok} {et : Nat → Option va_E} (hX : tOk X) (hH : HandT J X et) (hJ : JS DJ J) : ctrT ivG J X et c208 := ctr_ok (tb := tbF) (P := p208) (c := c208) (f := 3000) tbF_ok hX hJ (by decide) rfl rfl k208 (ct1 (t3 hX hH hJ) (ct1 (t4 hX hH hJ) (ct1 (t6 hX hH hJ) (ct1 (t185 hX hH hJ) (ct1 (t186 hX hH hJ) (ct1 (t201 hX hH hJ) (ct1 (t207 hX hH hJ) ct0)))))))
/-- readJoined5_3 -/
noncomputable def c209 : Ctr := (23, [aR 59, aR 1, aI 5 5, aI 3 3], some [aI (-1) 120], [(1, 3), (59, 5), (60, 0), (61, 0), (62, 0), (63, 0)], 28)
noncomputable def p209 : Pg := ([], [], [c208], ivG, [(1, 3), (59, 5), (60, 0), (61, 0), (62, 0), (63, 0)], none)
theorem k209 : chk p209 tbF 3000 c209 = true := by decide +kernel
theorem t209 {J : Jt} {X : Tok} {et : Nat → Option va_E} (hX : tOk X) (hH : HandT J X et) (hJ : JS DJ J) : ctrT ivG J X et c209 := ctr_ok (tb := tbF) (P := p209) (c := c209) (f := 3000) tbF_ok hX hJ (by decide) rfl rfl k209 (ct1 (t208 hX hH hJ) ct0)
/-- readJoined4_3 -/
noncomputable def c210 : Ctr := (23, [aR 59, aR 1, aI 4 4, aI 3 3], some [aI (-1) 120], [(1, 3), (59, 5), (60, 0), (61, 0), (62, 0), (63, 0)], 29)
noncomputable def p210 : Pg := ([(23, 39, [some none, some none, some none, some none, some (some ((-1), 120)), some none, some (some (0, 120)), none, none], [], .inl 6, true)], [], [c3, c4, c185, c209], ivG, [(1, 3), (59, 5), (60, 0), (61, 0), (62, 0), (63, 0)], none)
theorem k210 : chk p210 tbF 3000 c210 = true := by decide +kernel
theorem t210 {J : Jt} {X : Tok} {et : Nat → Option va_E} (hX : tOk X) (hH : HandT J X et) (hJ : JS DJ J) : ctrT ivG J X et c210 := ctr_ok (tb := tbF) (P := p210) (c := c210) (f := 3000) tbF_ok hX hJ (by decide) rfl rfl k210 (ct1 (t3 hX hH hJ) (ct1 (t4 hX hH hJ) (ct1 (t185 hX hH hJ) (ct1 (t209 hX hH hJ) ct0))))
/-- readJoined3_3 -/
noncomputable def c211 : Ctr := (23, [aR 59, aR 1, aI 3 3, aI 3 3], some [aI (-1) 120], [(1, 3), (59, 5), (60, 0), (61, 0), (62, 0), (63, 0)], 30)
noncomputable def p211 : Pg := ([(23, 39, [some none, some none, some none, some none, some (some ((-1), 120)), some none, some (some (0, 120)), none, none], [], .inl 6, true)], [], [c3, c4, c185, c210], ivG, [(1, 3), (59, 5), (60, 0), (61, 0), (62, 0), (63, 0)], none)
theorem k211 : chk p211 tbF 3000 c211 = true := by decide +kernel
theorem t211 {J : Jt} {X : Tok} {et : Nat → Option va_E} (hX : tOk X) (hH : HandT J X et) (hJ : JS DJ J) : ctrT ivG J X et c211 := ctr_ok (tb := tbF) (P := p211) (c := c211) (f := 3000) tbF_ok hX hJ (by decide) rfl rfl k211 (ct1 (t3 hX hH hJ) (ct1 (t4 hX hH hJ) (ct1 (t185 hX hH hJ) (ct1 (t210 hX hH hJ) ct0))))
/-- readJoined2_3 -/
noncomputable def c212 : Ctr := (23, [aR 59, aR 1, aI 2 2, aI 3 3], some [aI (-1) 120], [(1, 3), (59, 5), (60, 0), (61, 0), (62, 0), (63, 0)], 31)
noncomputable def p212 : Pg := ([(23, 39, [some none, some none, some none, some none, some (some ((-1), 120)), some none, some (some (0, 1)), none, none], [], .inl 6, true)], [], [c3, c4, c185, c211], ivG, [(1, 3), (59, 5), (60, 0), (61, 0), (62, 0), (63, 0)], none)
theorem k212 : chk p212 tbF 3000 c212 = true := by decide +kernel
theorem t212 {J : Jt} {X : Tok} {et : Nat → Option va_E} (hX : tOk X) (hH : HandT J X et) (hJ : JS DJ J) : ctrT ivG J X et c212 := ctr_ok (tb := tbF) (P := p212) (c := c212) (f := 3000) tbF_ok hX hJ (by decide) rfl rfl k212 (ct1 (t3 hX hH hJ) (ct1 (t4 hX hH hJ) (ct1 (t185 hX hH hJ) (ct1 (t211 hX hH hJ) ct0))))
/-- readJoined1_3 -/
noncomputable def c213 : Ctr := (23, [aR 59, aR 1, aI 1 1, aI 3 3], some [aI (-1) 120], [(1, 3), (59, 5), (60, 0), (61, 0), (62, 0), (63, 0)], 32)
noncomputable def p213 : Pg := ([(23, 39, [some none, some none, some none, some none, some (some ((-1), 120)), some none, some (some (0, 120)), none, none], [], .inl 6, true)], [], [c3, c4, c185, c212], ivG, [(1, 3), (59, 5), (60, 0), (61, 0), (62, 0), (63, 0)], none)
theorem k213 : chk p213 tbF 3000 c213 = true := by decide +kernel
theorem t213 {J : Jt} {X : Tok} {et : Nat → Option va_E} (hX : tOk X) (hH : HandT J X et) (hJ : JS DJ J) : ctrT ivG J X et c213 := ctr_ok (tb := tbF) (P := p213) (c := c213) (f := 3000) tbF_ok hX hJ (by decide) rfl rfl k213 (ct1 (t3 hX hH hJ) (ct1 (t4 hX hH hJ) (ct1 (t185 hX hH hJ) (ct1 (t212 hX hH hJ) ct0))))
/-- readJoined0_3 -/
noncomputable def c214 : Ctr := (23, [aR 59, aR 1, aI 0 0, aI 3 3], some [aI (-1) 120], [(1, 3), (59, 5), (60, 0), (61, 0), (62, 0), (63, 0)], 33)
noncomputable def p214 : Pg := ([(23, 39, [some none, some none, some none, some none, some (some ((-1), 120)), some none, some (some (0, 120)), none, none], [], .inl 6, true)], [], [c3, c4, c185, c213], ivG, [(1, 3), (59, 5), (60, 0), (61, 0), (62, 0), (63, 0)], none)
theorem k214 : chk p214 tbF 3000 c214 = true := by decide +kernel
theorem t214 {J : Jt} {X : Tok} {et : Nat → Option va_E} (hX : tOk X) (hH : HandT J X et) (hJ : JS DJ J) : ctrT ivG J X et c214 := ctr_ok (tb := tbF) (P := p214) (c := c214) (f := 3000) tbF_ok hX hJ (by decide) rfl rfl k214 (ct1 (t3 hX hH hJ) (ct1 (t4 hX hH hJ) (ct1 (t185 hX hH hJ) (ct1 (t213 hX hH hJ) ct0))))
/-- readOne2 -/
noncomputable def c215 : Ctr := (25, [aR 59, aR 1, aI 2 2], some [aI (-1) 120], [(1, 3), (59, 5), (60, 0), (61, 0), (62, 0), (63, 0)], 35)
noncomputable def p215 : Pg := ([], [], [c3, c4, c6, c185, c186, c208, c214], ivG, [(1, 3), (59, 5), (60, 0), (61, 0), (62, 0), (63, 0)], none)
theorem k215 : chk p215 tbF 3000 c215 = true := by decide +kernel
theorem t215 {J : Jt} {X : Tok} {et : Nat → Option va_E} (hX : tOk X) (hH : HandT J X et) (hJ : JS DJ J) : ctrT ivG J X et c215 := ctr_ok (tb := tbF) (P := p215) (c := c215) (f := 3000) tbF_ok hX hJ (by decide) rfl rfl k215 (ct1 (t3 hX hH hJ) (ct1 (t4 hX hH hJ) (ct1 (t6 hX hH hJ) (ct1 (t185 hX hH hJ) (ct1 (t186 hX hH hJ) (ct1 (t208 hX hH hJ) (ct1 (t214 hX hH hJ) ct0)))))))
/-- readJoined5_2 -/
noncomputable def c216 : Ctr := (23, [aR 59, aR 1, aI 5 5, aI 2 2], some [aI (-1) 120], [(1, 3), (59, 5), (60, 0), (61, 0), (62, 0), (63, 0)], 36)
noncomputable def p216 : Pg := ([], [], [c215], ivG, [(1, 3), (59, 5), (60, 0), (61, 0), (62, 0), (63, 0)], none)
theorem k216 : chk p216 tbF 3000 c216 = true := by decide +kernel
theorem t216 {J : Jt} {X : Tok} {et : Nat → Option va_E} (hX : tOk X) (hH : HandT J X et) (hJ : JS DJ J) : ctrT ivG J X et c216 := ctr_ok (tb := tbF) (P := p216) (c := c216) (f := 3000) tbF_ok hX hJ (by decide) rfl rfl k216 (ct1 (t215 hX hH hJ) ct0)
/-- readJoined4_2 -/
noncomputable def c217 : Ctr := (23, [aR 59, aR 1, aI 4 4, aI 2 2], some [aI (-1) 120], [(1, 3), (59, 5), (60, 0), (61, 0), (62, 0), (63, 0)], 37)
noncomputable def p217 : Pg := ([(23, 39, [some none, some none, some none, some none, some (some ((-1), 120)), some none, some (some (0, 120)), none, none], [], .inl 6, true)], [], [c3, c4, c185, c216], ivG, [(1, 3), (59, 5), (60, 0), (61, 0), (62, 0), (63, 0)], none)
theorem k217 : chk p217 tbF 3000 c217 = true := by decide +kernel
theorem t217 {J : Jt} {X : Tok} {et : Nat → Option va_E} (hX : tOk X) (hH : HandT J X et) (hJ : JS DJ J) : ctrT ivG J X et c217 := ctr_ok (tb := tbF) (P := p217) (c := c217) (f := 3000) tbF_ok hX hJ (by decide) rfl rfl k217 (ct1 (t3 hX hH hJ) (ct1 (t4 hX hH hJ) (ct1 (t185 hX hH hJ) (ct1 (t216 hX hH hJ) ct0))))
/-- readJoined3_2 -/
noncomputable def c218 : Ctr := (23, [aR 59, aR 1, aI 3 3, aI 2 2], some [aI (-1) 120], [(1, 3), (59, 5), (60, 0), (61, 0), (62, 0), (63, 0)], 38)
noncomputable def p218 : Pg := ([(23, 39, [some none, some none, some none, some none, some (some ((-1), 120)), some none, some (some (0, 120)), none, none], [], .inl 6, true)], [], [c3, c4, c185, c217], ivG, [(1, 3), (59, 5), (60, 0), (61, 0), (62, 0), (63, 0)], none)
theorem k218 : chk p218 tbF 3000 c218 = true := by decide +kernel
theorem t218 {J : Jt} {X : Tok} {et : Nat → Option va_E} (hX : tOk X) (hH : HandT J X et) (hJ : JS DJ J) : ctrT ivG J X et c218 := ctr_ok (tb := tbF) (P := p218) (c := c218) (f := 3000) tbF_ok hX hJ (by decide) rfl rfl k218 (ct1 (t3 hX hH hJ) (ct1 (t4 hX hH hJ) (ct1 (t185 hX hH hJ) (ct1 (t217 hX hH hJ) ct0))))
/-- readJoined2_2 -/
noncomputable def c219 : Ctr := (23, [aR 59, aR 1, aI 2 2, aI 2 2], some [aI (-1) 120], [(1, 3), (59, 5), (60, 0), (61, 0), (62, 0), (63, 0)], 39)
noncomputable def p219 : Pg := ([(23, 39, [some none, some none, some none, some none, some (some ((-1), 120)), some none, some (some (0, 1)), none, none], [], .inl 6, true)], [], [c3, c4, c185, c218], ivG, [(1, 3), (59, 5), (60, 0), (61, 0), (62, 0), (63, 0)], none)
theorem k219 : chk p219 tbF 3000 c219 = true := by decide +kernel
theorem t219 {J : Jt} {X : Tok} {et : Nat → Option va_E} (hX : tOk X) (hH : HandT J X et) (hJ : JS DJ J) : ctrT ivG J X et c219 := ctr_ok (tb := tbF) (P := p219) (c := c219) (f := 3000) tbF_ok hX hJ (by decide) rfl rfl k219 (ct1 (t3 hX hH hJ) (ct1 (t4 hX hH hJ) (ct1 (t185 hX hH hJ) (ct1 (t218 hX hH hJ) ct0))))
/-- readJoined1_2 -/
noncomputable def c220 : Ctr := (23, [aR 59, aR 1, aI 1 1, aI 2 2], some [aI (-1) 120], [(1, 3), (59, 5), (60, 0), (61, 0), (62, 0), (63, 0)], 40)
noncomputable def p220 : Pg := ([(23, 39, [some none, some none, some none, some none, some (some ((-1), 120)), some none, some (some (0, 120)), none, none], [], .inl 6, true)], [], [c3, c4, c185, c219], ivG, [(1, 3), (59, 5), (60, 0), (61, 0), (62, 0), (63, 0)], none)
theorem k220 : chk p220 tbF 3000 c220 = true := by decide +kernel
theorem t220 {J : Jt} {X : Tok} {et : Nat → Option va_E} (hX : tOk X) (hH : HandT J X et) (hJ : JS DJ J) : ctrT ivG J X et c220 := ctr_ok (tb := tbF) (P := p220) (c := c220) (f := 3000) tbF_ok hX hJ (by decide) rfl rfl k220 (ct1 (t3 hX hH hJ) (ct1 (t4 hX hH hJ) (ct1 (t185 hX hH hJ) (ct1 (t219 hX hH hJ) ct0))))
/-- readJoined0_2 -/
noncomputable def c221 : Ctr := (23, [aR 59, aR 1, aI 0 0, aI 2 2], some [aI (-1) 120], [(1, 3), (59, 5), (60, 0), (61, 0), (62, 0), (63, 0)], 41)
noncomputable def p221 : Pg := ([(23, 39, [some none, some none, some none, some none, some (some ((-1), 120)), some none, some (some (0, 120)), none, none], [], .inl 6, true)], [], [c3, c4, c185, c220], ivG, [(1, 3), (59, 5), (60, 0), (61, 0), (62, 0), (63, 0)], none)
theorem k221 : chk p221 tbF 3000 c221 = true := by decide +kernel
theorem t221 {J : Jt} {X : Tok} {et : Nat → Option va_E} (hX : tOk X) (hH : HandT J X et) (hJ : JS DJ J) : ctrT ivG J X et c221 := ctr_ok (tb := tbF) (P := p221) (c := c221) (f := 3000) tbF_ok hX hJ (by decide) rfl rfl k221 (ct1 (t3 hX hH hJ) (ct1 (t4 hX hH hJ) (ct1 (t185 hX hH hJ) (ct1 (t220 hX hH hJ) ct0))))
/-- readOne1 -/
noncomputable def c222 : Ctr := (25, [aR 59, aR 1, aI 1 1], some [aI (-1) 120], [(1, 3), (59, 5), (60, 0), (61, 0), (62, 0), (63, 0)], 43)
noncomputable def p222 : Pg := ([], [], [c3, c4, c6, c185, c186, c215, c221], ivG, [(1, 3), (59, 5), (60, 0), (61, 0), (62, 0), (63, 0)], none)
theorem k222 : chk p222 tbF 3000 c222 = true := by decide +kernel
theorem t222 {J : Jt} {X : Tok} {et : Nat → Option va_E} (hX : tOk X) (hH : HandT J X et) (hJ : JS DJ J) : ctrT ivG J X et c222 := ctr_ok (tb := tbF) (P := p222) (c := c222) (f := 3000) tbF_ok hX hJ (by decide) rfl rfl k222 (ct1 (t3 hX hH hJ) (ct1 (t4 hX hH hJ) (ct1 (t6 hX hH hJ) (ct1 (t185 hX hH hJ) (ct1 (t186 hX hH hJ) (ct1 (t215 hX hH hJ) (ct1 (t221 hX hH hJ) ct0)))))))
/-- readJoined5_1 -/
noncomputable def c223 : Ctr := (23, [aR 59, aR 1, aI 5 5, aI 1 1], some [aI (-1) 120], [(1, 3), (59, 5), (60, 0), (61, 0), (62, 0), (63, 0)], 44)
noncomputable def p223 : Pg := ([], [], [c222], ivG, [(1, 3), (59, 5), (60, 0), (61, 0), (62, 0), (63, 0)], none)
theorem k223 : chk p223 tbF 3000 c223 = true := by decide +kernel
theorem t223 {J : Jt} {X : Tok} {et : Nat → Option va_E} (hX : tOk X) (hH : HandT J X et) (hJ : JS DJ J) : ctrT ivG J X et c223 := ctr_ok (tb := tbF) (P := p223) (c := c223) (f := 3000) tbF_ok hX hJ (by decide) rfl rfl k223 (ct1 (t222 hX hH hJ) ct0)
/-- readJoined4_1 -/
noncomputable def c224 : Ctr := (23, [aR 59, aR 1, aI 4 4, aI 1 1], some [aI (-1) 120], [(1, 3), (59, 5), (60, 0), (61, 0), (62, 0), (63, 0)], 45)
noncomputable def p224 : Pg := ([(23, 39, [some none, some none, some none, some none, some (some ((-1), 120)), some none, some (some (0, 120)), none, none], [], .inl 6, true)], [], [c3, c4, c185, c223], ivG, [(1, 3), (59, 5), (60, 0), (61, 0), (62, 0), (63, 0)], none)
theorem k224 : chk p224 tbF 3000 c224 = true := by decide +kernel
theorem t224 {J : Jt} {X : Tok} {et : Nat → Option va_E} (hX : tOk X) (hH : HandT J X et) (hJ : JS DJ J) : ctrT ivG J X et c224 := ctr_ok (tb := tbF) (P := p224) (c := c224) (f := 3000) tbF_ok hX hJ (by decide) rfl rfl k224 (ct1 (t3 hX hH hJ) (ct1 (t4 hX hH hJ) (ct1 (t185 hX hH hJ) (ct1 (t223 hX hH hJ) ct0))))
/-- readJoined3_1 -/
noncomputable def c225 : Ctr := (23, [aR 59, aR 1, aI 3 3, aI 1 1], some [aI (-1) 120], [(1, 3), (59, 5), (60, 0), (61, 0), (62, 0), (63, 0)], 46)
noncomputable def p225 : Pg := ([(23, 39, [some none, some none, some none, some none, some (some ((-1), 120)), some none, some (some (0, 120)), none, none], [], .inl 6, true)], [], [c3, c4, c185, c224], ivG, [(1, 3), (59, 5), (60, 0), (61, 0), (62, 0), (63, 0)], none)
theorem k225 : chk p225 tbF 3000 c225 = true := by decide +kernel
theorem t225 {J : Jt} {X : Tok} {et : Nat → Option va_E} (hX : tOk X) (hH : HandT J X et) (hJ : JS DJ J) : ctrT ivG J X et c225 := ctr_ok (tb := tbF) (P := p225) (c := c225) (f := 3000) tbF_ok hX hJ (by decide) rfl rfl k225 (ct1 (t3 hX hH hJ) (ct1 (t4 hX hH hJ) (ct1 (t185 hX hH hJ) (ct1 (t224 hX hH hJ) ct0))))
/-- readJoined2_1 -/
noncomputable def c226 : Ctr := (23, [aR 59, aR 1, aI 2 2, aI 1 1], some [aI (-1) 120], [(1, 3), (59, 5), (60, 0), (61, 0), (62, 0), (63, 0)], 47)
noncomputable def p226 : Pg := ([(23, 39, [some none, some none, some none, some none, some (some ((-1), 120)), some none, some (some (0, 1)), none, none], [], .inl 6, true)], [], [c3, c4, c185, c225], ivG, [(1, 3), (59, 5), (60, 0), (61, 0), (62, 0), (63, 0)], none)
theorem k226 : chk p226 tbF 3000 c226 = true := by decide +kernel
theorem t226 {J : Jt} {X : Tok} {et : Nat → Option va_E} (hX : tOk X) (hH : HandT J X et) (hJ : JS DJ J) : ctrT ivG J X et c226 := ctr_ok (tb := tbF) (P := p226) (c := c226) (f := 3000) tbF_ok hX hJ (by decide) rfl rfl k226 (ct1 (t3 hX hH hJ) (ct1 (t4 hX hH hJ) (ct1 (t185 hX hH hJ) (ct1 (t225 hX hH hJ) ct0))))
/-- readJoined1_1 -/
noncomputable def c227 : Ctr := (23, [aR 59, aR 1, aI 1 1, aI 1 1], some [aI (-1) 120], [(1, 3), (59, 5), (60, 0), (61, 0), (62, 0), (63, 0)], 48)
noncomputable def p227 : Pg := ([(23, 39, [some none, some none, some none, some none, some (some ((-1), 120)), some none, some (some (0, 120)), none, none], [], .inl 6, true)], [], [c3, c4, c185, c226], ivG, [(1, 3), (59, 5), (60, 0), (61, 0), (62, 0), (63, 0)], none)
theorem k227 : chk p227 tbF 3000 c227 = true := by decide +kernel
theorem t227 {J : Jt} {X : Tok} {et : Nat → Option va_E} (hX : tOk X) (hH : HandT J X et) (hJ : JS DJ J) : ctrT ivG J X et c227 := ctr_ok (tb := tbF) (P := p227) (c := c227) (f := 3000) tbF_ok hX hJ (by decide) rfl rfl k227 (ct1 (t3 hX hH hJ) (ct1 (t4 hX hH hJ) (ct1 (t185 hX hH hJ) (ct1 (t226 hX hH hJ) ct0))))
/-- readJoined0_1 -/
noncomputable def c228 : Ctr := (23, [aR 59, aR 1, aI 0 0, aI 1 1], some [aI (-1) 120], [(1, 3), (59, 5), (60, 0), (61, 0), (62, 0), (63, 0)], 49)
noncomputable def p228 : Pg := ([(23, 39, [some none, some none, some none, some none, some (some ((-1), 120)), some none, some (some (0, 120)), none, none], [], .inl 6, true)], [], [c3, c4, c185, c227], ivG, [(1, 3), (59, 5), (60, 0), (61, 0), (62, 0), (63, 0)], none)
theorem k228 : chk p228 tbF 3000 c228 = true := by decide +kernel
theorem t228 {J : Jt} {X : Tok} {et : Nat → Option va_E} (hX : tOk X) (hH : HandT J X et) (hJ : JS DJ J) : ctrT ivG J X et c228 := ctr_ok (tb := tbF) (P := p228) (c := c228) (f := 3000) tbF_ok hX hJ (by decide) rfl rfl k228 (ct1 (t3 hX hH hJ) (ct1 (t4 hX hH hJ) (ct1 (t185 hX hH hJ) (ct1 (t227 hX hH hJ) ct0))))
/-- readOne0 -/
noncomputable def c229 : Ctr := (25, [aR 59, aR 1, aI 0 0], some [aI (-1) 120], [(1, 3), (59, 5), (60, 0), (61, 0), (62, 0), (63, 0)], 51)
noncomputable def p229 : Pg := ([], [], [c3, c4, c6, c185, c186, c222, c228], ivG, [(1, 3), (59, 5), (60, 0), (61, 0), (62, 0), (63, 0)], none)
theorem k229 : chk p229 tbF 3000 c229 = true := by decide +kernel
theorem t229 {J : Jt} {X : Tok} {et : Nat → Option va_E} (hX : tOk X) (hH : HandT J X et) (hJ : JS DJ J) : ctrT ivG J X et c229 := ctr_ok (tb := tbF) (P := p229) (c := c229) (f := 3000) tbF_ok hX hJ (by decide) rfl rfl k229 (ct1 (t3 hX hH hJ) (ct1 (t4 hX hH hJ) (ct1 (t6 hX hH hJ) (ct1 (t185 hX hH hJ) (ct1 (t186 hX hH hJ) (ct1 (t222 hX hH hJ) (ct1 (t228 hX hH hJ) ct0)))))))
/-- readJoined5_0 -/
noncomputable def c230 : Ctr := (23, [aR 59, aR 1, aI 5 5, aI 0 0], some [aI (-1) 120], [(1, 3), (59, 5), (60, 0), (61, 0), (62, 0), (63, 0)], 52)
noncomputable def p230 : Pg := ([], [], [c229], ivG, [(1, 3), (59, 5), (60, 0), (61, 0), (62, 0), (63, 0)], none)
theorem k230 : chk p230 tbF 3000 c230 = true := by decide +kernel
theorem t230 {J : Jt} {X : Tok} {et : Nat → Option va_E} (hX : tOk X) (hH : HandT J X et) (hJ : JS DJ J) : ctrT ivG J X et c230 := ctr_ok (tb := tbF) (P := p230) (c := c230) (f := 3000) tbF_ok hX hJ (by decide) rfl rfl k230 (ct1 (t229 hX hH hJ) ct0)
/-- readJoined4_0 -/
noncomputable def c231 : Ctr := (23, [aR 59, aR 1, aI 4 4, aI 0 0], some [aI (-1) 120], [(1, 3), (59, 5), (60, 0), (61, 0), (62, 0), (63, 0)], 53)
noncomputable def p231 : Pg := ([(23, 39, [some none, some none, some none, some none, some (some ((-1), 120)), some none, some (some (0, 120)), none, none], [], .inl 6, true)], [], [c3, c4, c185, c230], ivG, [(1, 3), (59, 5), (60, 0), (61, 0), (62, 0), (63, 0)], none)
theorem k231 : chk p231 tbF 3000 c231 = true := by decide +kernel
theorem t231 {J : Jt} {X : Tok} {et : Nat → Option va_E} (hX : tOk X) (hH : HandT J X et) (hJ : JS DJ J) : ctrT ivG J X et c231 := ctr_ok (tb := tbF) (P := p231) (c := c231) (f := 3000) tbF_ok hX hJ (by decide) rfl rfl k231 (ct1 (t3 hX hH hJ) (ct1 (t4 hX hH hJ) (ct1 (t185 hX hH hJ) (ct1 (t230 hX hH hJ) ct0))))
/-- readJoined3_0 -/
noncomputable def c232 : Ctr := (23, [aR 59, aR 1, aI 3 3, aI 0 0], some [aI (-1) 120], [(1, 3), (59, 5), (60, 0), (61, 0), (62, 0), (63, 0)], 54)
noncomputable def p232 : Pg := ([(23, 39, [some none, some none, some none, some none, some (some ((-1), 120)), some none, some (some (0, 120)), none, none], [], .inl 6, true)], [], [c3, c4, c185, c231], ivG, [(1, 3), (59, 5), (60, 0), (61, 0), (62, 0), (63, 0)], none)
theorem k232 : chk p232 tbF 3000 c232 = true := by decide +kernel
theorem t232 {J : Jt} {X : Tok} {et : Nat → Option va_E} (hX : tOk X) (hH : HandT J X et) (hJ : JS DJ J) : ctrT ivG J X et c232 := ctr_ok (tb := tbF) (P := p232) (c := c232) (f := 3000) tbF_ok hX hJ (by decide) rfl rfl k232 (ct1 (t3 hX hH hJ) (ct1 (t4 hX hH hJ) (ct1 (t185 hX hH hJ) (ct1 (t231 hX hH hJ) ct0))))
/-- readJoined2_0 -/
noncomputable def c233 : Ctr := (23, [aR 59, aR 1, aI 2 2, aI 0 0], some [aI (-1) 120], [(1, 3), (59, 5), (60, 0), (61, 0), (62, 0), (63, 0)], 55)
noncomputable def p233 : Pg := ([(23, 39, [some none, some none, some none, some none, some (some ((-1), 120)), some none, some (some (0, 1)), none, none], [], .inl 6, true)], [], [c3, c4, c185, c232], ivG, [(1, 3), (59, 5), (60, 0), (61, 0), (62, 0), (63, 0)], none)
theorem k233 : chk p233 tbF 3000 c233 = true := by decide +kernel
theorem t233 {J : Jt} {X : Tok} {et : Nat → Option va_E} (hX : tOk X) (hH : HandT J X et) (hJ : JS DJ J) : ctrT ivG J X et c233 := ctr_ok (tb := tbF) (P := p233) (c := c233) (f := 3000) tbF_ok hX hJ (by decide) rfl rfl k233 (ct1 (t3 hX hH hJ) (ct1 (t4 hX hH hJ) (ct1 (t185 hX hH hJ) (ct1 (t232 hX hH hJ) ct0))))
/-- readJoined1_0 -/
noncomputable def c234 : Ctr := (23, [aR 59, aR 1, aI 1 1, aI 0 0], some [aI (-1) 120], [(1, 3), (59, 5), (60, 0), (61, 0), (62, 0), (63, 0)], 56)
noncomputable def p234 : Pg := ([(23, 39, [some none, some none, some none, some none, some (some ((-1), 120)), some none, some (some (0, 120)), none, none], [], .inl 6, true)], [], [c3, c4, c185, c233], ivG, [(1, 3), (59, 5), (60, 0), (61, 0), (62, 0), (63, 0)], none)
theorem k234 : chk p234 tbF 3000 c234 = true := by decide +kernel
theorem t234 {J : Jt} {X : Tok} {et : Nat → Option va_E} (hX : tOk X) (hH : HandT J X et) (hJ : JS DJ J) : ctrT ivG J X et c234 := ctr_ok (tb := tbF) (P := p234) (c := c234) (f := 3000) tbF_ok hX hJ (by decide) rfl rfl k234 (ct1 (t3 hX hH hJ) (ct1 (t4 hX hH hJ) (ct1 (t185 hX hH hJ) (ct1 (t233 hX hH hJ) ct0))))
/-- readJoined0_0 -/
noncomputable def c235 : Ctr := (23, [aR 59, aR 1, aI 0 0, aI 0 0], some [aI (-1) 120], [(1, 3), (59, 5), (60, 0), (61, 0), (62, 0), (63, 0)], 57)
noncomputable def p235 : Pg := ([(23, 39, [some none, some none, some none, some none, some (some ((-1), 120)), some none, some (some (0, 120)), none, none], [], .inl 6, true)], [], [c3, c4, c185, c234], ivG, [(1, 3), (59, 5), (60, 0), (61, 0), (62, 0), (63, 0)], none)
theorem k235 : chk p235 tbF 3000 c235 = true := by decide +kernel
theorem t235 {J : Jt} {X : Tok} {et : Nat → Option va_E} (hX : tOk X) (hH : HandT J X et) (hJ : JS DJ J) : ctrT ivG J X et c235 := ctr_ok (tb := tbF) (P := p235) (c := c235) (f := 3000) tbF_ok hX hJ (by decide) rfl rfl k235 (ct1 (t3 hX hH hJ) (ct1 (t4 hX hH hJ) (ct1 (t185 hX hH hJ) (ct1 (t234 hX hH hJ) ct0))))
/-- MFl_readLine -/
noncomputable def c236 : Ctr := (22, [aR 59, aR 1], some [aI 0 1], [(1, 3), (59, 5), (60, 0), (61, 0), (62, 0), (63, 0)], 58)
noncomputable def p236 : Pg := ([], [], [c4, c185, c235], ivG, [(1, 3), (59, 5), (60, 0), (61, 0), (62, 0), (63, 0)], none)
theorem k236 : chk p236 tbF 3000 c236 = true := by decide +kernel
theorem t236 {J : Jt} {X : Tok} {et : Nat → Option va_E} (hX : tOk X) (hH : HandT J X et) (hJ : JS DJ J) : ctrT ivG J X et c236 := ctr_ok (tb := tbF) (P := p236) (c := c236) (f := 3000) tbF_ok hX hJ (by decide) rfl rfl k236 (ct1 (t4 hX hH hJ) (ct1 (t185 hX hH hJ) (ct1 (t235 hX hH hJ) ct0)))
/-- MFl_readFrom -/
noncomputable def c237 : Ctr := (21, [aR 59, aR 1], some [aI 0 1], [(1, 3), (59, 5), (60, 0), (61, 0), (62, 0), (63, 0)], 59)
noncomputable def p237 : Pg := ([(21, 9, [some none, some none, some (some (0, 1)), some (some (0, 121))], [(59, 4)], .inl 3, true)], [], [c4, c236], ivG, [(1, 3), (59, 5), (60, 0), (61, 0), (62, 0), (63, 0)], none)
theorem k237 : chk p237 tbF 3000 c237 = true := by decide +kernel
theorem t237 {J : Jt} {X : Tok} {et : Nat → Option va_E} (hX : tOk X) (hH : HandT J X et) (hJ : JS DJ J) : ctrT ivG J X et c237 := ctr_ok (tb := tbF) (P := p237) (c := c237) (f := 3000) tbF_ok hX hJ (by decide) rfl rfl k237 (ct1 (t4 hX hH hJ) (ct1 (t236 hX hH hJ) ct0))
/-- MFl_result -/
noncomputable def c238 : Ctr := (32, [aR 59, aT, aT, aT], some [aT], [], 0)
noncomputable def p238 : Pg := ([], [], [], ivG, [], none)
theorem k238 : chk p238 tbF 3000 c238 = true := by decide +kernel
theorem t238 {J : Jt} {X : Tok} {et : Nat → Option va_E} (hX : tOk X) (hH : HandT J X et) (hJ : JS DJ J) : ctrT ivG J X et c238 := ctr_ok (tb := tbF) (P := p238) (c := c238) (f := 3000) tbF_ok hX hJ (by decide) rfl rfl k238 ct0
/-- MFl_takes -/
noncomputable def c239 : Ctr := (30, [aR 59, aT, aT], some [aI 0 2147483647], [(59, 6), (59, 7), (63, 0)], 1)
noncomputable def p239 : Pg := ([(30, 15, [some none, some none, some none, some (some (0, 1)), some (some (0, 121)), none, none], [], .inl 4, true)], [], [c238], ivG, [(59, 6), (59, 7), (63, 0)], none)
theorem k239 : chk p239 tbF 3000 c239 = true := by decide +kernel
theorem t239 {J : Jt} {X : Tok} {et : Nat → Option va_E} (hX : tOk X) (hH : HandT J X et) (hJ : JS DJ J) : ctrT ivG J X et c239 := ctr_ok (tb := tbF) (P := p239) (c := c239) (f := 3000) tbF_ok hX hJ (by decide) rfl rfl k239 (ct1 (t238 hX hH hJ) ct0)
