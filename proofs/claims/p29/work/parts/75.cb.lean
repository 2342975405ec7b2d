-- ===== contracts that the checker shows, 1
/-- readJoined1_6 -/
noncomputable def c80 : Ctr := (23, [aR 49, aR 1, aI 1 1, aI 6 6], some [aI (-1) 120], [(1, 3), (49, 5), (50, 0), (51, 0), (52, 0), (53, 0)], 8)
noncomputable def p80 : Pg := ([(23, 39, [some none, some none, some none, some none, some (some ((-1), 120)), some none, some (some (0, 120)), none, none], [], .inl 6, true)], [], [c3, c4, c73, c79], ivG, [(1, 3), (49, 5), (50, 0), (51, 0), (52, 0), (53, 0)], none)
theorem k80 : chk p80 tbF 3000 c80 = true := by decide +kernel
theorem t80 {J : Jt} {X : Tok} {et : Nat → Option va_E} (hX : tOk X) (hH : HandT J X et) (hJ : JS DJ J) : ctrT ivG J X et c80 := ctr_ok (tb := tbF) (P := p80) (c := c80) (f := 3000) tbF_ok hX hJ (by decide) rfl rfl k80 (ct1 (t3 hX hH hJ) (ct1 (t4 hX hH hJ) (ct1 (t73 hX hH hJ) (ct1 (t79 hX hH hJ) ct0))))
/-- readJoined0_6 -/
noncomputable def c81 : Ctr := (23, [aR 49, aR 1, aI 0 0, aI 6 6], some [aI (-1) 120], [(1, 3), (49, 5), (50, 0), (51, 0), (52, 0), (53, 0)], 9)
noncomputable def p81 : Pg := ([(23, 39, [some none, some none, some none, some none, some (some ((-1), 120)), some none, some (some (0, 120)), none, none], [], .inl 6, true)], [], [c3, c4, c73, c80], ivG, [(1, 3), (49, 5), (50, 0), (51, 0), (52, 0), (53, 0)], none)
theorem k81 : chk p81 tbF 3000 c81 = true := by decide +kernel
theorem t81 {J : Jt} {X : Tok} {et : Nat → Option va_E} (hX : tOk X) (hH : HandT J X et) (hJ : JS DJ J) : ctrT ivG J X et c81 := ctr_ok (tb := tbF) (P := p81) (c := c81) (f := 3000) tbF_ok hX hJ (by decide) rfl rfl k81 (ct1 (t3 hX hH hJ) (ct1 (t4 hX hH hJ) (ct1 (t73 hX hH hJ) (ct1 (t80 hX hH hJ) ct0))))
/-- readOne5 -/
noncomputable def c82 : Ctr := (25, [aR 49, aR 1, aI 5 5], some [aI (-1) 120], [(1, 3), (49, 5), (50, 0), (51, 0), (52, 0), (53, 0)], 11)
noncomputable def p82 : Pg := ([], [], [c3, c4, c6, c73, c74, c75, c81], ivG, [(1, 3), (49, 5), (50, 0), (51, 0), (52, 0), (53, 0)], none)
theorem k82 : chk p82 tbF 3000 c82 = true := by decide +kernel
theorem t82 {J : Jt} {X : Tok} {et : Nat → Option va_E} (hX : tOk X) (hH : HandT J X et) (hJ : JS DJ J) : ctrT ivG J X et c82 := ctr_ok (tb := tbF) (P := p82) (c := c82) (f := 3000) tbF_ok hX hJ (by decide) rfl rfl k82 (ct1 (t3 hX hH hJ) (ct1 (t4 hX hH hJ) (ct1 (t6 hX hH hJ) (ct1 (t73 hX hH hJ) (ct1 (t74 hX hH hJ) (ct1 (t75 hX hH hJ) (ct1 (t81 hX hH hJ) ct0)))))))
/-- readJoined5_5 -/
noncomputable def c83 : Ctr := (23, [aR 49, aR 1, aI 5 5, aI 5 5], some [aI (-1) 120], [(1, 3), (49, 5), (50, 0), (51, 0), (52, 0), (53, 0)], 12)
noncomputable def p83 : Pg := ([], [], [c82], ivG, [(1, 3), (49, 5), (50, 0), (51, 0), (52, 0), (53, 0)], none)
theorem k83 : chk p83 tbF 3000 c83 = true := by decide +kernel
theorem t83 {J : Jt} {X : Tok} {et : Nat → Option va_E} (hX : tOk X) (hH : HandT J X et) (hJ : JS DJ J) : ctrT ivG J X et c83 := ctr_ok (tb := tbF) (P := p83) (c := c83) (f := 3000) tbF_ok hX hJ (by decide) rfl rfl k83 (ct1 (t82 hX hH hJ) ct0)
/-- readJoined4_5 -/
noncomputable def c84 : Ctr := (23, [aR 49, aR 1, aI 4 4, aI 5 5], some [aI (-1) 120], [(1, 3), (49, 5), (50, 0), (51, 0), (52, 0), (53, 0)], 13)
noncomputable def p84 : Pg := ([(23, 39, [some none, some none, some none, some none, some (some ((-1), 120)), some none, some (some (0, 120)), none, none], [], .inl 6, true)], [], [c3, c4, c73, c83], ivG, [(1, 3), (49, 5), (50, 0), (51, 0), (52, 0), (53, 0)], none)
theorem k84 : chk p84 tbF 3000 c84 = true := by decide +kernel
theorem t84 {J : Jt} {X : Tok} {et : Nat → Option va_E} (hX : tOk X) (hH : HandT J X et) (hJ : JS DJ J) : ctrT ivG J X et c84 := ctr_ok (tb := tbF) (P := p84) (c := c84) (f := 3000) tbF_ok hX hJ (by decide) rfl rfl k84 (ct1 (t3 hX hH hJ) (ct1 (t4 hX hH hJ) (ct1 (t73 hX hH hJ) (ct1 (t83 hX hH hJ) ct0))))
/-- readJoined3_5 -/
noncomputable def c85 : Ctr := (23, [aR 49, aR 1, aI 3 3, aI 5 5], some [aI (-1) 120], [(1, 3), (49, 5), (50, 0), (51, 0), (52, 0), (53, 0)], 14)
noncomputable def p85 : Pg := ([(23, 39, [some none, some none, some none, some none, some (some ((-1), 120)), some none, some (some (0, 120)), none, none], [], .inl 6, true)], [], [c3, c4, c73, c84], ivG, [(1, 3), (49, 5), (50, 0), (51, 0), (52, 0), (53, 0)], none)
theorem k85 : chk p85 tbF 3000 c85 = true := by decide +kernel
theorem t85 {J : Jt} {X : Tok} {et : Nat → Option va_E} (hX : tOk X) (hH : HandT J X et) (hJ : JS DJ J) : ctrT ivG J X et c85 := ctr_ok (tb := tbF) (P := p85) (c := c85) (f := 3000) tbF_ok hX hJ (by decide) rfl rfl k85 (ct1 (t3 hX hH hJ) (ct1 (t4 hX hH hJ) (ct1 (t73 hX hH hJ) (ct1 (t84 hX hH hJ) ct0))))
/-- readJoined2_5 -/
noncomputable def c86 : Ctr := (23, [aR 49, aR 1, aI 2 2, aI 5 5], some [aI (-1) 120], [(1, 3), (49, 5), (50, 0), (51, 0), (52, 0), (53, 0)], 15)
noncomputable def p86 : Pg := ([(23, 39, [some none, some none, some none, some none, some (some ((-1), 120)), some none, some (some (0, 1)), none, none], [], .inl 6, true)], [], [c3, c4, c73, c85], ivG, [(1, 3), (49, 5), (50, 0), (51, 0), (52, 0), (53, 0)], none)
theorem k86 : chk p86 tbF 3000 c86 = true := by decide +kernel
theorem t86 {J : Jt} {X : Tok} {et : Nat → Option va_E} (hX : tOk X) (hH : HandT J X et) (hJ : JS DJ J) : ctrT ivG J X et c86 := ctr_ok (tb := tbF) (P := p86) (c := c86) (f := 3000) tbF_ok hX hJ (by decide) rfl rfl k86 (ct1 (t3 hX hH hJ) (ct1 (t4 hX hH hJ) (ct1 (t73 hX hH hJ) (ct1 (t85 hX hH hJ) ct0))))
/-- readJoined1_5 -/
noncomputable def c87 : Ctr := (23, [aR 49, aR 1, aI 1 1, aI 5 5], some [aI (-1) 120], [(1, 3), (49, 5), (50, 0), (51, 0), (52, 0), (53, 0)], 16)
noncomputable def p87 : Pg := ([(23, 39, [some none, some none, some none, some none, some (some ((-1), 120)), some none, some (some (0, 120)), none, none], [], .inl 6, true)], [], [c3, c4, c73, c86], ivG, [(1, 3), (49, 5), (50, 0), (51, 0), (52, 0), (53, 0)], none)
theorem k87 : chk p87 tbF 3000 c87 = true := by decide +kernel
theorem t87 {J : Jt} {X : Tok} {et : Nat → Option va_E} (hX : tOk X) (hH : HandT J X et) (hJ : JS DJ J) : ctrT ivG J X et c87 := ctr_ok (tb := tbF) (P := p87) (c := c87) (f := 3000) tbF_ok hX hJ (by decide) rfl rfl k87 (ct1 (t3 hX hH hJ) (ct1 (t4 hX hH hJ) (ct1 (t73 hX hH hJ) (ct1 (t86 hX hH hJ) ct0))))
/-- readJoined0_5 -/
noncomputable def c88 : Ctr := (23, [aR 49, aR 1, aI 0 0, aI 5 5], some [aI (-1) 120], [(1, 3), (49, 5), (50, 0), (51, 0), (52, 0), (53, 0)], 17)
noncomputable def p88 : Pg := ([(23, 39, [some none, some none, some none, some none, some (some ((-1), 120)), some none, some (some (0, 120)), none, none], [], .inl 6, true)], [], [c3, c4, c73, c87], ivG, [(1, 3), (49, 5), (50, 0), (51, 0), (52, 0), (53, 0)], none)
theorem k88 : chk p88 tbF 3000 c88 = true := by decide +kernel
theorem t88 {J : Jt} {X : Tok} {et : Nat → Option va_E} (hX : tOk X) (hH : HandT J X et) (hJ : JS DJ J) : ctrT ivG J X et c88 := ctr_ok (tb := tbF) (P := p88) (c := c88) (f := 3000) tbF_ok hX hJ (by decide) rfl rfl k88 (ct1 (t3 hX hH hJ) (ct1 (t4 hX hH hJ) (ct1 (t73 hX hH hJ) (ct1 (t87 hX hH hJ) ct0))))
/-- readOne4 -/
noncomputable def c89 : Ctr := (25, [aR 49, aR 1, aI 4 4], some [aI (-1) 120], [(1, 3), (49, 5), (50, 0), (51, 0), (52, 0), (53, 0)], 19)
noncomputable def p89 : Pg := ([], [], [c3, c4, c6, c73, c74, c82, c88], ivG, [(1, 3), (49, 5), (50, 0), (51, 0), (52, 0), (53, 0)], none)
theorem k89 : chk p89 tbF 3000 c89 = true := by decide +kernel
theorem t89 {J : Jt} {X : Tok} {et : Nat → Option va_E} (hX : tOk X) (hH : HandT J X et) (hJ : JS DJ J) : ctrT ivG J X et c89 := ctr_ok (tb := tbF) (P := p89) (c := c89) (f := 3000) tbF_ok hX hJ (by decide) rfl rfl k89 (ct1 (t3 hX hH hJ) (ct1 (t4 hX hH hJ) (ct1 (t6 hX hH hJ) (ct1 (t73 hX hH hJ) (ct1 (t74 hX hH hJ) (ct1 (t82 hX hH hJ) (ct1 (t88 hX hH hJ) ct0)))))))
/-- readJoined5_4 -/
noncomputable def c90 : Ctr := (23, [aR 49, aR 1, aI 5 5, aI 4 4], some [aI (-1) 120], [(1, 3), (49, 5), (50, 0), (51, 0), (52, 0), (53, 0)], 20)
noncomputable def p90 : Pg := ([], [], [c89], ivG, [(1, 3), (49, 5), (50, 0), (51, 0), (52, 0), (53, 0)], none)
theorem k90 : chk p90 tbF 3000 c90 = true := by decide +kernel
theorem t90 {J : Jt} {X : Tok} {et : Nat → Option va_E} (hX : tOk X) (hH : HandT J X et) (hJ : JS DJ J) : ctrT ivG J X et c90 := ctr_ok (tb := tbF) (P := p90) (c := c90) (f := 3000) tbF_ok hX hJ (by decide) rfl rfl k90 (ct1 (t89 hX hH hJ) ct0)
/-- readJoined4_4 -/
noncomputable def c91 : Ctr := (23, [aR 49, aR 1, aI 4 4, aI 4 4], some [aI (-1) 120], [(1, 3), (49, 5), (50, 0), (51, 0), (52, 0), (53, 0)], 21)
noncomputable def p91 : Pg := ([(23, 39, [some none, some none, some none, some none, some (some ((-1), 120)), some none, some (some (0, 120)), none, none], [], .inl 6, true)], [], [c3, c4, c73, c90], ivG, [(1, 3), (49, 5), (50, 0), (51, 0), (52, 0), (53, 0)], none)
theorem k91 : chk p91 tbF 3000 c91 = true := by decide +kernel
theorem t91 {J : Jt} {X : Tok} {et : Nat → Option va_E} (hX : tOk X) (hH : HandT J X et) (hJ : JS DJ J) : ctrT ivG J X et c91 := ctr_ok (tb := tbF) (P := p91) (c := c91) (f := 3000) tbF_ok hX hJ (by decide) rfl rfl k91 (ct1 (t3 hX hH hJ) (ct1 (t4 hX hH hJ) (ct1 (t73 hX hH hJ) (ct1 (t90 hX hH hJ) ct0))))
/-- readJoined3_4 -/
noncomputable def c92 : Ctr := (23, [aR 49, aR 1, aI 3 3, aI 4 4], some [aI (-1) 120], [(1, 3), (49, 5), (50, 0), (51, 0), (52, 0), (53, 0)], 22)
noncomputable def p92 : Pg := ([(23, 39, [some none, some none, some none, some none, some (some ((-1), 120)), some none, some (some (0, 120)), none, none], [], .inl 6, true)], [], [c3, c4, c73, c91], ivG, [(1, 3), (49, 5), (50, 0), (51, 0), (52, 0), (53, 0)], none)
theorem k92 : chk p92 tbF 3000 c92 = true := by decide +kernel
theorem t92 {J : Jt} {X : Tok} {et : Nat → Option va_E} (hX : tOk X) (hH : HandT J X et) (hJ : JS DJ J) : ctrT ivG J X et c92 := ctr_ok (tb := tbF) (P := p92) (c := c92) (f := 3000) tbF_ok hX hJ (by decide) rfl rfl k92 (ct1 (t3 hX hH hJ) (ct1 (t4 hX hH hJ) (ct1 (t73 hX hH hJ) (ct1 (t91 hX hH hJ) ct0))))
/-- readJoined2_4 -/
noncomputable def c93 : Ctr := (23, [aR 49, aR 1, aI 2 2, aI 4 4], some [aI (-1) 120], [(1, 3), (49, 5), (50, 0), (51, 0), (52, 0), (53, 0)], 23)
noncomputable def p93 : Pg := ([(23, 39, [some none, some none, some none, some none, some (some ((-1), 120)), some none, some (some (0, 1)), none, none], [], .inl 6, true)], [], [c3, c4, c73, c92], ivG, [(1, 3), (49, 5), (50, 0), (51, 0), (52, 0), (53, 0)], none)
theorem k93 : chk p93 tbF 3000 c93 = true := by decide +kernel
theorem t93 {J : Jt} {X : Tok} {et : Nat → Option va_E} (hX : tOk X) (hH : HandT J X et) (hJ : JS DJ J) : ctrT ivG J X et c93 := ctr_ok (tb := tbF) (P := p93) (c := c93) (f := 3000) tbF_ok hX hJ (by decide) rfl rfl k93 (ct1 (t3 hX hH hJ) (ct1 (t4 hX hH hJ) (ct1 (t73 hX hH hJ) (ct1 (t92 hX hH hJ) ct0))))
/-- readJoined1_4 -/
noncomputable def c94 : Ctr := (23, [aR 49, aR 1, aI 1 1, aI 4 4], some [aI (-1) 120], [(1, 3), (49, 5), (50, 0), (51, 0), (52, 0), (53, 0)], 24)
noncomputable def p94 : Pg := ([(23, 39, [some none, some none, some none, some none, some (some ((-1), 120)), some none, some (some (0, 120)), none, none], [], .inl 6, true)], [], [c3, c4, c73, c93], ivG, [(1, 3), (49, 5), (50, 0), (51, 0), (52, 0), (53, 0)], none)
theorem k94 : chk p94 tbF 3000 c94 = true := by decide +kernel
theorem t94 {J : Jt} {X : Tok} {et : Nat → Option va_E} (hX : tOk X) (hH : HandT J X et) (hJ : JS DJ J) : ctrT ivG J X et c94 := ctr_ok (tb := tbF) (P := p94) (c := c94) (f := 3000) tbF_ok hX hJ (by decide) rfl rfl k94 (ct1 (t3 hX hH hJ) (ct1 (t4 hX hH hJ) (ct1 (t73 hX hH hJ) (ct1 (t93 hX hH hJ) ct0))))
/-- readJoined0_4 -/
noncomputable def c95 : Ctr := (23, [aR 49, aR 1, aI 0 0, aI 4 4], some [aI (-1) 120], [(1, 3), (49, 5), (50, 0), (51, 0), (52, 0), (53, 0)], 25)
noncomputable def p95 : Pg := ([(23, 39, [some none, some none, some none, some none, some (some ((-1), 120)), some none, some (some (0, 120)), none, none], [], .inl 6, true)], [], [c3, c4, c73, c94], ivG, [(1, 3), (49, 5), (50, 0), (51, 0), (52, 0), (53, 0)], none)
theorem k95 : chk p95 tbF 3000 c95 = true := by decide +kernel
theorem t95 {J : Jt} {X : Tok} {et : Nat → Option va_E} (hX : tOk X) (hH : HandT J X et) (hJ : JS DJ J) : ctrT ivG J X et c95 := ctr_ok (tb := tbF) (P := p95) (c := c95) (f := 3000) tbF_ok hX hJ (by decide) rfl rfl k95 (ct1 (t3 hX hH hJ) (ct1 (t4 hX hH hJ) (ct1 (t73 hX hH hJ) (ct1 (t94 hX hH hJ) ct0))))
/-- readOne3 -/
noncomputable def c96 : Ctr := (25, [aR 49, aR 1, aI 3 3], some [aI (-1) 120], [(1, 3), (49, 5), (50, 0), (51, 0), (52, 0), (53, 0)], 27)
noncomputable def p96 : Pg := ([], [], [c3, c4, c6, c73, c74, c89, c95], ivG, [(1, 3), (49, 5), (50, 0), (51, 0), (52, 0), (53, 0)], none)
theorem k96 : chk p96 tbF 3000 c96 = true := by decide +kernel
theorem t96 {J : Jt} {X : Tok} {et : Nat → Option va_E} (hX : tOk X) (hH : HandT J X et) (hJ : JS DJ J) : ctrT ivG J X et c96 := ctr_ok (tb := tbF) (P := p96) (c := c96) (f := 3000) tbF_ok hX hJ (by decide) rfl rfl k96 (ct1 (t3 hX hH hJ) (ct1 (t4 hX hH hJ) (ct1 (t6 hX hH hJ) (ct1 (t73 hX hH hJ) (ct1 (t74 hX hH hJ) (ct1 (t89 hX hH hJ) (ct1 (t95 hX hH hJ) ct0)))))))
/-- readJoined5_3 -/
noncomputable def c97 : Ctr := (23, [aR 49, aR 1, aI 5 5, aI 3 3], some [aI (-1) 120], [(1, 3), (49, 5), (50, 0), (51, 0), (52, 0), (53, 0)], 28)
noncomputable def p97 : Pg := ([], [], [c96], ivG, [(1, 3), (49, 5), (50, 0), (51, 0), (52, 0), (53, 0)], none)
theorem k97 : chk p97 tbF 3000 c97 = true := by decide +kernel
theorem t97 {J : Jt} {X : Tok} {et : Nat → Option va_E} (hX : tOk X) (hH : HandT J X et) (hJ : JS DJ J) : ctrT ivG J X et c97 := ctr_ok (tb := tbF) (P := p97) (c := c97) (f := 3000) tbF_ok hX hJ (by decide) rfl rfl k97 (ct1 (t96 hX hH hJ) ct0)
/-- readJoined4_3 -/
noncomputable def c98 : Ctr := (23, [aR 49, aR 1, aI 4 4, aI 3 3], some [aI (-1) 120], [(1, 3), (49, 5), (50, 0), (51, 0), (52, 0), (53, 0)], 29)
noncomputable def p98 : Pg := ([(23, 39, [some none, some none, some none, some none, some (some ((-1), 120)), some none, some (some (0, 120)), none, none], [], .inl 6, true)], [], [c3, c4, c73, c97], ivG, [(1, 3), (49, 5), (50, 0), (51, 0), (52, 0), (53, 0)], none)
theorem k98 : chk p98 tbF 3000 c98 = true := by decide +kernel
theorem t98 {J : Jt} {X : Tok} {et : Nat → Option va_E} (hX : tOk X) (hH : HandT J X et) (hJ : JS DJ J) : ctrT ivG J X et c98 := ctr_ok (tb := tbF) (P := p98) (c := c98) (f := 3000) tbF_ok hX hJ (by decide) rfl rfl k98 (ct1 (t3 hX hH hJ) (ct1 (t4 hX hH hJ) (ct1 (t73 hX hH hJ) (ct1 (t97 hX hH hJ) ct0))))
/-- readJoined3_3 -/
noncomputable def c99 : Ctr := (23, [aR 49, aR 1, aI 3 3, aI 3 3], some [aI (-1) 120], [(1, 3), (49, 5), (50, 0), (51, 0), (52, 0), (53, 0)], 30)
noncomputable def p99 : Pg := ([(23, 39, [some none, some none, some none, some none, some (some ((-1), 120)), some none, some (some (0, 120)), none, none], [], .inl 6, true)], [], [c3, c4, c73, c98], ivG, [(1, 3), (49, 5), (50, 0), (51, 0), (52, 0), (53, 0)], none)
theorem k99 : chk p99 tbF 3000 c99 = true := by decide +kernel
theorem t99 {J : Jt} {X : Tok} {et : Nat → Option va_E} (hX : tOk X) (hH : HandT J X et) (hJ : JS DJ J) : ctrT ivG J X et c99 := ctr_ok (tb := tbF) (P := p99) (c := c99) (f := 3000) tbF_ok hX hJ (by decide) rfl rfl k99 (ct1 (t3 hX hH hJ) (ct1 (t4 hX hH hJ) (ct1 (t73 hX hH hJ) (ct1 (t98 hX hH hJ) ct0))))
/-- readJoined2_3 -/
noncomputable def c100 : Ctr := (23, [aR 49, aR 1, aI 2 2, aI 3 3], some [aI (-1) 120], [(1, 3), (49, 5), (50, 0), (51, 0), (52, 0), (53, 0)], 31)
noncomputable def p100 : Pg := ([(23, 39, [some none, some none, some none, some none, some (some ((-1), 120)), some none, some (some (0, 1)), none, none], [], .inl 6, true)], [], [c3, c4, c73, c99], ivG, [(1, 3), (49, 5), (50, 0), (51, 0), (52, 0), (53, 0)], none)
theorem k100 : chk p100 tbF 3000 c100 = true := by decide +kernel
theorem t100 {J : Jt} {X : Tok} {et : Nat → Option va_E} (hX : tOk X) (hH : HandT J X et) (hJ : JS DJ J) : ctrT ivG J X et c100 := ctr_ok (tb := tbF) (P := p100) (c := c100) (f := 3000) tbF_ok hX hJ (by decide) rfl rfl k100 (ct1 (t3 hX hH hJ) (ct1 (t4 hX hH hJ) (ct1 (t73 hX hH hJ) (ct1 (t99 hX hH hJ) ct0))))
/-- readJoined1_3 -/
noncomputable def c101 : Ctr := (23, [aR 49, aR 1, aI 1 1, aI 3 3], some [aI (-1) 120], [(1, 3), (49, 5), (50, 0), (51, 0), (52, 0), (53, 0)], 32)
noncomputable def p101 : Pg := ([(23, 39, [some none, some none, some none, some none, some (some ((-1), 120)), some none, some (some (0, 120)), none, none], [], .inl 6, true)], [], [c3, c4, c73, c100], ivG, [(1, 3), (49, 5), (50, 0), (51, 0), (52, 0), (53, 0)], none)
theorem k101 : chk p101 tbF 3000 c101 = true := by decide +kernel
theorem t101 {J : Jt} {X : Tok} {et : Nat → Option va_E} (hX : tOk X) (hH : HandT J X et) (hJ : JS DJ J) : ctrT ivG J X et c101 := ctr_ok (tb := tbF) (P := p101) (c := c101) (f := 3000) tbF_ok hX hJ (by decide) rfl rfl k101 (ct1 (t3 hX hH hJ) (ct1 (t4 hX hH hJ) (ct1 (t73 hX hH hJ) (ct1 (t100 hX hH hJ) ct0))))
/-- readJoined0_3 -/
noncomputable def c102 : Ctr := (23, [aR 49, aR 1, aI 0 0, aI 3 3], some [aI (-1) 120], [(1, 3), (49, 5), (50, 0), (51, 0), (52, 0), (53, 0)], 33)
noncomputable def p102 : Pg := ([(23, 39, [some none, some none, some none, some none, some (some ((-1), 120)), some none, some (some (0, 120)), none, none], [], .inl 6, true)], [], [c3, c4, c73, c101], ivG, [(1, 3), (49, 5), (50, 0), (51, 0), (52, 0), (53, 0)], none)
theorem k102 : chk p102 tbF 3000 c102 = true := by decide +kernel
theorem t102 {J : Jt} {X : Tok} {et : Nat → Option va_E} (hX : tOk X) (hH : HandT J X et) (hJ : JS DJ J) : ctrT ivG J X et c102 := ctr_ok (tb := tbF) (P := p102) (c := c102) (f := 3000) tbF_ok hX hJ (by decide) rfl rfl k102 (ct1 (t3 hX hH hJ) (ct1 (t4 hX hH hJ) (ct1 (t73 hX hH hJ) (ct1 (t101 hX hH hJ) ct0))))
/-- readOne2 -/
noncomputable def c103 : Ctr := (25, [aR 49, aR 1, aI 2 2], some [aI (-1) 120], [(1, 3), (49, 5), (50, 0), (51, 0), (52, 0), (53, 0)], 35)
noncomputable def p103 : Pg := ([], [], [c3, c4, c6, c73, c74, c96, c102], ivG, [(1, 3), (49, 5), (50, 0), (51, 0), (52, 0), (53, 0)], none)
theorem k103 : chk p103 tbF 3000 c103 = true := by decide +kernel
theorem t103 {J : Jt} {X : Tok} {et : Nat → Option va_E} (hX : tOk X) (hH : HandT J X et) (hJ : JS DJ J) : ctrT ivG J X et c103 := ctr_ok (tb := tbF) (P := p103) (c := c103) (f := 3000) tbF_ok hX hJ (by decide) rfl rfl k103 (ct1 (t3 hX hH hJ) (ct1 (t4 hX hH hJ) (ct1 (t6 hX hH hJ) (ct1 (t73 hX hH hJ) (ct1 (t74 hX hH hJ) (ct1 (t96 hX hH hJ) (ct1 (t102 hX hH hJ) ct0)))))))
/-- readJoined5_2 -/
noncomputable def c104 : Ctr := (23, [aR 49, aR 1, aI 5 5, aI 2 2], some [aI (-1) 120], [(1, 3), (49, 5), (50, 0), (51, 0), (52, 0), (53, 0)], 36)
noncomputable def p104 : Pg := ([], [], [c103], ivG, [(1, 3), (49, 5), (50, 0), (51, 0), (52, 0), (53, 0)], none)
theorem k104 : chk p104 tbF 3000 c104 = true := by decide +kernel
theorem t104 {J : Jt} {X : Tok} {et : Nat → Option va_E} (hX : tOk X) (hH : HandT J X et) (hJ : JS DJ J) : ctrT ivG J X et c104 := ctr_ok (tb := tbF) (P := p104) (c := c104) (f := 3000) tbF_ok hX hJ (by decide) rfl rfl k104 (ct1 (t103 hX hH hJ) ct0)
/-- readJoined4_2 -/
noncomputable def c105 : Ctr := (23, [aR 49, aR 1, aI 4 4, aI 2 2], some [aI (-1) 120], [(1, 3), (49, 5), (50, 0), (51, 0), (52, 0), (53, 0)], 37)
noncomputable def p105 : Pg := ([(23, 39, [some none, some none, some none, some none, some (some ((-1), 120)), some none, some (some (0, 120)), none, none], [], .inl 6, true)], [], [c3, c4, c73, c104], ivG, [(1, 3), (49, 5), (50, 0), (51, 0), (52, 0), (53, 0)], none)
theorem k105 : chk p105 tbF 3000 c105 = true := by decide +kernel
theorem t105 {J : Jt} {X : Tok} {et : Nat → Option va_E} (hX : tOk X) (hH : HandT J X et) (hJ : JS DJ J) : ctrT ivG J X et c105 := ctr_ok (tb := tbF) (P := p105) (c := c105) (f := 3000) tbF_ok hX hJ (by decide) rfl rfl k105 (ct1 (t3 hX hH hJ) (ct1 (t4 hX hH hJ) (ct1 (t73 hX hH hJ) (ct1 (t104 hX hH hJ) ct0))))
/-- readJoined3_2 -/
noncomputable def c106 : Ctr := (23, [aR 49, aR 1, aI 3 3, aI 2 2], some [aI (-1) 120], [(1, 3), (49, 5), (50, 0), (51, 0), (52, 0), (53, 0)], 38)
noncomputable def p106 : Pg := ([(23, 39, [some none, some none, some none, some none, some (some ((-1), 120)), some none, some (some (0, 120)), none, none], [], .inl 6, true)], [], [c3, c4, c73, c105], ivG, [(1, 3), (49, 5), (50, 0), (51, 0), (52, 0), (53, 0)], none)
theorem k106 : chk p106 tbF 3000 c106 = true := by decide +kernel
theorem t106 {J : Jt} {X : Tok} {et : Nat → Option va_E} (hX : tOk X) (hH : HandT J X et) (hJ : JS DJ J) : ctrT ivG J X et c106 := ctr_ok (tb := tbF) (P := p106) (c := c106) (f := 3000) tbF_ok hX hJ (by decide) rfl rfl k106 (ct1 (t3 hX hH hJ) (ct1 (t4 hX hH hJ) (ct1 (t73 hX hH hJ) (ct1 (t105 hX hH hJ) ct0))))
/-- readJoined2_2 -/
noncomputable def c107 : Ctr := (23, [aR 49, aR 1, aI 2 2, aI 2 2], some [aI (-1) 120], [(1, 3), (49, 5), (50, 0), (51, 0), (52, 0), (53, 0)], 39)
noncomputable def p107 : Pg := ([(23, 39, [some none, some none, some none, some none, some (some ((-1), 120)), some none, some (some (0, 1)), none, none], [], .inl 6, true)], [], [c3, c4, c73, c106], ivG, [(1, 3), (49, 5), (50, 0), (51, 0), (52, 0), (53, 0)], none)
theorem k107 : chk p107 tbF 3000 c107 = true := by decide +kernel
theorem t107 {J : Jt} {X : Tok} {et : Nat → Option va_E} (hX : tOk X) (hH : HandT J X et) (hJ : JS DJ J) : ctrT ivG J X et c107 := ctr_ok (tb := tbF) (P := p107) (c := c107) (f := 3000) tbF_ok hX hJ (by decide) rfl rfl k107 (ct1 (t3 hX hH hJ) (ct1 (t4 hX hH hJ) (ct1 (t73 hX hH hJ) (ct1 (t106 hX hH hJ) ct0))))
/-- readJoined1_2 -/
noncomputable def c108 : Ctr := (23, [aR 49, aR 1, aI 1 1, aI 2 2], some [aI (-1) 120], [(1, 3), (49, 5), (50, 0), (51, 0), (52, 0), (53, 0)], 40)
noncomputable def p108 : Pg := ([(23, 39, [some none, some none, some none, some none, some (some ((-1), 120)), some none, some (some (0, 120)), none, none], [], .inl 6, true)], [], [c3, c4, c73, c107], ivG, [(1, 3), (49, 5), (50, 0), (51, 0), (52, 0), (53, 0)], none)
theorem k108 : chk p108 tbF 3000 c108 = true := by decide +kernel
theorem t108 {J : Jt} {X : Tok} {et : Nat → Option va_E} (hX : tOk X) (hH : HandT J X et) (hJ : JS DJ J) : ctrT ivG J X et c108 := ctr_ok (tb := tbF) (P := p108) (c := c108) (f := 3000) tbF_ok hX hJ (by decide) rfl rfl k108 (ct1 (t3 hX hH hJ) (ct1 (t4 hX hH hJ) (ct1 (t73 hX hH hJ) (ct1 (t107 hX hH hJ) ct0))))
/-- readJoined0_2 -/
noncomputable def c109 : Ctr := (23, [aR 49, aR 1, aI 0 0, aI 2 2], some [aI (-1) 120], [(1, 3), (49, 5), (50, 0), (51, 0), (52, 0), (53, 0)], 41)
noncomputable def p109 : Pg := ([(23, 39, [some none, some none, some none, some none, some (some ((-1), 120)), some none, some (some (0, 120)), none, none], [], .inl 6, true)], [], [c3, c4, c73, c108], ivG, [(1, 3), (49, 5), (50, 0), (51, 0), (52, 0), (53, 0)], none)
theorem k109 : chk p109 tbF 3000 c109 = true := by decide +kernel
theorem t109 {J : Jt} {X : Tok} {et : Nat → Option va_E} (hX : tOk X) (hH : HandT J X et) (hJ : JS DJ J) : ctrT ivG J X et c109 := ctr_ok (tb := tbF) (P := p109) (c := c109) (f := 3000) tbF_ok hX hJ (by decide) rfl rfl k109 (ct1 (t3 hX hH hJ) (ct1 (t4 hX hH hJ) (ct1 (t73 hX hH hJ) (ct1 (t108 hX hH hJ) ct0))))
/-- readOne1 -/
noncomputable def c110 : Ctr := (25, [aR 49, aR 1, aI 1 1], some [aI (-1) 120], [(1, 3), (49, 5), (50, 0), (51, 0), (52, 0), (53, 0)], 43)
noncomputable def p110 : Pg := ([], [], [c3, c4, c6, c73, c74, c103, c109], ivG, [(1, 3), (49, 5), (50, 0), (51, 0), (52, 0), (53, 0)], none)
theorem k110 : chk p110 tbF 3000 c110 = true := by decide +kernel
theorem t110 {J : Jt} {X : Tok} {et : Nat → Option va_E} (hX : tOk X) (hH : HandT J X et) (hJ : JS DJ J) : ctrT ivG J X et c110 := ctr_ok (tb := tbF) (P := p110) (c := c110) (f := 3000) tbF_ok hX hJ (by decide) rfl rfl k110 (ct1 (t3 hX hH hJ) (ct1 (t4 hX hH hJ) (ct1 (t6 hX hH hJ) (ct1 (t73 hX hH hJ) (ct1 (t74 hX hH hJ) (ct1 (t103 hX hH hJ) (ct1 (t109 hX hH hJ) ct0)))))))
/-- readJoined5_1 -/
noncomputable def c111 : Ctr := (23, [aR 49, aR 1, aI 5 5, aI 1 1], some [aI (-1) 120], [(1, 3), (49, 5), (50, 0), (51, 0), (52, 0), (53, 0)], 44)
noncomputable def p111 : Pg := ([], [], [c110], ivG, [(1, 3), (49, 5), (50, 0), (51, 0), (52, 0), (53, 0)], none)
theorem k111 : chk p111 tbF 3000 c111 = true := by decide +kernel
theorem t111 {J : Jt} {X : Tok} {et : Nat → Option va_E} (hX : tOk X) (hH : HandT J X et) (hJ : JS DJ J) : ctrT ivG J X et c111 := ctr_ok (tb := tbF) (P := p111) (c := c111) (f := 3000) tbF_ok hX hJ (by decide) rfl rfl k111 (ct1 (t110 hX hH hJ) ct0)
/-- readJoined4_1 -/
noncomputable def c112 : Ctr := (23, [aR 49, aR 1, aI 4 4, aI 1 1], some [aI (-1) 120], [(1, 3), (49, 5), (50, 0), (51, 0), (52, 0), (53, 0)], 45)
noncomputable def p112 : Pg := ([(23, 39, [some none, some none, some none, some none, some (some ((-1), 120)), some none, some (some (0, 120)), none, none], [], .inl 6, true)], [], [c3, c4, c73, c111], ivG, [(1, 3), (49, 5), (50, 0), (51, 0), (52, 0), (53, 0)], none)
theorem k112 : chk p112 tbF 3000 c112 = true := by decide +kernel
theorem t112 {J : Jt} {X : Tok} {et : Nat → Option va_E} (hX : tOk X) (hH : HandT J X et) (hJ : JS DJ J) : ctrT ivG J X et c112 := ctr_ok (tb := tbF) (P := p112) (c := c112) (f := 3000) tbF_ok hX hJ (by decide) rfl rfl k112 (ct1 (t3 hX hH hJ) (ct1 (t4 hX hH hJ) (ct1 (t73 hX hH hJ) (ct1 (t111 hX hH hJ) ct0))))
/-- readJoined3_1 -/
noncomputable def c113 : Ctr := (23, [aR 49, aR 1, aI 3 3, aI 1 1], some [aI (-1) 120], [(1, 3), (49, 5), (50, 0), (51, 0), (52, 0), (53, 0)], 46)
noncomputable def p113 : Pg := ([(23, 39, [some none, some none, some none, some none, some (some ((-1), 120)), some none, some (some (0, 120)), none, none], [], .inl 6, true)], [], [c3, c4, c73, c112], ivG, [(1, 3), (49, 5), (50, 0), (51, 0), (52, 0), (53, 0)], none)
theorem k113 : chk p113 tbF 3000 c113 = true := by decide +kernel
theorem t113 {J : Jt} {X : Tok} {et : Nat → Option va_E} (hX : tOk X) (hH : HandT J X et) (hJ : JS DJ J) : ctrT ivG J X et c113 := ctr_ok (tb := tbF) (P := p113) (c := c113) (f := 3000) tbF_ok hX hJ (by decide) rfl rfl k113 (ct1 (t3 hX hH hJ) (ct1 (t4 hX hH hJ) (ct1 (t73 hX hH hJ) (ct1 (t112 hX hH hJ) ct0))))
/-- readJoined2_1 -/
noncomputable def c114 : Ctr := (23, [aR 49, aR 1, aI 2 2, aI 1 1], some [aI (-1) 120], [(1, 3), (49, 5), (50, 0), (51, 0), (52, 0), (53, 0)], 47)
noncomputable def p114 : Pg := ([(23, 39, [some none, some none, some none, some none, some (some ((-1), 120)), some none, some (some (0, 1)), none, none], [], .inl 6, true)], [], [c3, c4, c73, c113], ivG, [(1, 3), (49, 5), (50, 0), (51, 0), (52, 0), (53, 0)], none)
theorem k114 : chk p114 tbF 3000 c114 = true := by decide +kernel
theorem t114 {J : Jt} {X : Tok} {et : Nat → Option va_E} (hX : tOk X) (hH : HandT J X et) (hJ : JS DJ J) : ctrT ivG J X et c114 := ctr_ok (tb := tbF) (P := p114) (c := c114) (f := 3000) tbF_ok hX hJ (by decide) rfl rfl k114 (ct1 (t3 hX hH hJ) (ct1 (t4 hX hH hJ) (ct1 (t73 hX hH hJ) (ct1 (t113 hX hH hJ) ct0))))
/-- readJoined1_1 -/
noncomputable def c115 : Ctr := (23, [aR 49, aR 1, aI 1 1, aI 1 1], some [aI (-1) 120], [(1, 3), (49, 5), (50, 0), (51, 0), (52, 0), (53, 0)], 48)
noncomputable def p115 : Pg := ([(23, 39, [some none, some none, some none, some none, some (some ((-1), 120)), some none, some (some (0, 120)), none, none], [], .inl 6, true)], [], [c3, c4, c73, c114], ivG, [(1, 3), (49, 5), (50, 0), (51, 0), (52, 0), (53, 0)], none)
theorem k115 : chk p115 tbF 3000 c115 = true := by decide +kernel
theorem t115 {J : Jt} {X : Tok} {et : Nat → Option va_E} (hX : tOk X) (hH : HandT J X et) (hJ : JS DJ J) : ctrT ivG J X et c115 := ctr_ok (tb := tbF) (P := p115) (c := c115) (f := 3000) tbF_ok hX hJ (by decide) rfl rfl k115 (ct1 (t3 hX hH hJ) (ct1 (t4 hX hH hJ) (ct1 (t73 hX hH hJ) (ct1 (t114 hX hH hJ) ct0))))
/-- readJoined0_1 -/
noncomputable def c116 : Ctr := (23, [aR 49, aR 1, aI 0 0, aI 1 1], some [aI (-1) 120], [(1, 3), (49, 5), (50, 0), (51, 0), (52, 0), (53, 0)], 49)
noncomputable def p116 : Pg := ([(23, 39, [some none, some none, some none, some none, some (some ((-1), 120)), some none, some (some (0, 120)), none, none], [], .inl 6, true)], [], [c3, c4, c73, c115], ivG, [(1, 3), (49, 5), (50, 0), (51, 0), (52, 0), (53, 0)], none)
theorem k116 : chk p116 tbF 3000 c116 = true := by decide +kernel
theorem t116 {J : Jt} {X : Tok} {et : Nat → Option va_E} (hX : tOk X) (hH : HandT J X et) (hJ : JS DJ J) : ctrT ivG J X et c116 := ctr_ok (tb := tbF) (P := p116) (c := c116) (f := 3000) tbF_ok hX hJ (by decide) rfl rfl k116 (ct1 (t3 hX hH hJ) (ct1 (t4 hX hH hJ) (ct1 (t73 hX hH hJ) (ct1 (t115 hX hH hJ) ct0))))
/-- readOne0 -/
noncomputable def c117 : Ctr := (25, [aR 49, aR 1, aI 0 0], some [aI (-1) 120], [(1, 3), (49, 5), (50, 0), (51, 0), (52, 0), (53, 0)], 51)
noncomputable def p117 : Pg := ([], [], [c3, c4, c6, c73, c74, c110, c116], ivG, [(1, 3), (49, 5), (50, 0), (51, 0), (52, 0), (53, 0)], none)
theorem k117 : chk p117 tbF 3000 c117 = true := by decide +kernel
theorem t117 {J : Jt} {X : Tok} {et : Nat → Option va_E} (hX : tOk X) (hH : HandT J X et) (hJ : JS DJ J) : ctrT ivG J X et c117 := ctr_ok (tb := tbF) (P := p117) (c := c117) (f := 3000) tbF_ok hX hJ (by decide) rfl rfl k117 (ct1 (t3 hX hH hJ) (ct1 (t4 hX hH hJ) (ct1 (t6 hX hH hJ) (ct1 (t73 hX hH hJ) (ct1 (t74 hX hH hJ) (ct1 (t110 hX hH hJ) (ct1 (t116 hX hH hJ) ct0)))))))
/-- readJoined5_0 -/
noncomputable def c118 : Ctr := (23, [aR 49, aR 1, aI 5 5, aI 0 0], some [aI (-1) 120], [(1, 3), (49, 5), (50, 0), (51, 0), (52, 0), (53, 0)], 52)
noncomputable def p118 : Pg := ([], [], [c117], ivG, [(1, 3), (49, 5), (50, 0), (51, 0), (52, 0), (53, 0)], none)
theorem k118 : chk p118 tbF 3000 c118 = true := by decide +kernel
theorem t118 {J : Jt} {X : Tok} {et : Nat → Option va_E} (hX : tOk X) (hH : HandT J X et) (hJ : JS DJ J) : ctrT ivG J X et c118 := ctr_ok (tb := tbF) (P := p118) (c := c118) (f := 3000) tbF_ok hX hJ (by decide) rfl rfl k118 (ct1 (t117 hX hH hJ) ct0)
/-- readJoined4_0 -/
noncomputable def c119 : Ctr := (23, [aR 49, aR 1, aI 4 4, aI 0 0], some [aI (-1) 120], [(1, 3), (49, 5), (50, 0), (51, 0), (52, 0), (53, 0)], 53)
noncomputable def p119 : Pg := ([(23, 39, [some none, some none, some none, some none, some (some ((-1), 120)), some none, some (some (0, 120)), none, none], [], .inl 6, true)], [], [c3, c4, c73, c118], ivG, [(1, 3), (49, 5), (50, 0), (51, 0), (52, 0), (53, 0)], none)
theorem k119 : chk p119 tbF 3000 c119 = true := by decide +kernel
theorem t119 {J : Jt} {X : Tok} {et : Nat → Option va_E} (hX : tOk X) (hH : HandT J X et) (hJ : JS DJ J) : ctrT ivG J X et c119 := ctr_ok (tb := tbF) (P := p119) (c := c119) (f := 3000) tbF_ok hX hJ (by decide) rfl rfl k119 (ct1 (t3 hX hH hJ) (ct1 (t4 hX hH hJ) (ct1 (t73 hX hH hJ) (ct1 (t118 hX hH hJ) ct0))))
/-- readJoined3_0 -/
noncomputable def c120 : Ctr := (23, [aR 49, aR 1, aI 3 3, aI 0 0], some [aI (-1) 120], [(1, 3), (49, 5), (50, 0), (51, 0), (52, 0), (53, 0)], 54)
noncomputable def p120 : Pg := ([(23, 39, [some none, some none, some none, some none, some (some ((-1), 120)), some none, some (some (0, 120)), none, none], [], .inl 6, true)], [], [c3, c4, c73, c119], ivG, [(1, 3), (49, 5), (50, 0), (51, 0), (52, 0), (53, 0)], none)
theorem k120 : chk p120 tbF 3000 c120 = true := by decide +kernel
theorem t120 {J : Jt} {X : Tok} {et : Nat → Option va_E} (hX : tOk X) (hH : HandT J X et) (hJ : JS DJ J) : ctrT ivG J X et c120 := ctr_ok (tb := tbF) (P := p120) (c := c120) (f := 3000) tbF_ok hX hJ (by decide) rfl rfl k120 (ct1 (t3 hX hH hJ) (ct1 (t4 hX hH hJ) (ct1 (t73 hX hH hJ) (ct1 (t119 hX hH hJ) ct0))))
/-- readJoined2_0 -/
noncomputable def c121 : Ctr := (23, [aR 49, aR 1, aI 2 2, aI 0 0], some [aI (-1) 120], [(1, 3), (49, 5), (50, 0), (51, 0), (52, 0), (53, 0)], 55)
noncomputable def p121 : Pg := ([(23, 39, [some none, some none, some none, some none, some (some ((-1), 120)), some none, some (some (0, 1)), none, none], [], .inl 6, true)], [], [c3, c4, c73, c120], ivG, [(1, 3), (49, 5), (50, 0), (51, 0), (52, 0), (53, 0)], none)
theorem k121 : chk p121 tbF 3000 c121 = true := by decide +kernel
theorem t121 {J : Jt} {X : Tok} {et : Nat → Option va_E} (hX : tOk X) (hH : HandT J X et) (hJ : JS DJ J) : ctrT ivG J X et c121 := ctr_ok (tb := tbF) (P := p121) (c := c121) (f := 3000) tbF_ok hX hJ (by decide) rfl rfl k121 (ct1 (t3 hX hH hJ) (ct1 (t4 hX hH hJ) (ct1 (t73 hX hH hJ) (ct1 (t120 hX hH hJ) ct0))))
/-- readJoined1_0 -/
noncomputable def c122 : Ctr := (23, [aR 49, aR 1, aI 1 1, aI 0 0], some [aI (-1) 120], [(1, 3), (49, 5), (50, 0), (51, 0), (52, 0), (53, 0)], 56)
noncomputable def p122 : Pg := ([(23, 39, [some none, some none, some none, some none, some (some ((-1), 120)), some none, some (some (0, 120)), none, none], [], .inl 6, true)], [], [c3, c4, c73, c121], ivG, [(1, 3), (49, 5), (50, 0), (51, 0), (52, 0), (53, 0)], none)
theorem k122 : chk p122 tbF 3000 c122 = true := by decide +kernel
theorem t122 {J : Jt} {X : Tok} {et : Nat → Option va_E} (hX : tOk X) (hH : HandT J X et) (hJ : JS DJ J) : ctrT ivG J X et c122 := ctr_ok (tb := tbF) (P := p122) (c := c122) (f := 3000) tbF_ok hX hJ (by decide) rfl rfl k122 (ct1 (t3 hX hH hJ) (ct1 (t4 hX hH hJ) (ct1 (t73 hX hH hJ) (ct1 (t121 hX hH hJ) ct0))))
/-- readJoined0_0 -/
noncomputable def c123 : Ctr := (23, [aR 49, aR 1, aI 0 0, aI 0 0], some [aI (-1) 120], [(1, 3), (49, 5), (50, 0), (51, 0), (52, 0), (53, 0)], 57)
noncomputable def p123 : Pg := ([(23, 39, [some none, some none, some none, some none, some (some ((-1), 120)), some none, some (some (0, 120)), none, none], [], .inl 6, true)], [], [c3, c4, c73, c122], ivG, [(1, 3), (49, 5), (50, 0), (51, 0), (52, 0), (53, 0)], none)
theorem k123 : chk p123 tbF 3000 c123 = true := by decide +kernel
theorem t123 {J : Jt} {X : Tok} {et : Nat → Option va_E} (hX : tOk X) (hH : HandT J X et) (hJ : JS DJ J) : ctrT ivG J X et c123 := ctr_ok (tb := tbF) (P := p123) (c := c123) (f := 3000) tbF_ok hX hJ (by decide) rfl rfl k123 (ct1 (t3 hX hH hJ) (ct1 (t4 hX hH hJ) (ct1 (t73 hX hH hJ) (ct1 (t122 hX hH hJ) ct0))))
/-- MFl_readLine -/
noncomputable def c124 : Ctr := (22, [aR 49, aR 1], some [aI 0 1], [(1, 3), (49, 5), (50, 0), (51, 0), (52, 0), (53, 0)], 58)
noncomputable def p124 : Pg := ([], [], [c4, c73, c123], ivG, [(1, 3), (49, 5), (50, 0), (51, 0), (52, 0), (53, 0)], none)
theorem k124 : chk p124 tbF 3000 c124 = true := by decide +kernel
theorem t124 {J : Jt} {X : Tok} {et : Nat → Option va_E} (hX : tOk X) (hH : HandT J X et) (hJ : JS DJ J) : ctrT ivG J X et c124 := ctr_ok (tb := tbF) (P := p124) (c := c124) (f := 3000) tbF_ok hX hJ (by decide) rfl rfl k124 (ct1 (t4 hX hH hJ) (ct1 (t73 hX hH hJ) (ct1 (t123 hX hH hJ) ct0)))
/-- MFl_readFrom -/
noncomputable def c125 : Ctr := (21, [aR 49, aR 1], some [aI 0 1], [(1, 3), (49, 5), (50, 0), (51, 0), (52, 0), (53, 0)], 59)
noncomputable def p125 : Pg := ([(21, 9, [some none, some none, some (some (0, 1)), some (some (0, 121))], [(49, 4)], .inl 3, true)], [], [c4, c124], ivG, [(1, 3), (49, 5), (50, 0), (51, 0), (52, 0), (53, 0)], none)
theorem k125 : chk p125 tbF 3000 c125 = true := by decide +kernel
theorem t125 {J : Jt} {X : Tok} {et : Nat → Option va_E} (hX : tOk X) (hH : HandT J X et) (hJ : JS DJ J) : ctrT ivG J X et c125 := ctr_ok (tb := tbF) (P := p125) (c := c125) (f := 3000) tbF_ok hX hJ (by decide) rfl rfl k125 (ct1 (t4 hX hH hJ) (ct1 (t124 hX hH hJ) ct0))
/-- MFl_result -/
noncomputable def c126 : Ctr := (32, [aR 49, aT, aT, aT], some [aT], [], 0)
noncomputable def p126 : Pg := ([], [], [], ivG, [], none)
theorem k126 : chk p126 tbF 3000 c126 = true := by decide +kernel
theorem t126 {J : Jt} {X : Tok} {et : Nat → Option va_E} (hX : tOk X) (hH : HandT J X et) (hJ : JS DJ J) : ctrT ivG J X et c126 := ctr_ok (tb := tbF) (P := p126) (c := c126) (f := 3000) tbF_ok hX hJ (by decide) rfl rfl k126 ct0
/-- MFl_takes -/
noncomputable def c127 : Ctr := (30, [aR 49, aT, aT], some [aI 0 2147483647], [(49, 6), (49, 7), (53, 0)], 1)
noncomputable def p127 : Pg := ([(30, 15, [some none, some none, some none, some (some (0, 1)), some (some (0, 121)), none, none], [], .inl 4, true)], [], [c126], ivG, [(49, 6), (49, 7), (53, 0)], none)
theorem k127 : chk p127 tbF 3000 c127 = true := by decide +kernel
theorem t127 {J : Jt} {X : Tok} {et : Nat → Option va_E} (hX : tOk X) (hH : HandT J X et) (hJ : JS DJ J) : ctrT ivG J X et c127 := ctr_ok (tb := tbF) (P := p127) (c := c127) (f := 3000) tbF_ok hX hJ (by decide) rfl rfl k127 (ct1 (t126 hX hH hJ) ct0)
/-- MFl_name -/
noncomputable def c128 : Ctr := (29, [aR 49, aT, aT, aT, aT], none, [(49, 8), (49, 9), (49, 10), (49, 11)], 1)
noncomputable def p128 : Pg := ([], [], [], ivG, [(49, 8), (49, 9), (49, 10), (49, 11)], none)
theorem k128 : chk p128 tbF 3000 c128 = true := by decide +kernel
theorem t128 {J : Jt} {X : Tok} {et : Nat → Option va_E} (hX : tOk X) (hH : HandT J X et) (hJ : JS DJ J) : ctrT ivG J X et c128 := ctr_ok (tb := tbF) (P := p128) (c := c128) (f := 3000) tbF_ok hX hJ (by decide) rfl rfl k128 ct0
/-- MFl_append -/
noncomputable def c129 : Ctr := (27, [aR 54, aT, aT, aT], some [aI (-1) 120], [(54, 5), (55, 0), (56, 0), (57, 0)], 0)
noncomputable def p129 : Pg := ([], [], [], ivG, [(54, 5), (55, 0), (56, 0), (57, 0)], none)
theorem k129 : chk p129 tbF 3000 c129 = true := by decide +kernel
theorem t129 {J : Jt} {X : Tok} {et : Nat → Option va_E} (hX : tOk X) (hH : HandT J X et) (hJ : JS DJ J) : ctrT ivG J X et c129 := ctr_ok (tb := tbF) (P := p129) (c := c129) (f := 3000) tbF_ok hX hJ (by decide) rfl rfl k129 ct0
/-- MFl_appendNumber -/
noncomputable def c130 : Ctr := (28, [aR 54, aT], some [aI (-1) 120], [(54, 5), (55, 0), (56, 0), (57, 0), (58, 0)], 1)
noncomputable def p130 : Pg := ([], [], [c129], ivG, [(54, 5), (55, 0), (56, 0), (57, 0), (58, 0)], none)
theorem k130 : chk p130 tbF 3000 c130 = true := by decide +kernel
theorem t130 {J : Jt} {X : Tok} {et : Nat → Option va_E} (hX : tOk X) (hH : HandT J X et) (hJ : JS DJ J) : ctrT ivG J X et c130 := ctr_ok (tb := tbF) (P := p130) (c := c130) (f := 3000) tbF_ok hX hJ (by decide) rfl rfl k130 (ct1 (t129 hX hH hJ) ct0)
/-- readOne6 -/
noncomputable def c131 : Ctr := (25, [aR 54, aR 1, aI 6 6], some [aI (-1) 120], [(1, 3), (54, 5), (55, 0), (56, 0), (57, 0), (58, 0)], 3)
noncomputable def p131 : Pg := ([], [], [c3, c4, c6, c129, c130], ivG, [(1, 3), (54, 5), (55, 0), (56, 0), (57, 0), (58, 0)], none)
theorem k131 : chk p131 tbF 3000 c131 = true := by decide +kernel
theorem t131 {J : Jt} {X : Tok} {et : Nat → Option va_E} (hX : tOk X) (hH : HandT J X et) (hJ : JS DJ J) : ctrT ivG J X et c131 := ctr_ok (tb := tbF) (P := p131) (c := c131) (f := 3000) tbF_ok hX hJ (by decide) rfl rfl k131 (ct1 (t3 hX hH hJ) (ct1 (t4 hX hH hJ) (ct1 (t6 hX hH hJ) (ct1 (t129 hX hH hJ) (ct1 (t130 hX hH hJ) ct0)))))
/-- readJoined5_6 -/
noncomputable def c132 : Ctr := (23, [aR 54, aR 1, aI 5 5, aI 6 6], some [aI (-1) 120], [(1, 3), (54, 5), (55, 0), (56, 0), (57, 0), (58, 0)], 4)
noncomputable def p132 : Pg := ([], [], [c131], ivG, [(1, 3), (54, 5), (55, 0), (56, 0), (57, 0), (58, 0)], none)
theorem k132 : chk p132 tbF 3000 c132 = true := by decide +kernel
theorem t132 {J : Jt} {X : Tok} {et : Nat → Option va_E} (hX : tOk X) (hH : HandT J X et) (hJ : JS DJ J) : ctrT ivG J X et c132 := ctr_ok (tb := tbF) (P := p132) (c := c132) (f := 3000) tbF_ok hX hJ (by decide) rfl rfl k132 (ct1 (t131 hX hH hJ) ct0)
/-- readJoined4_6 -/
noncomputable def c133 : Ctr := (23, [aR 54, aR 1, aI 4 4, aI 6 6], some [aI (-1) 120], [(1, 3), (54, 5), (55, 0), (56, 0), (57, 0), (58, 0)], 5)
noncomputable def p133 : Pg := ([(23, 39, [some none, some none, some none, some none, some (some ((-1), 120)), some none, some (some (0, 120)), none, none], [], .inl 6, true)], [], [c3, c4, c129, c132], ivG, [(1, 3), (54, 5), (55, 0), (56, 0), (57, 0), (58, 0)], none)
theorem k133 : chk p133 tbF 3000 c133 = true := by decide +kernel
theorem t133 {J : Jt} {X : Tok} {et : Nat → Option va_E} (hX : tOk X) (hH : HandT J X et) (hJ : JS DJ J) : ctrT ivG J X et c133 := ctr_ok (tb := tbF) (P := p133) (c := c133) (f := 3000) tbF_ok hX hJ (by decide) rfl rfl k133 (ct1 (t3 hX hH hJ) (ct1 (t4 hX hH hJ) (ct1 (t129 hX hH hJ) (ct1 (t132 hX hH hJ) ct0))))
/-- readJoined3_6 -/
noncomputable def c134 : Ctr := (23, [aR 54, aR 1, aI 3 3, aI 6 6], some [aI (-1) 120], [(1, 3), (54, 5), (55, 0), (56, 0), (57, 0), (58, 0)], 6)
noncomputable def p134 : Pg := ([(23, 39, [some none, some none, some none, some none, some (some ((-1), 120)), some none, some (some (0, 120)), none, none], [], .inl 6, true)], [], [c3, c4, c129, c133], ivG, [(1, 3), (54, 5), (55, 0), (56, 0), (57, 0), (58, 0)], none)
theorem k134 : chk p134 tbF 3000 c134 = true := by decide +kernel
theorem t134 {J : Jt} {X : Tok} {et : Nat → Option va_E} (hX : tOk X) (hH : HandT J X et) (hJ : JS DJ J) : ctrT ivG J X et c134 := ctr_ok (tb := tbF) (P := p134) (c := c134) (f := 3000) tbF_ok hX hJ (by decide) rfl rfl k134 (ct1 (t3 hX hH hJ) (ct1 (t4 hX hH hJ) (ct1 (t129 hX hH hJ) (ct1 (t133 hX hH hJ) ct0))))
/-- readJoined2_6 -/
noncomputable def c135 : Ctr := (23, [aR 54, aR 1, aI 2 2, aI 6 6], some [aI (-1) 120], [(1, 3), (54, 5), (55, 0), (56, 0), (57, 0), (58, 0)], 7)
noncomputable def p135 : Pg := ([(23, 39, [some none, some none, some none, some none, some (some ((-1), 120)), some none, some (some (0, 1)), none, none], [], .inl 6, true)], [], [c3, c4, c129, c134], ivG, [(1, 3), (54, 5), (55, 0), (56, 0), (57, 0), (58, 0)], none)
theorem k135 : chk p135 tbF 3000 c135 = true := by decide +kernel
theorem t135 {J : Jt} {X : Tok} {et : Nat → Option va_E} (hX : tOk X) (hH : HandT J X et) (hJ : JS DJ J) : ctrT ivG J X et c135 := ctr_ok (tb := tbF) (P := p135) (c := c135) (f := 3000) tbF_ok hX hJ (by decide) rfl rfl k135 (ct1 (t3 hX hH hJ) (ct1 (t4 hX hH hJ) (ct1 (t129 hX hH hJ) (ct1 (t134 hX hH hJ) ct0))))
/-- readJoined1_6 -/
noncomputable def c136 : Ctr := (23, [aR 54, aR 1, aI 1 1, aI 6 6], some [aI (-1) 120], [(1, 3), (54, 5), (55, 0), (56, 0), (57, 0), (58, 0)], 8)
noncomputable def p136 : Pg := ([(23, 39, [some none, some none, some none, some none, some (some ((-1), 120)), some none, some (some (0, 120)), none, none], [], .inl 6, true)], [], [c3, c4, c129, c135], ivG, [(1, 3), (54, 5), (55, 0), (56, 0), (57, 0), (58, 0)], none)
theorem k136 : chk p136 tbF 3000 c136 = true := by decide +kernel
theorem t136 {J : Jt} {X : Tok} {et : Nat → Option va_E} (hX : tOk X) (hH : HandT J X et) (hJ : JS DJ J) : ctrT ivG J X et c136 := ctr_ok (tb := tbF) (P := p136) (c := c136) (f := 3000) tbF_ok hX hJ (by decide) rfl rfl k136 (ct1 (t3 hX hH hJ) (ct1 (t4 hX hH hJ) (ct1 (t129 hX hH hJ) (ct1 (t135 hX hH hJ) ct0))))
/-- readJoined0_6 -/
noncomputable def c137 : Ctr := (23, [aR 54, aR 1, aI 0 0, aI 6 6], some [aI (-1) 120], [(1, 3), (54, 5), (55, 0), (56, 0), (57, 0), (58, 0)], 9)
noncomputable def p137 : Pg := ([(23, 39, [some none, some none, some none, some none, some (some ((-1), 120)), some none, some (some (0, 120)), none, none], [], .inl 6, true)], [], [c3, c4, c129, c136], ivG, [(1, 3), (54, 5), (55, 0), (56, 0), (57, 0), (58, 0)], none)
theorem k137 : chk p137 tbF 3000 c137 = true := by decide +kernel
theorem t137 {J : Jt} {X : Tok} {et : Nat → Option va_E} (hX : tOk X) (hH : HandT J X et) (hJ : JS DJ J) : ctrT ivG J X et c137 := ctr_ok (tb := tbF) (P := p137) (c := c137) (f := 3000) tbF_ok hX hJ (by decide) rfl rfl k137 (ct1 (t3 hX hH hJ) (ct1 (t4 hX hH hJ) (ct1 (t129 hX hH hJ) (ct1 (t136 hX hH hJ) ct0))))
/-- readOne5 -/
noncomputable def c138 : Ctr := (25, [aR 54, aR 1, aI 5 5], some [aI (-1) 120], [(1, 3), (54, 5), (55, 0), (56, 0), (57, 0), (58, 0)], 11)
noncomputable def p138 : Pg := ([], [], [c3, c4, c6, c129, c130, c131, c137], ivG, [(1, 3), (54, 5), (55, 0), (56, 0), (57, 0), (58, 0)], none)
theorem k138 : chk p138 tbF 3000 c138 = true := by decide +kernel
theorem t138 {J : Jt} {X : Tok} {et : Nat → Option va_E} (hX : tOk X) (hH : HandT J X et) (hJ : JS DJ J) : ctrT ivG J X et c138 := ctr_ok (tb := tbF) (P := p138) (c := c138) (f := 3000) tbF_ok hX hJ (by decide) rfl rfl k138 (ct1 (t3 hX hH hJ) (ct1 (t4 hX hH hJ) (ct1 (t6 hX hH hJ) (ct1 (t129 hX hH hJ) (ct1 (t130 hX hH hJ) (ct1 (t131 hX hH hJ) (ct1 (t137 hX hH hJ) ct0)))))))
/-- readJoined5_5 -/
noncomputable def c139 : Ctr := (23, [aR 54, aR 1, aI 5 5, aI 5 5], some [aI (-1) 120], [(1, 3), (54, 5), (55, 0), (56, 0), (57, 0), (58, 0)], 12)
noncomputable def p139 : Pg := ([], [], [c138], ivG, [(1, 3), (54, 5), (55, 0), (56, 0), (57, 0), (58, 0)], none)
theorem k139 : chk p139 tbF 3000 c139 = true := by decide +kernel
theorem t139 {J : Jt} {X : Tok} {et : Nat → Option va_E} (hX : tOk X) (hH : HandT J X et) (hJ : JS DJ J) : ctrT ivG J X et c139 := ctr_ok (tb := tbF) (P := p139) (c := c139) (f := 3000) tbF_ok hX hJ (by decide) rfl rfl k139 (ct1 (t138 hX hH hJ) ct0)
/-- readJoined4_5 -/
noncomputable def c140 : Ctr := (23, [aR 54, aR 1, aI 4 4, aI 5 5], some [aI (-1) 120], [(1, 3), (54, 5), (55, 0), (56, 0), (57, 0), (58, 0)], 13)
noncomputable def p140 : Pg := ([(23, 39, [some none, some none, some none, some none, some (some ((-1), 120)), some none, some (some (0, 120)), none, none], [], .inl 6, true)], [], [c3, c4, c129, c139], ivG, [(1, 3), (54, 5), (55, 0), (56, 0), (57, 0), (58, 0)], none)
theorem k140 : chk p140 tbF 3000 c140 = true := by decide +kernel
theorem t140 {J : Jt} {X : Tok} {et : Nat → Option va_E} (hX : tOk X) (hH : HandT J X et) (hJ : JS DJ J) : ctrT ivG J X et c140 := ctr_ok (tb := tbF) (P := p140) (c := c140) (f := 3000) tbF_ok hX hJ (by decide) rfl rfl k140 (ct1 (t3 hX hH hJ) (ct1 (t4 hX hH hJ) (ct1 (t129 hX hH hJ) (ct1 (t139 hX hH hJ) ct0))))
/-- readJoined3_5 -/
noncomputable def c141 : Ctr := (23, [aR 54, aR 1, aI 3 3, aI 5 5], some [aI (-1) 120], [(1, 3), (54, 5), (55, 0), (56, 0), (57, 0), (58, 0)], 14)
noncomputable def p141 : Pg := ([(23, 39, [some none, some none, some none, some none, some (some ((-1), 120)), some none, some (some (0, 120)), none, none], [], .inl 6, true)], [], [c3, c4, c129, c140], ivG, [(1, 3), (54, 5), (55, 0), (56, 0), (57, 0), (58, 0)], none)
theorem k141 : chk p141 tbF 3000 c141 = true := by decide +kernel
theorem t141 {J : Jt} {X : Tok} {et : Nat → Option va_E} (hX : tOk X) (hH : HandT J X et) (hJ : JS DJ J) : ctrT ivG J X et c141 := ctr_ok (tb := tbF) (P := p141) (c := c141) (f := 3000) tbF_ok hX hJ (by decide) rfl rfl k141 (ct1 (t3 hX hH hJ) (ct1 (t4 hX hH hJ) (ct1 (t129 hX hH hJ) (ct1 (t140 hX hH hJ) ct0))))
/-- readJoined2_5 -/
noncomputable def c142 : Ctr := (23, [aR 54, aR 1, aI 2 2, aI 5 5], some [aI (-1) 120], [(1, 3), (54, 5), (55, 0), (56, 0), (57, 0), (58, 0)], 15)
noncomputable def p142 : Pg := ([(23, 39, [some none, some none, some none, some none, some (some ((-1), 120)), some none, some (some (0, 1)), none, none], [], .inl 6, true)], [], [c3, c4, c129, c141], ivG, [(1, 3), (54, 5), (55, 0), (56, 0), (57, 0), (58, 0)], none)
theorem k142 : chk p142 tbF 3000 c142 = true := by decide +kernel
theorem t142 {J : Jt} {X : Tok} {et : Nat → Option va_E} (hX : tOk X) (hH : HandT J X et) (hJ : JS DJ J) : ctrT ivG J X et c142 := ctr_ok (tb := tbF) (P := p142) (c := c142) (f := 3000) tbF_ok hX hJ (by decide) rfl rfl k142 (ct1 (t3 hX hH hJ) (ct1 (t4 hX hH hJ) (ct1 (t129 hX hH hJ) (ct1 (t141 hX hH hJ) ct0))))
/-- readJoined1_5 -/
noncomputable def c143 : Ctr := (23, [aR 54, aR 1, aI 1 1, aI 5 5], some [aI (-1) 120], [(1, 3), (54, 5), (55, 0), (56, 0), (57, 0), (58, 0)], 16)
noncomputable def p143 : Pg := ([(23, 39, [some none, some none, some none, some none, some (some ((-1), 120)), some none, some (some (0, 120)), none, none], [], .inl 6, true)], [], [c3, c4, c129, c142], ivG, [(1, 3), (54, 5), (55, 0), (56, 0), (57, 0), (58, 0)], none)
theorem k143 : chk p143 tbF 3000 c143 = true := by decide +kernel
theorem t143 {J : Jt} {X : Tok} {et : Nat → Option va_E} (hX : tOk X) (hH : HandT J X et) (hJ : JS DJ J) : ctrT ivG J X et c143 := ctr_ok (tb := tbF) (P := p143) (c := c143) (f := 3000) tbF_ok hX hJ (by decide) rfl rfl k143 (ct1 (t3 hX hH hJ) (ct1 (t4 hX hH hJ) (ct1 (t129 hX hH hJ) (ct1 (t142 hX hH hJ) ct0))))
/-- readJoined0_5 -/
noncomputable def c144 : Ctr := (23, [aR 54, aR 1, aI 0 0, aI 5 5], some [aI (-1) 120], [(1, 3), (54, 5), (55, 0), (56, 0), (57, 0), (58, 0)], 17)
noncomputable def p144 : Pg := ([(23, 39, [some none, some none, some none, some none, some (some ((-1), 120)), some none, some (some (0, 120)), none, none], [], .inl 6, true)], [], [c3, c4, c129, c143], ivG, [(1, 3), (54, 5), (55, 0), (56, 0), (57, 0), (58, 0)], none)
theorem k144 : chk p144 tbF 3000 c144 = true := by decide +kernel
theorem t144 {J : Jt} {X : Tok} {et : Nat → Option va_E} (hX : tOk X) (hH : HandT J X et) (hJ : JS DJ J) : ctrT ivG J X et c144 := ctr_ok (tb := tbF) (P := p144) (c := c144) (f := 3000) tbF_ok hX hJ (by decide) rfl rfl k144 (ct1 (t3 hX hH hJ) (ct1 (t4 hX hH hJ) (ct1 (t129 hX hH hJ) (ct1 (t143 hX hH hJ) ct0))))
/-- readOne4 -/
noncomputable def c145 : Ctr := (25, [aR 54, aR 1, aI 4 4], some [aI (-1) 120], [(1, 3), (54, 5), (55, 0), (56, 0), (57, 0), (58, 0)], 19)
noncomputable def p145 : Pg := ([], [], [c3, c4, c6, c129, c130, c138, c144], ivG, [(1, 3), (54, 5), (55, 0), (56, 0), (57, 0), (58, 0)], none)
theorem k145 : chk p145 tbF 3000 c145 = true := by decide +kernel
theorem t145 {J : Jt} {X : Tok} {et : Nat → Option va_E} (hX : tOk X) (hH : HandT J X et) (hJ : JS DJ J) : ctrT ivG J X et c145 := ctr_ok (tb := tbF) (P := p145) (c := c145) (f := 3000) tbF_ok hX hJ (by decide) rfl rfl k145 (ct1 (t3 hX hH hJ) (ct1 (t4 hX hH hJ) (ct1 (t6 hX hH hJ) (ct1 (t129 hX hH hJ) (ct1 (t130 hX hH hJ) (ct1 (t138 hX hH hJ) (ct1 (t144 hX hH hJ) ct0)))))))
/-- readJoined5_4 -/
noncomputable def c146 : Ctr := (23, [aR 54, aR 1, aI 5 5, aI 4 4], some [aI (-1) 120], [(1, 3), (54, 5), (55, 0), (56, 0), (57, 0), (58, 0)], 20)
noncomputable def p146 : Pg := ([], [], [c145], ivG, [(1, 3), (54, 5), (55, 0), (56, 0), (57, 0), (58, 0)], none)
theorem k146 : chk p146 tbF 3000 c146 = true := by decide +kernel
theorem t146 {J : Jt} {X : Tok} {et : Nat → Option va_E} (hX : tOk X) (hH : HandT J X et) (hJ : JS DJ J) : ctrT ivG J X et c146 := ctr_ok (tb := tbF) (P := p146) (c := c146) (f := 3000) tbF_ok hX hJ (by decide) rfl rfl k146 (ct1 (t145 hX hH hJ) ct0)
/-- readJoined4_4 -/
noncomputable def c147 : Ctr := (23, [aR 54, aR 1, aI 4 4, aI 4 4], some [aI (-1) 120], [(1, 3), (54, 5), (55, 0), (56, 0), (57, 0), (58, 0)], 21)
noncomputable def p147 : Pg := ([(23, 39, [some none, some none, some none, some none, some (some ((-1), 120)), some none, some (some (0, 120)), none, none], [], .inl 6, true)], [], [c3, c4, c129, c146], ivG, [(1, 3), (54, 5), (55, 0), (56, 0), (57, 0), (58, 0)], none)
theorem k147 : chk p147 tbF 3000 c147 = true := by decide +kernel
theorem t147 {J : Jt} {X : Tok} {et : Nat → Option va_E} (hX : tOk X) (hH : HandT J X et) (hJ : JS DJ J) : ctrT ivG J X et c147 := ctr_ok (tb := tbF) (P := p147) (c := c147) (f := 3000) tbF_ok hX hJ (by decide) rfl rfl k147 (ct1 (t3 hX hH hJ) (ct1 (t4 hX hH hJ) (ct1 (t129 hX hH hJ) (ct1 (t146 hX hH hJ) ct0))))
/-- readJoined3_4 -/
noncomputable def c148 : Ctr := (23, [aR 54, aR 1, aI 3 3, aI 4 4], some [aI (-1) 120], [(1, 3), (54, 5), (55, 0), (56, 0), (57, 0), (58, 0)], 22)
noncomputable def p148 : Pg := ([(23, 39, [some none, some none, some none, some none, some (some ((-1), 120)), some none, some (some (0, 120)), none, none], [], .inl 6, true)], [], [c3, c4, c129, c147], ivG, [(1, 3), (54, 5), (55, 0), (56, 0), (57, 0), (58, 0)], none)
theorem k148 : chk p148 tbF 3000 c148 = true := by decide +kernel
theorem t148 {J : Jt} {X : Tok} {et : Nat → Option va_E} (hX : tOk X) (hH : HandT J X et) (hJ : JS DJ J) : ctrT ivG J X et c148 := ctr_ok (tb := tbF) (P := p148) (c := c148) (f := 3000) tbF_ok hX hJ (by decide) rfl rfl k148 (ct1 (t3 hX hH hJ) (ct1 (t4 hX hH hJ) (ct1 (t129 hX hH hJ) (ct1 (t147 hX hH hJ) ct0))))
/-- readJoined2_4 -/
noncomputable def c149 : Ctr := (23, [aR 54, aR 1, aI 2 2, aI 4 4], some [aI (-1) 120], [(1, 3), (54, 5), (55, 0), (56, 0), (57, 0), (58, 0)], 23)
noncomputable def p149 : Pg := ([(23, 39, [some none, some none, some none, some none, some (some ((-1), 120)), some none, some (some (0, 1)), none, none], [], .inl 6, true)], [], [c3, c4, c129, c148], ivG, [(1, 3), (54, 5), (55, 0), (56, 0), (57, 0), (58, 0)], none)
theorem k149 : chk p149 tbF 3000 c149 = true := by decide +kernel
theorem t149 {J : Jt} {X : Tok} {et : Nat → Option va_E} (hX : tOk X) (hH : HandT J X et) (hJ : JS DJ J) : ctrT ivG J X et c149 := ctr_ok (tb := tbF) (P := p149) (c := c149) (f := 3000) tbF_ok hX hJ (by decide) rfl rfl k149 (ct1 (t3 hX hH hJ) (ct1 (t4 hX hH hJ) (ct1 (t129 hX hH hJ) (ct1 (t148 hX hH hJ) ct0))))
/-- readJoined1_4 -/
noncomputable def c150 : Ctr := (23, [aR 54, aR 1, aI 1 1, aI 4 4], some [aI (-1) 120], [(1, 3), (54, 5), (55, 0), (56, 0), (57, 0), (58, 0)], 24)
noncomputable def p150 : Pg := ([(23, 39, [some none, some none, some none, some none, some (some ((-1), 120)), some none, some (some (0, 120)), none, none], [], .inl 6, true)], [], [c3, c4, c129, c149], ivG, [(1, 3), (54, 5), (55, 0), (56, 0), (57, 0), (58, 0)], none)
theorem k150 : chk p150 tbF 3000 c150 = true := by decide +kernel
theorem t150 {J : Jt} {X : Tok} {et : Nat → Option va_E} (hX : tOk X) (hH : HandT J X et) (hJ : JS DJ J) : ctrT ivG J X et c150 := ctr_ok (tb := tbF) (P := p150) (c := c150) (f := 3000) tbF_ok hX hJ (by decide) rfl rfl k150 (ct1 (t3 hX hH hJ) (ct1 (t4 hX hH hJ) (ct1 (t129 hX hH hJ) (ct1 (t149 hX hH hJ) ct0))))
/-- readJoined0_4 -/
noncomputable def c151 : Ctr := (23, [aR 54, aR 1, aI 0 0, aI 4 4], some [aI (-1) 120], [(1, 3), (54, 5), (55, 0), (56, 0), (57, 0), (58, 0)], 25)
noncomputable def p151 : Pg := ([(23, 39, [some none, some none, some none, some none, some (some ((-1), 120)), some none, some (some (0, 120)), none, none], [], .inl 6, true)], [], [c3, c4, c129, c150], ivG, [(1, 3), (54, 5), (55, 0), (56, 0), (57, 0), (58, 0)], none)
theorem k151 : chk p151 tbF 3000 c151 = true := by decide +kernel
theorem t151 {J : Jt} {X : Tok} {et : Nat → Option va_E} (hX : tOk X) (hH : HandT J X et) (hJ : JS DJ J) : ctrT ivG J X et c151 := ctr_ok (tb := tbF) (P := p151) (c := c151) (f := 3000) tbF_ok hX hJ (by decide) rfl rfl k151 (ct1 (t3 hX hH hJ) (ct1 (t4 hX hH hJ) (ct1 (t129 hX hH hJ) (ct1 (t150 hX hH hJ) ct0))))
/-- readOne3 -/
noncomputable def c152 : Ctr := (25, [aR 54, aR 1, aI 3 3], some [aI (-1) 120], [(1, 3), (54, 5), (55, 0), (56, 0), (57, 0), (58, 0)], 27)
noncomputable def p152 : Pg := ([], [], [c3, c4, c6, c129, c130, c145, c151], ivG, [(1, 3), (54, 5), (55, 0), (56, 0), (57, 0), (58, 0)], none)
theorem k152 : chk p152 tbF 3000 c152 = true := by decide +kernel
theorem t152 {J : Jt} {X : Tok} {et : Nat → Option va_E} (hX : tOk X) (hH : HandT J X et) (hJ : JS DJ J) : ctrT ivG J X et c152 := ctr_ok (tb := tbF) (P := p152) (c := c152) (f := 3000) tbF_ok hX hJ (by decide) rfl rfl k152 (ct1 (t3 hX hH hJ) (ct1 (t4 hX hH hJ) (ct1 (t6 hX hH hJ) (ct1 (t129 hX hH hJ) (ct1 (t130 hX hH hJ) (ct1 (t145 hX hH hJ) (ct1 (t151 hX hH hJ) ct0)))))))
/-- readJoined5_3 -/
noncomputable def c153 : Ctr := (23, [aR 54, aR 1, aI 5 5, aI 3 3], some [aI (-1) 120], [(1, 3), (54, 5), (55, 0), (56, 0), (57, 0), (58, 0)], 28)
noncomputable def p153 : Pg := ([], [], [c152], ivG, [(1, 3), (54, 5), (55, 0), (56, 0), (57, 0), (58, 0)], none)
theorem k153 : chk p153 tbF 3000 c153 = true := by decide +kernel
theorem t153 {J : Jt} {X : Tok} {et : Nat → Option va_E} (hX : tOk X) (hH : HandT J X et) (hJ : JS DJ J) : ctrT ivG J X et c153 := ctr_ok (tb := tbF) (P := p153) (c := c153) (f := 3000) tbF_ok hX hJ (by decide) rfl rfl k153 (ct1 (t152 hX hH hJ) ct0)
/-- readJoined4_3 -/
noncomputable def c154 : Ctr := (23, [aR 54, aR 1, aI 4 4, aI 3 3], some [aI (-1) 120], [(1, 3), (54, 5), (55, 0), (56, 0), (57, 0), (58, 0)], 29)
noncomputable def p154 : Pg := ([(23, 39, [some none, some none, some none, some none, some (some ((-1), 120)), some none, some (some (0, 120)), none, none], [], .inl 6, true)], [], [c3, c4, c129, c153], ivG, [(1, 3), (54, 5), (55, 0), (56, 0), (57, 0), (58, 0)], none)
theorem k154 : chk p154 tbF 3000 c154 = true := by decide +kernel
theorem t154 {J : Jt} {X : Tok} {et : Nat → Option va_E} (hX : tOk X) (hH : HandT J X et) (hJ : JS DJ J) : ctrT ivG J X et c154 := ctr_ok (tb := tbF) (P := p154) (c := c154) (f := 3000) tbF_ok hX hJ (by decide) rfl rfl k154 (ct1 (t3 hX hH hJ) (ct1 (t4 hX hH hJ) (ct1 (t129 hX hH hJ) (ct1 (t153 hX hH hJ) ct0))))
/-- readJoined3_3 -/
noncomputable def c155 : Ctr := (23, [aR 54, aR 1, aI 3 3, aI 3 3], some [aI (-1) 120], [(1, 3), (54, 5), (55, 0), (56, 0), (57, 0), (58, 0)], 30)
noncomputable def p155 : Pg := ([(23, 39, [some none, some none, some none, some none, some (some ((-1), 120)), some none, some (some (0, 120)), none, none], [], .inl 6, true)], [], [c3, c4, c129, c154], ivG, [(1, 3), (54, 5), (55, 0), (56, 0), (57, 0), (58, 0)], none)
theorem k155 : chk p155 tbF 3000 c155 = true := by decide +kernel
theorem t155 {J : Jt} {X : Tok} {et : Nat → Option va_E} (hX : tOk X) (hH : HandT J X et) (hJ : JS DJ J) : ctrT ivG J X et c155 := ctr_ok (tb := tbF) (P := p155) (c := c155) (f := 3000) tbF_ok hX hJ (by decide) rfl rfl k155 (ct1 (t3 hX hH hJ) (ct1 (t4 hX hH hJ) (ct1 (t129 hX hH hJ) (ct1 (t154 hX hH hJ) ct0))))
/-- readJoined2_3 -/
noncomputable def c156 : Ctr := (23, [aR 54, aR 1, aI 2 2, aI 3 3], some [aI (-1) 120], [(1, 3), (54, 5), (55, 0), (56, 0), (57, 0), (58, 0)], 31)
noncomputable def p156 : Pg := ([(23, 39, [some none, some none, some none, some none, some (some ((-1), 120)), some none, some (some (0, 1)), none, none], [], .inl 6, true)], [], [c3, c4, c129, c155], ivG, [(1, 3), (54, 5), (55, 0), (56, 0), (57, 0), (58, 0)], none)
theorem k156 : chk p156 tbF 3000 c156 = true := by decide +kernel
theorem t156 {J : Jt} {X : Tok} {et : Nat → Option va_E} (hX : tOk X) (hH : HandT J X et) (hJ : JS DJ J) : ctrT ivG J X et c156 := ctr_ok (tb := tbF) (P := p156) (c := c156) (f := 3000) tbF_ok hX hJ (by decide) rfl rfl k156 (ct1 (t3 hX hH hJ) (ct1 (t4 hX hH hJ) (ct1 (t129 hX hH hJ) (ct1 (t155 hX hH hJ) ct0))))
/-- readJoined1_3 -/
noncomputable def c157 : Ctr := (23, [aR 54, aR 1, aI 1 1, aI 3 3], some [aI (-1) 120], [(1, 3), (54, 5), (55, 0), (56, 0), (57, 0), (58, 0)], 32)
noncomputable def p157 : Pg := ([(23, 39, [some none, some none, some none, some none, some (some ((-1), 120)), some none, some (some (0, 120)), none, none], [], .inl 6, true)], [], [c3, c4, c129, c156], ivG, [(1, 3), (54, 5), (55, 0), (56, 0), (57, 0), (58, 0)], none)
theorem k157 : chk p157 tbF 3000 c157 = true := by decide +kernel
theorem t157 {J : Jt} {X : Tok} {et : Nat → Option va_E} (hX : tOk X) (hH : HandT J X et) (hJ : JS DJ J) : ctrT ivG J X et c157 := ctr_ok (tb := tbF) (P := p157) (c := c157) (f := 3000) tbF_ok hX hJ (by decide) rfl rfl k157 (ct1 (t3 hX hH hJ) (ct1 (t4 hX hH hJ) (ct1 (t129 hX hH hJ) (ct1 (t156 hX hH hJ) ct0))))
/-- readJoined0_3 -/
noncomputable def c158 : Ctr := (23, [aR 54, aR 1, aI 0 0, aI 3 3], some [aI (-1) 120], [(1, 3), (54, 5), (55, 0), (56, 0), (57, 0), (58, 0)], 33)
noncomputable def p158 : Pg := ([(23, 39, [some none, some none, some none, some none, some (some ((-1), 120)), some none, some (some (0, 120)), none, none], [], .inl 6, true)], [], [c3, c4, c129, c157], ivG, [(1, 3), (54, 5), (55, 0), (56, 0), (57, 0), (58, 0)], none)
theorem k158 : chk p158 tbF 3000 c158 = true := by decide +kernel
theorem t158 {J : Jt} {X : Tok} {et : Nat → Option va_E} (hX : tOk X) (hH : HandT J X et) (hJ : JS DJ J) : ctrT ivG J X et c158 := ctr_ok (tb := tbF) (P := p158) (c := c158) (f := 3000) tbF_ok hX hJ (by decide) rfl rfl k158 (ct1 (t3 hX hH hJ) (ct1 (t4 hX hH hJ) (ct1 (t129 hX hH hJ) (ct1 (t157 hX hH hJ) ct0))))
/-- readOne2 -/
noncomputable def c159 : Ctr := (25, [aR 54, aR 1, aI 2 2], some [aI (-1) 120], [(1, 3), (54, 5), (55, 0), (56, 0), (57, 0), (58, 0)], 35)
noncomputable def p159 : Pg := ([], [], [c3, c4, c6, c129, c130, c152, c158], ivG, [(1, 3), (54, 5), (55, 0), (56, 0), (57, 0), (58, 0)], none)
theorem k159 : chk p159 tbF 3000 c159 = true := by decide +kernel
theorem t159 {J : Jt} {X : Tok} {et : Nat → Option va_E} (hX : tOk X) (hH : HandT J X et) (hJ : JS DJ J) : ctrT ivG J X et c159 := ctr_ok (tb := tbF) (P := p159) (c := c159) (f := 3000) tbF_ok hX hJ (by decide) rfl rfl k159 (ct1 (t3 hX hH hJ) (ct1 (t4 hX hH hJ) (ct1 (t6 hX hH hJ) (ct1 (t129 hX hH hJ) (ct1 (t130 hX hH hJ) (ct1 (t152 hX hH hJ) (ct1 (t158 hX hH hJ) ct0)))))))
