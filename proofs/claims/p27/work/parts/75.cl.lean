-- ===== contracts that the checker shows, act
/-- MRm_act -/
noncomputable def c505 : Ctr := (237, [aR 81, aT, aT, aT], some [aT], [(81, 54), (106, 0)], 8)
noncomputable def p505 : Pg := ([], [(237, 24, 1, some 105)], [], ivG, [(81, 54), (106, 0)], none)
theorem k505 : chk p505 tbF 3000 c505 = true := by decide +kernel
theorem t505 {J : Jt} {X : Tok} {et : Nat → Option va_E} (hX : tOk X) (hH : HandT J X et) (hJ : JS DJ J) : ctrT ivG J X et c505 := ctr_ok tbF_ok hX hJ (by decide) rfl rfl k505 ct0
