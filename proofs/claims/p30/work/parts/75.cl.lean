-- ===== contracts that the checker shows, act: by bodies
noncomputable def p505 : Pg := ([], [(237, 24, 1, some 105)], [], ivG, [(81, 54), (106, 0)], none)
noncomputable def a505 (lo hi : Int) : Ctr := (237, [aR 81, aI lo hi, aT, aT], some [aT], [(81, 54), (106, 0)], 8)
theorem k505_0 : chk p505 tbF 3000 (a505 iLo (-1)) = true := by decide +kernel
theorem t505_0 {J : Jt} {X : Tok} {et : Nat → Option va_E} (hX : tOk X) (hJ : JS DJ J) : ctrT ivG J X et (a505 iLo (-1)) := ctr_ok tbF_ok hX hJ (by decide) rfl rfl k505_0 ct0
theorem k505_1 : chk p505 tbF 3000 (a505 0 6) = true := by decide +kernel
theorem t505_1 {J : Jt} {X : Tok} {et : Nat → Option va_E} (hX : tOk X) (hJ : JS DJ J) : ctrT ivG J X et (a505 0 6) := ctr_ok tbF_ok hX hJ (by decide) rfl rfl k505_1 ct0
theorem k505_2 : chk p505 tbF 3000 (a505 7 13) = true := by decide +kernel
theorem t505_2 {J : Jt} {X : Tok} {et : Nat → Option va_E} (hX : tOk X) (hJ : JS DJ J) : ctrT ivG J X et (a505 7 13) := ctr_ok tbF_ok hX hJ (by decide) rfl rfl k505_2 ct0
theorem k505_3 : chk p505 tbF 3000 (a505 14 20) = true := by decide +kernel
theorem t505_3 {J : Jt} {X : Tok} {et : Nat → Option va_E} (hX : tOk X) (hJ : JS DJ J) : ctrT ivG J X et (a505 14 20) := ctr_ok tbF_ok hX hJ (by decide) rfl rfl k505_3 ct0
theorem k505_4 : chk p505 tbF 3000 (a505 21 27) = true := by decide +kernel
theorem t505_4 {J : Jt} {X : Tok} {et : Nat → Option va_E} (hX : tOk X) (hJ : JS DJ J) : ctrT ivG J X et (a505 21 27) := ctr_ok tbF_ok hX hJ (by decide) rfl rfl k505_4 ct0
theorem k505_5 : chk p505 tbF 3000 (a505 28 34) = true := by decide +kernel
theorem t505_5 {J : Jt} {X : Tok} {et : Nat → Option va_E} (hX : tOk X) (hJ : JS DJ J) : ctrT ivG J X et (a505 28 34) := ctr_ok tbF_ok hX hJ (by decide) rfl rfl k505_5 ct0
theorem k505_6 : chk p505 tbF 3000 (a505 35 41) = true := by decide +kernel
theorem t505_6 {J : Jt} {X : Tok} {et : Nat → Option va_E} (hX : tOk X) (hJ : JS DJ J) : ctrT ivG J X et (a505 35 41) := ctr_ok tbF_ok hX hJ (by decide) rfl rfl k505_6 ct0
theorem k505_7 : chk p505 tbF 3000 (a505 42 48) = true := by decide +kernel
theorem t505_7 {J : Jt} {X : Tok} {et : Nat → Option va_E} (hX : tOk X) (hJ : JS DJ J) : ctrT ivG J X et (a505 42 48) := ctr_ok tbF_ok hX hJ (by decide) rfl rfl k505_7 ct0
theorem k505_8 : chk p505 tbF 3000 (a505 49 49) = true := by decide +kernel
theorem t505_8 {J : Jt} {X : Tok} {et : Nat → Option va_E} (hX : tOk X) (hJ : JS DJ J) : ctrT ivG J X et (a505 49 49) := ctr_ok tbF_ok hX hJ (by decide) rfl rfl k505_8 ct0
theorem k505_9 : chk p505 tbF 3000 (a505 50 iHi) = true := by decide +kernel
theorem t505_9 {J : Jt} {X : Tok} {et : Nat → Option va_E} (hX : tOk X) (hJ : JS DJ J) : ctrT ivG J X et (a505 50 iHi) := ctr_ok tbF_ok hX hJ (by decide) rfl rfl k505_9 ct0
/-- MRm_act -/
noncomputable def c505 : Ctr := (237, [aR 81, aT, aT, aT], some [aT], [(81, 54), (106, 0)], 8)
theorem a505_of {J : Jt} {X : Tok} {et : Nat → Option va_E} {lo hi : Int} (h : ctrT ivG J X et (a505 lo hi)) {d : Nat} {v : Value} {x : Int32} {l : List Value} {mu : Mu} {la : La} {ro : Ro} (hd : 8 ≤ d) (hv : v = .ref 81) (h1 : lo ≤ x.toInt) (h2 : x.toInt ≤ hi) (hl : apC [aT, aT] l) (g1 : gOk ivG mu) (g2 : rOk ro) (g3 : J mu la ro) : Fin X d (mI 237) 0 (ent (mI 237) (v :: .int x :: l)) [] mu la ro et fun r mu' la' ro' => gOk ivG mu' ∧ rOk ro' ∧ J mu' la' ro' ∧ frm [(81, 54), (106, 0)] mu la ro mu' la' ro' ∧ resC (some [aT]) r :=
  h d _ mu la ro hd ⟨hv, ⟨x, rfl, h1, h2⟩, hl⟩ g1 g2 g3
theorem t505 {J : Jt} {X : Tok} {et : Nat → Option va_E} (hX : tOk X) (hJ : JS DJ J) : ctrT ivG J X et c505 := by
  intro d av mu la ro hd ha g1 g2 g3
  match av, ha with
  | v :: w :: l, ⟨hv, ⟨x, hx, x1, x2⟩, hl⟩ =>
    subst hx
    by_cases q0 : x.toInt ≤ (-1)
    · exact a505_of (t505_0 hX hJ) hd hv x1 q0 hl g1 g2 g3
    by_cases q1 : x.toInt ≤ 6
    · exact a505_of (t505_1 hX hJ) hd hv (by omega) q1 hl g1 g2 g3
    by_cases q2 : x.toInt ≤ 13
    · exact a505_of (t505_2 hX hJ) hd hv (by omega) q2 hl g1 g2 g3
    by_cases q3 : x.toInt ≤ 20
    · exact a505_of (t505_3 hX hJ) hd hv (by omega) q3 hl g1 g2 g3
    by_cases q4 : x.toInt ≤ 27
    · exact a505_of (t505_4 hX hJ) hd hv (by omega) q4 hl g1 g2 g3
    by_cases q5 : x.toInt ≤ 34
    · exact a505_of (t505_5 hX hJ) hd hv (by omega) q5 hl g1 g2 g3
    by_cases q6 : x.toInt ≤ 41
    · exact a505_of (t505_6 hX hJ) hd hv (by omega) q6 hl g1 g2 g3
    by_cases q7 : x.toInt ≤ 48
    · exact a505_of (t505_7 hX hJ) hd hv (by omega) q7 hl g1 g2 g3
    by_cases q8 : x.toInt ≤ 49
    · exact a505_of (t505_8 hX hJ) hd hv (by omega) q8 hl g1 g2 g3
    exact a505_of (t505_9 hX hJ) hd hv (by omega) x2 hl g1 g2 g3
