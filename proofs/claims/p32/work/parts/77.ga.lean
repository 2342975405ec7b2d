section RULES
variable {X : Tok} {d : Nat} {st L : List Value} {h : Hp} {mu : Nat → Nat → Int32} {la : Nat → Nat → Int64} {ro : Nat → Nat → Option Nat} {et : Nat → Option va_E}
theorem d_MBo_traced_0 : decode MBo_traced.2.2.1 0 = .ok (.iload_n 1, 1) := lkT_ok tk_MBo_traced rfl
theorem d_MBo_traced_1 : decode MBo_traced.2.2.1 1 = .ok (.ifCond .lt 26, 3) := lkT_ok tk_MBo_traced rfl
theorem d_MBo_traced_4 : decode MBo_traced.2.2.1 4 = .ok (.iload_n 1, 1) := lkT_ok tk_MBo_traced rfl
theorem d_MBo_traced_5 : decode MBo_traced.2.2.1 5 = .ok (.aload_n 0, 1) := lkT_ok tk_MBo_traced rfl
theorem d_MBo_traced_6 : decode MBo_traced.2.2.1 6 = .ok (.getfield 32, 3) := lkT_ok tk_MBo_traced rfl
theorem d_MBo_traced_9 : decode MBo_traced.2.2.1 9 = .ok (.if_icmp .ge 18, 3) := lkT_ok tk_MBo_traced rfl
theorem d_MBo_traced_12 : decode MBo_traced.2.2.1 12 = .ok (.iload_n 1, 1) := lkT_ok tk_MBo_traced rfl
theorem d_MBo_traced_13 : decode MBo_traced.2.2.1 13 = .ok (.bipush 24, 2) := lkT_ok tk_MBo_traced rfl
theorem d_MBo_traced_15 : decode MBo_traced.2.2.1 15 = .ok (.if_icmp .ge 12, 3) := lkT_ok tk_MBo_traced rfl
theorem d_MBo_traced_18 : decode MBo_traced.2.2.1 18 = .ok (.aload_n 0, 1) := lkT_ok tk_MBo_traced rfl
theorem d_MBo_traced_19 : decode MBo_traced.2.2.1 19 = .ok (.getfield 15, 3) := lkT_ok tk_MBo_traced rfl
theorem d_MBo_traced_22 : decode MBo_traced.2.2.1 22 = .ok (.iload_n 1, 1) := lkT_ok tk_MBo_traced rfl
theorem d_MBo_traced_23 : decode MBo_traced.2.2.1 23 = .ok (.iaload, 1) := lkT_ok tk_MBo_traced rfl
theorem d_MBo_traced_24 : decode MBo_traced.2.2.1 24 = .ok (.goto 4, 3) := lkT_ok tk_MBo_traced rfl
theorem d_MBo_traced_27 : decode MBo_traced.2.2.1 27 = .ok (.iconst (-1), 1) := lkT_ok tk_MBo_traced rfl
theorem d_MBo_traced_28 : decode MBo_traced.2.2.1 28 = .ok (.ireturn, 1) := lkT_ok tk_MBo_traced rfl
theorem r_MBo_traced_0 {l0 : Value} {x : Int32} : Rr X d MBo_traced 0 [l0, .int x] st h = Rr X d MBo_traced 1 [l0, .int x] (.int x :: st) h := Rr_nx d_MBo_traced_0 rfl
theorem r_MBo_traced_1 {x : Int32} : Rr X d MBo_traced 1 L (.int x :: st) h = if x < 0 then Rr X d MBo_traced 27 L st h else Rr X d MBo_traced 4 L st h := R_if_lt d_MBo_traced_1 (by decide)
theorem r_MBo_traced_4 {l0 : Value} {x : Int32} : Rr X d MBo_traced 4 [l0, .int x] st h = Rr X d MBo_traced 5 [l0, .int x] (.int x :: st) h := Rr_nx d_MBo_traced_4 rfl
theorem r_MBo_traced_5 {l1 : Value} {x : Nat} : Rr X d MBo_traced 5 [.ref x, l1] st h = Rr X d MBo_traced 6 [.ref x, l1] (.ref x :: st) h := Rr_nx d_MBo_traced_5 rfl
theorem r_MBo_traced_6 {a : Nat} (hq : qI a 0 3 = true) : Rr X d MBo_traced 6 L (.ref a :: st) (Wd mu la ro et) = Rr X d MBo_traced 9 L (.int (mu a 3) :: st) (Wd mu la ro et) := R_gfI d_MBo_traced_6 ff_0_32 hq
theorem r_MBo_traced_9 {x y : Int32} : Rr X d MBo_traced 9 L (.int y :: .int x :: st) h = if y ≤ x then Rr X d MBo_traced 27 L st h else Rr X d MBo_traced 12 L st h := R_ic_ge d_MBo_traced_9 (by decide)
theorem r_MBo_traced_12 {l0 : Value} {x : Int32} : Rr X d MBo_traced 12 [l0, .int x] st h = Rr X d MBo_traced 13 [l0, .int x] (.int x :: st) h := Rr_nx d_MBo_traced_12 rfl
theorem r_MBo_traced_13 : Rr X d MBo_traced 13 L st h = Rr X d MBo_traced 15 L (.int (24) :: st) h := Rr_nx d_MBo_traced_13 rfl
theorem r_MBo_traced_15 {x y : Int32} : Rr X d MBo_traced 15 L (.int y :: .int x :: st) h = if y ≤ x then Rr X d MBo_traced 27 L st h else Rr X d MBo_traced 18 L st h := R_ic_ge d_MBo_traced_15 (by decide)
theorem r_MBo_traced_18 {l1 : Value} {x : Nat} : Rr X d MBo_traced 18 [.ref x, l1] st h = Rr X d MBo_traced 19 [.ref x, l1] (.ref x :: st) h := Rr_nx d_MBo_traced_18 rfl
theorem r_MBo_traced_19 {a : Nat} (hq : (qR a 0 1).isSome = true) : Rr X d MBo_traced 19 L (.ref a :: st) (Wd mu la ro et) = Rr X d MBo_traced 22 L (.ref (qRd a 0 1) :: st) (Wd mu la ro et) := R_gfR d_MBo_traced_19 ff_0_15 hq
theorem r_MBo_traced_22 {l0 : Value} {x : Int32} : Rr X d MBo_traced 22 [l0, .int x] st h = Rr X d MBo_traced 23 [l0, .int x] (.int x :: st) h := Rr_nx d_MBo_traced_22 rfl
theorem r_MBo_traced_23 {a : Nat} {j : Int32} (hq : (qA a 0).isSome = true) : Rr X d MBo_traced 23 L (.int j :: .ref a :: st) (Wd mu la ro et) = if j < 0 ∨ qAd a 0 ≤ j.toNatClampNeg then none else Rr X d MBo_traced 24 L (.int (mu a j.toNatClampNeg) :: st) (Wd mu la ro et) := R_ialW d_MBo_traced_23 hq
theorem r_MBo_traced_23a {j : Int32} (hx : X 1 = some (8, fun j => abL.getD j 0)) : Rr X d MBo_traced 23 L (.int j :: .float 1 :: st) h = if j < 0 ∨ 8 ≤ j.toNatClampNeg then none else Rr X d MBo_traced 24 L (.int (abL.getD j.toNatClampNeg 0) :: st) h := R_ialX d_MBo_traced_23 hx
theorem r_MBo_traced_23o {j : Int32} (hx : X 2 = some (32, fun j => owL.getD j 0)) : Rr X d MBo_traced 23 L (.int j :: .float 2 :: st) h = if j < 0 ∨ 32 ≤ j.toNatClampNeg then none else Rr X d MBo_traced 24 L (.int (owL.getD j.toNatClampNeg 0) :: st) h := R_ialX d_MBo_traced_23 hx
theorem r_MBo_traced_24 : Rr X d MBo_traced 24 L st h = Rr X d MBo_traced 28 L st h := R_goto d_MBo_traced_24 (by decide)
theorem r_MBo_traced_27 : Rr X d MBo_traced 27 L st h = Rr X d MBo_traced 28 L (.int (-1) :: st) h := Rr_nx d_MBo_traced_27 rfl
theorem r_MBo_traced_28 {x : Int32} : Rr X d MBo_traced 28 L [.int x] h = some (some (.int x), h) := R_ir d_MBo_traced_28 rfl
theorem d_MTo_trace_0 : decode MTo_trace.2.2.1 0 = .ok (.aload_n 0, 1) := lkT_ok tk_MTo_trace rfl
theorem d_MTo_trace_1 : decode MTo_trace.2.2.1 1 = .ok (.getfield 65, 3) := lkT_ok tk_MTo_trace rfl
theorem d_MTo_trace_4 : decode MTo_trace.2.2.1 4 = .ok (.iload_n 1, 1) := lkT_ok tk_MTo_trace rfl
theorem d_MTo_trace_5 : decode MTo_trace.2.2.1 5 = .ok (.invokevirtual 252, 3) := lkT_ok tk_MTo_trace rfl
theorem d_MTo_trace_8 : decode MTo_trace.2.2.1 8 = .ok (.ireturn, 1) := lkT_ok tk_MTo_trace rfl
theorem r_MTo_trace_0 {l1 : Value} {x : Nat} : Rr X d MTo_trace 0 [.ref x, l1] st h = Rr X d MTo_trace 1 [.ref x, l1] (.ref x :: st) h := Rr_nx d_MTo_trace_0 rfl
theorem r_MTo_trace_1 {a : Nat} (hq : (qR a 9 8).isSome = true) : Rr X d MTo_trace 1 L (.ref a :: st) (Wd mu la ro et) = Rr X d MTo_trace 4 L (.ref (qRd a 9 8) :: st) (Wd mu la ro et) := R_gfR d_MTo_trace_1 ff_9_65 hq
theorem r_MTo_trace_4 {l0 : Value} {x : Int32} : Rr X d MTo_trace 4 [l0, .int x] st h = Rr X d MTo_trace 5 [l0, .int x] (.int x :: st) h := Rr_nx d_MTo_trace_4 rfl
theorem fc_9_252 : fC 9 252 = some (0, 0, 1, MBo_traced) := rfl
theorem r_MTo_trace_5 {y0 : Int32} {a : Nat} (hO : qO a 0 = true) (hc : ckS st = true) : Rr X (d + 1) MTo_trace 5 L (.int y0 :: .ref a :: st) (Wd mu la ro et) = (Rr X d MBo_traced 0 [.ref a, .int y0] [] (Wd mu la ro et)).bind fun q => Rr X (d + 1) MTo_trace 8 L (psh q.1 st) q.2 := R_iv (av := [.int y0]) d_MTo_trace_5 fc_9_252 hO (ckS_le hc) rfl (Nat.le_of_ble_eq_true rfl) (Nat.le_of_ble_eq_true rfl)
theorem r_MTo_trace_8 {x : Int32} : Rr X d MTo_trace 8 L [.int x] h = some (some (.int x), h) := R_ir d_MTo_trace_8 rfl
theorem d_MRm_trace_0 : decode MRm_trace.2.2.1 0 = .ok (.iload_n 1, 1) := lkT_ok tk_MRm_trace rfl
theorem d_MRm_trace_1 : decode MRm_trace.2.2.1 1 = .ok (.ifCond .lt 26, 3) := lkT_ok tk_MRm_trace rfl
theorem d_MRm_trace_4 : decode MRm_trace.2.2.1 4 = .ok (.iload_n 1, 1) := lkT_ok tk_MRm_trace rfl
theorem d_MRm_trace_5 : decode MRm_trace.2.2.1 5 = .ok (.aload_n 0, 1) := lkT_ok tk_MRm_trace rfl
theorem d_MRm_trace_6 : decode MRm_trace.2.2.1 6 = .ok (.getfield 359, 3) := lkT_ok tk_MRm_trace rfl
theorem d_MRm_trace_9 : decode MRm_trace.2.2.1 9 = .ok (.if_icmp .ge 18, 3) := lkT_ok tk_MRm_trace rfl
theorem d_MRm_trace_12 : decode MRm_trace.2.2.1 12 = .ok (.iload_n 1, 1) := lkT_ok tk_MRm_trace rfl
theorem d_MRm_trace_13 : decode MRm_trace.2.2.1 13 = .ok (.bipush 24, 2) := lkT_ok tk_MRm_trace rfl
theorem d_MRm_trace_15 : decode MRm_trace.2.2.1 15 = .ok (.if_icmp .ge 12, 3) := lkT_ok tk_MRm_trace rfl
theorem d_MRm_trace_18 : decode MRm_trace.2.2.1 18 = .ok (.aload_n 0, 1) := lkT_ok tk_MRm_trace rfl
theorem d_MRm_trace_19 : decode MRm_trace.2.2.1 19 = .ok (.getfield 89, 3) := lkT_ok tk_MRm_trace rfl
theorem d_MRm_trace_22 : decode MRm_trace.2.2.1 22 = .ok (.iload_n 1, 1) := lkT_ok tk_MRm_trace rfl
theorem d_MRm_trace_23 : decode MRm_trace.2.2.1 23 = .ok (.iaload, 1) := lkT_ok tk_MRm_trace rfl
theorem d_MRm_trace_24 : decode MRm_trace.2.2.1 24 = .ok (.goto 4, 3) := lkT_ok tk_MRm_trace rfl
theorem d_MRm_trace_27 : decode MRm_trace.2.2.1 27 = .ok (.iconst (-1), 1) := lkT_ok tk_MRm_trace rfl
theorem d_MRm_trace_28 : decode MRm_trace.2.2.1 28 = .ok (.ireturn, 1) := lkT_ok tk_MRm_trace rfl
theorem r_MRm_trace_0 {l0 : Value} {x : Int32} : Rr X d MRm_trace 0 [l0, .int x] st h = Rr X d MRm_trace 1 [l0, .int x] (.int x :: st) h := Rr_nx d_MRm_trace_0 rfl
theorem r_MRm_trace_1 {x : Int32} : Rr X d MRm_trace 1 L (.int x :: st) h = if x < 0 then Rr X d MRm_trace 27 L st h else Rr X d MRm_trace 4 L st h := R_if_lt d_MRm_trace_1 (by decide)
theorem r_MRm_trace_4 {l0 : Value} {x : Int32} : Rr X d MRm_trace 4 [l0, .int x] st h = Rr X d MRm_trace 5 [l0, .int x] (.int x :: st) h := Rr_nx d_MRm_trace_4 rfl
theorem r_MRm_trace_5 {l1 : Value} {x : Nat} : Rr X d MRm_trace 5 [.ref x, l1] st h = Rr X d MRm_trace 6 [.ref x, l1] (.ref x :: st) h := Rr_nx d_MRm_trace_5 rfl
theorem r_MRm_trace_6 {a : Nat} (hq : qI a 10 53 = true) : Rr X d MRm_trace 6 L (.ref a :: st) (Wd mu la ro et) = Rr X d MRm_trace 9 L (.int (mu a 53) :: st) (Wd mu la ro et) := R_gfI d_MRm_trace_6 ff_10_359 hq
theorem r_MRm_trace_9 {x y : Int32} : Rr X d MRm_trace 9 L (.int y :: .int x :: st) h = if y ≤ x then Rr X d MRm_trace 27 L st h else Rr X d MRm_trace 12 L st h := R_ic_ge d_MRm_trace_9 (by decide)
theorem r_MRm_trace_12 {l0 : Value} {x : Int32} : Rr X d MRm_trace 12 [l0, .int x] st h = Rr X d MRm_trace 13 [l0, .int x] (.int x :: st) h := Rr_nx d_MRm_trace_12 rfl
theorem r_MRm_trace_13 : Rr X d MRm_trace 13 L st h = Rr X d MRm_trace 15 L (.int (24) :: st) h := Rr_nx d_MRm_trace_13 rfl
theorem r_MRm_trace_15 {x y : Int32} : Rr X d MRm_trace 15 L (.int y :: .int x :: st) h = if y ≤ x then Rr X d MRm_trace 27 L st h else Rr X d MRm_trace 18 L st h := R_ic_ge d_MRm_trace_15 (by decide)
theorem r_MRm_trace_18 {l1 : Value} {x : Nat} : Rr X d MRm_trace 18 [.ref x, l1] st h = Rr X d MRm_trace 19 [.ref x, l1] (.ref x :: st) h := Rr_nx d_MRm_trace_18 rfl
theorem r_MRm_trace_19 {a : Nat} (hq : (qR a 10 54).isSome = true) : Rr X d MRm_trace 19 L (.ref a :: st) (Wd mu la ro et) = Rr X d MRm_trace 22 L (.ref (qRd a 10 54) :: st) (Wd mu la ro et) := R_gfR d_MRm_trace_19 ff_10_89 hq
theorem r_MRm_trace_22 {l0 : Value} {x : Int32} : Rr X d MRm_trace 22 [l0, .int x] st h = Rr X d MRm_trace 23 [l0, .int x] (.int x :: st) h := Rr_nx d_MRm_trace_22 rfl
theorem r_MRm_trace_23 {a : Nat} {j : Int32} (hq : (qA a 0).isSome = true) : Rr X d MRm_trace 23 L (.int j :: .ref a :: st) (Wd mu la ro et) = if j < 0 ∨ qAd a 0 ≤ j.toNatClampNeg then none else Rr X d MRm_trace 24 L (.int (mu a j.toNatClampNeg) :: st) (Wd mu la ro et) := R_ialW d_MRm_trace_23 hq
theorem r_MRm_trace_24 : Rr X d MRm_trace 24 L st h = Rr X d MRm_trace 28 L st h := R_goto d_MRm_trace_24 (by decide)
theorem r_MRm_trace_27 : Rr X d MRm_trace 27 L st h = Rr X d MRm_trace 28 L (.int (-1) :: st) h := Rr_nx d_MRm_trace_27 rfl
theorem r_MRm_trace_28 {x : Int32} : Rr X d MRm_trace 28 L [.int x] h = some (some (.int x), h) := R_ir d_MRm_trace_28 rfl
end RULES
