section RULES
variable {X : Tok} {d : Nat} {st L : List Value} {h : Hp} {mu : Nat → Nat → Int32} {la : Nat → Nat → Int64} {ro : Nat → Nat → Option Nat} {et : Nat → Option va_E}
theorem d_MTo_isWithin_0 : decode MTo_isWithin.2.2.1 0 = .ok (.iload_n 0, 1) := lkT_ok tk_MTo_isWithin rfl
theorem d_MTo_isWithin_1 : decode MTo_isWithin.2.2.1 1 = .ok (.iload_n 1, 1) := lkT_ok tk_MTo_isWithin rfl
theorem d_MTo_isWithin_2 : decode MTo_isWithin.2.2.1 2 = .ok (.if_icmp .lt 12, 3) := lkT_ok tk_MTo_isWithin rfl
theorem d_MTo_isWithin_5 : decode MTo_isWithin.2.2.1 5 = .ok (.iload_n 0, 1) := lkT_ok tk_MTo_isWithin rfl
theorem d_MTo_isWithin_6 : decode MTo_isWithin.2.2.1 6 = .ok (.iload_n 2, 1) := lkT_ok tk_MTo_isWithin rfl
theorem d_MTo_isWithin_7 : decode MTo_isWithin.2.2.1 7 = .ok (.if_icmp .gt 7, 3) := lkT_ok tk_MTo_isWithin rfl
theorem d_MTo_isWithin_10 : decode MTo_isWithin.2.2.1 10 = .ok (.iconst 1, 1) := lkT_ok tk_MTo_isWithin rfl
theorem d_MTo_isWithin_11 : decode MTo_isWithin.2.2.1 11 = .ok (.goto 4, 3) := lkT_ok tk_MTo_isWithin rfl
theorem d_MTo_isWithin_14 : decode MTo_isWithin.2.2.1 14 = .ok (.iconst 0, 1) := lkT_ok tk_MTo_isWithin rfl
theorem d_MTo_isWithin_15 : decode MTo_isWithin.2.2.1 15 = .ok (.ireturn, 1) := lkT_ok tk_MTo_isWithin rfl
theorem r_MTo_isWithin_0 {l1 l2 : Value} {x : Int32} : Rr X d MTo_isWithin 0 [.int x, l1, l2] st h = Rr X d MTo_isWithin 1 [.int x, l1, l2] (.int x :: st) h := Rr_nx d_MTo_isWithin_0 rfl
theorem r_MTo_isWithin_1 {l0 l2 : Value} {x : Int32} : Rr X d MTo_isWithin 1 [l0, .int x, l2] st h = Rr X d MTo_isWithin 2 [l0, .int x, l2] (.int x :: st) h := Rr_nx d_MTo_isWithin_1 rfl
theorem r_MTo_isWithin_2 {x y : Int32} : Rr X d MTo_isWithin 2 L (.int y :: .int x :: st) h = if x < y then Rr X d MTo_isWithin 14 L st h else Rr X d MTo_isWithin 5 L st h := R_ic_lt d_MTo_isWithin_2 (by decide)
theorem r_MTo_isWithin_5 {l1 l2 : Value} {x : Int32} : Rr X d MTo_isWithin 5 [.int x, l1, l2] st h = Rr X d MTo_isWithin 6 [.int x, l1, l2] (.int x :: st) h := Rr_nx d_MTo_isWithin_5 rfl
theorem r_MTo_isWithin_6 {l0 l1 : Value} {x : Int32} : Rr X d MTo_isWithin 6 [l0, l1, .int x] st h = Rr X d MTo_isWithin 7 [l0, l1, .int x] (.int x :: st) h := Rr_nx d_MTo_isWithin_6 rfl
theorem r_MTo_isWithin_7 {x y : Int32} : Rr X d MTo_isWithin 7 L (.int y :: .int x :: st) h = if y < x then Rr X d MTo_isWithin 14 L st h else Rr X d MTo_isWithin 10 L st h := R_ic_gt d_MTo_isWithin_7 (by decide)
theorem r_MTo_isWithin_10 : Rr X d MTo_isWithin 10 L st h = Rr X d MTo_isWithin 11 L (.int (1) :: st) h := Rr_nx d_MTo_isWithin_10 rfl
theorem r_MTo_isWithin_11 : Rr X d MTo_isWithin 11 L st h = Rr X d MTo_isWithin 15 L st h := R_goto d_MTo_isWithin_11 (by decide)
theorem r_MTo_isWithin_14 : Rr X d MTo_isWithin 14 L st h = Rr X d MTo_isWithin 15 L (.int (0) :: st) h := Rr_nx d_MTo_isWithin_14 rfl
theorem r_MTo_isWithin_15 {x : Int32} : Rr X d MTo_isWithin 15 L [.int x] h = if x = 0 ∨ x = 1 then some (some (.int x), h) else none := R_zr d_MTo_isWithin_15 rfl
theorem d_MTo_chance_0 : decode MTo_chance.2.2.1 0 = .ok (.iload_n 1, 1) := lkT_ok tk_MTo_chance rfl
theorem d_MTo_chance_1 : decode MTo_chance.2.2.1 1 = .ok (.iconst 1, 1) := lkT_ok tk_MTo_chance rfl
theorem d_MTo_chance_2 : decode MTo_chance.2.2.1 2 = .ok (.bipush 40, 2) := lkT_ok tk_MTo_chance rfl
theorem d_MTo_chance_4 : decode MTo_chance.2.2.1 4 = .ok (.invokestatic 72, 3) := lkT_ok tk_MTo_chance rfl
theorem d_MTo_chance_7 : decode MTo_chance.2.2.1 7 = .ok (.ifCond .eq 12, 3) := lkT_ok tk_MTo_chance rfl
theorem d_MTo_chance_10 : decode MTo_chance.2.2.1 10 = .ok (.iload_n 2, 1) := lkT_ok tk_MTo_chance rfl
theorem d_MTo_chance_11 : decode MTo_chance.2.2.1 11 = .ok (.iconst 0, 1) := lkT_ok tk_MTo_chance rfl
theorem d_MTo_chance_12 : decode MTo_chance.2.2.1 12 = .ok (.iload_n 1, 1) := lkT_ok tk_MTo_chance rfl
theorem d_MTo_chance_13 : decode MTo_chance.2.2.1 13 = .ok (.invokestatic 72, 3) := lkT_ok tk_MTo_chance rfl
theorem d_MTo_chance_16 : decode MTo_chance.2.2.1 16 = .ok (.ifCond .ne 5, 3) := lkT_ok tk_MTo_chance rfl
theorem d_MTo_chance_19 : decode MTo_chance.2.2.1 19 = .ok (.iconst (-1), 1) := lkT_ok tk_MTo_chance rfl
theorem d_MTo_chance_20 : decode MTo_chance.2.2.1 20 = .ok (.ireturn, 1) := lkT_ok tk_MTo_chance rfl
theorem d_MTo_chance_21 : decode MTo_chance.2.2.1 21 = .ok (.iload_n 2, 1) := lkT_ok tk_MTo_chance rfl
theorem d_MTo_chance_22 : decode MTo_chance.2.2.1 22 = .ok (.iload_n 1, 1) := lkT_ok tk_MTo_chance rfl
theorem d_MTo_chance_23 : decode MTo_chance.2.2.1 23 = .ok (.iload_n 2, 1) := lkT_ok tk_MTo_chance rfl
theorem d_MTo_chance_24 : decode MTo_chance.2.2.1 24 = .ok (.isub, 1) := lkT_ok tk_MTo_chance rfl
theorem d_MTo_chance_25 : decode MTo_chance.2.2.1 25 = .ok (.invokestatic 230, 3) := lkT_ok tk_MTo_chance rfl
theorem d_MTo_chance_28 : decode MTo_chance.2.2.1 28 = .ok (.istore_n 3, 1) := lkT_ok tk_MTo_chance rfl
theorem d_MTo_chance_29 : decode MTo_chance.2.2.1 29 = .ok (.lconst 0, 1) := lkT_ok tk_MTo_chance rfl
theorem d_MTo_chance_30 : decode MTo_chance.2.2.1 30 = .ok (.lstore 4, 2) := lkT_ok tk_MTo_chance rfl
theorem d_MTo_chance_32 : decode MTo_chance.2.2.1 32 = .ok (.lconst 1, 1) := lkT_ok tk_MTo_chance rfl
theorem d_MTo_chance_33 : decode MTo_chance.2.2.1 33 = .ok (.lstore 6, 2) := lkT_ok tk_MTo_chance rfl
theorem d_MTo_chance_35 : decode MTo_chance.2.2.1 35 = .ok (.iconst 0, 1) := lkT_ok tk_MTo_chance rfl
theorem d_MTo_chance_36 : decode MTo_chance.2.2.1 36 = .ok (.istore 8, 2) := lkT_ok tk_MTo_chance rfl
theorem d_MTo_chance_38 : decode MTo_chance.2.2.1 38 = .ok (.iload 8, 2) := lkT_ok tk_MTo_chance rfl
theorem d_MTo_chance_40 : decode MTo_chance.2.2.1 40 = .ok (.iload_n 1, 1) := lkT_ok tk_MTo_chance rfl
theorem d_MTo_chance_41 : decode MTo_chance.2.2.1 41 = .ok (.if_icmp .gt 45, 3) := lkT_ok tk_MTo_chance rfl
theorem d_MTo_chance_44 : decode MTo_chance.2.2.1 44 = .ok (.iload 8, 2) := lkT_ok tk_MTo_chance rfl
theorem d_MTo_chance_46 : decode MTo_chance.2.2.1 46 = .ok (.iload_n 1, 1) := lkT_ok tk_MTo_chance rfl
theorem d_MTo_chance_47 : decode MTo_chance.2.2.1 47 = .ok (.iload 8, 2) := lkT_ok tk_MTo_chance rfl
theorem d_MTo_chance_49 : decode MTo_chance.2.2.1 49 = .ok (.isub, 1) := lkT_ok tk_MTo_chance rfl
theorem d_MTo_chance_50 : decode MTo_chance.2.2.1 50 = .ok (.invokestatic 230, 3) := lkT_ok tk_MTo_chance rfl
theorem d_MTo_chance_53 : decode MTo_chance.2.2.1 53 = .ok (.iload_n 3, 1) := lkT_ok tk_MTo_chance rfl
theorem d_MTo_chance_54 : decode MTo_chance.2.2.1 54 = .ok (.if_icmp .lt 10, 3) := lkT_ok tk_MTo_chance rfl
theorem d_MTo_chance_57 : decode MTo_chance.2.2.1 57 = .ok (.lload 4, 2) := lkT_ok tk_MTo_chance rfl
theorem d_MTo_chance_59 : decode MTo_chance.2.2.1 59 = .ok (.lload 6, 2) := lkT_ok tk_MTo_chance rfl
theorem d_MTo_chance_61 : decode MTo_chance.2.2.1 61 = .ok (.ladd, 1) := lkT_ok tk_MTo_chance rfl
theorem d_MTo_chance_62 : decode MTo_chance.2.2.1 62 = .ok (.lstore 4, 2) := lkT_ok tk_MTo_chance rfl
theorem d_MTo_chance_64 : decode MTo_chance.2.2.1 64 = .ok (.lload 6, 2) := lkT_ok tk_MTo_chance rfl
theorem d_MTo_chance_66 : decode MTo_chance.2.2.1 66 = .ok (.iload_n 1, 1) := lkT_ok tk_MTo_chance rfl
theorem d_MTo_chance_67 : decode MTo_chance.2.2.1 67 = .ok (.iload 8, 2) := lkT_ok tk_MTo_chance rfl
theorem d_MTo_chance_69 : decode MTo_chance.2.2.1 69 = .ok (.isub, 1) := lkT_ok tk_MTo_chance rfl
theorem d_MTo_chance_70 : decode MTo_chance.2.2.1 70 = .ok (.i2l, 1) := lkT_ok tk_MTo_chance rfl
theorem d_MTo_chance_71 : decode MTo_chance.2.2.1 71 = .ok (.lmul, 1) := lkT_ok tk_MTo_chance rfl
theorem d_MTo_chance_72 : decode MTo_chance.2.2.1 72 = .ok (.iload 8, 2) := lkT_ok tk_MTo_chance rfl
theorem d_MTo_chance_74 : decode MTo_chance.2.2.1 74 = .ok (.iconst 1, 1) := lkT_ok tk_MTo_chance rfl
theorem d_MTo_chance_75 : decode MTo_chance.2.2.1 75 = .ok (.iadd, 1) := lkT_ok tk_MTo_chance rfl
theorem d_MTo_chance_76 : decode MTo_chance.2.2.1 76 = .ok (.i2l, 1) := lkT_ok tk_MTo_chance rfl
theorem d_MTo_chance_77 : decode MTo_chance.2.2.1 77 = .ok (.ldiv, 1) := lkT_ok tk_MTo_chance rfl
theorem d_MTo_chance_78 : decode MTo_chance.2.2.1 78 = .ok (.lstore 6, 2) := lkT_ok tk_MTo_chance rfl
theorem d_MTo_chance_80 : decode MTo_chance.2.2.1 80 = .ok (.iinc 8 1, 3) := lkT_ok tk_MTo_chance rfl
theorem d_MTo_chance_83 : decode MTo_chance.2.2.1 83 = .ok (.goto (-45), 3) := lkT_ok tk_MTo_chance rfl
theorem d_MTo_chance_86 : decode MTo_chance.2.2.1 86 = .ok (.lload 4, 2) := lkT_ok tk_MTo_chance rfl
theorem d_MTo_chance_88 : decode MTo_chance.2.2.1 88 = .ok (.ldc2_w 235, 3) := lkT_ok tk_MTo_chance rfl
theorem d_MTo_chance_91 : decode MTo_chance.2.2.1 91 = .ok (.lmul, 1) := lkT_ok tk_MTo_chance rfl
theorem d_MTo_chance_92 : decode MTo_chance.2.2.1 92 = .ok (.lconst 1, 1) := lkT_ok tk_MTo_chance rfl
theorem d_MTo_chance_93 : decode MTo_chance.2.2.1 93 = .ok (.iload_n 1, 1) := lkT_ok tk_MTo_chance rfl
theorem d_MTo_chance_94 : decode MTo_chance.2.2.1 94 = .ok (.lshl, 1) := lkT_ok tk_MTo_chance rfl
theorem d_MTo_chance_95 : decode MTo_chance.2.2.1 95 = .ok (.ldiv, 1) := lkT_ok tk_MTo_chance rfl
theorem d_MTo_chance_96 : decode MTo_chance.2.2.1 96 = .ok (.l2i, 1) := lkT_ok tk_MTo_chance rfl
theorem d_MTo_chance_97 : decode MTo_chance.2.2.1 97 = .ok (.ireturn, 1) := lkT_ok tk_MTo_chance rfl
theorem r_MTo_chance_0 {l0 l2 l3 l4 l5 l6 l7 l8 : Value} {x : Int32} : Rr X d MTo_chance 0 [l0, .int x, l2, l3, l4, l5, l6, l7, l8] st h = Rr X d MTo_chance 1 [l0, .int x, l2, l3, l4, l5, l6, l7, l8] (.int x :: st) h := Rr_nx d_MTo_chance_0 rfl
theorem r_MTo_chance_1 : Rr X d MTo_chance 1 L st h = Rr X d MTo_chance 2 L (.int (1) :: st) h := Rr_nx d_MTo_chance_1 rfl
theorem r_MTo_chance_2 : Rr X d MTo_chance 2 L st h = Rr X d MTo_chance 4 L (.int (40) :: st) h := Rr_nx d_MTo_chance_2 rfl
theorem fc_9_72 : fC 9 72 = some (1, 0, 3, MTo_isWithin) := rfl
theorem r_MTo_chance_4 {y0 : Int32} {y1 : Int32} {y2 : Int32} (hc : ckS st = true) : Rr X (d + 1) MTo_chance 4 L (.int y2 :: .int y1 :: .int y0 :: st) h = (Rr X d MTo_isWithin 0 [.int y0, .int y1, .int y2] [] h).bind fun q => Rr X (d + 1) MTo_chance 7 L (psh q.1 st) q.2 := R_is (av := [.int y2, .int y1, .int y0]) d_MTo_chance_4 (Or.inl fc_9_72) (ckS_le hc) rfl (Nat.le_of_ble_eq_true rfl) (Nat.le_of_ble_eq_true rfl)
theorem r_MTo_chance_7 {x : Int32} : Rr X d MTo_chance 7 L (.int x :: st) h = if x = 0 then Rr X d MTo_chance 19 L st h else Rr X d MTo_chance 10 L st h := R_if_eq d_MTo_chance_7 (by decide)
theorem r_MTo_chance_10 {l0 l1 l3 l4 l5 l6 l7 l8 : Value} {x : Int32} : Rr X d MTo_chance 10 [l0, l1, .int x, l3, l4, l5, l6, l7, l8] st h = Rr X d MTo_chance 11 [l0, l1, .int x, l3, l4, l5, l6, l7, l8] (.int x :: st) h := Rr_nx d_MTo_chance_10 rfl
theorem r_MTo_chance_11 : Rr X d MTo_chance 11 L st h = Rr X d MTo_chance 12 L (.int (0) :: st) h := Rr_nx d_MTo_chance_11 rfl
theorem r_MTo_chance_12 {l0 l2 l3 l4 l5 l6 l7 l8 : Value} {x : Int32} : Rr X d MTo_chance 12 [l0, .int x, l2, l3, l4, l5, l6, l7, l8] st h = Rr X d MTo_chance 13 [l0, .int x, l2, l3, l4, l5, l6, l7, l8] (.int x :: st) h := Rr_nx d_MTo_chance_12 rfl
theorem r_MTo_chance_13 {y0 : Int32} {y1 : Int32} {y2 : Int32} (hc : ckS st = true) : Rr X (d + 1) MTo_chance 13 L (.int y2 :: .int y1 :: .int y0 :: st) h = (Rr X d MTo_isWithin 0 [.int y0, .int y1, .int y2] [] h).bind fun q => Rr X (d + 1) MTo_chance 16 L (psh q.1 st) q.2 := R_is (av := [.int y2, .int y1, .int y0]) d_MTo_chance_13 (Or.inl fc_9_72) (ckS_le hc) rfl (Nat.le_of_ble_eq_true rfl) (Nat.le_of_ble_eq_true rfl)
theorem r_MTo_chance_16 {x : Int32} : Rr X d MTo_chance 16 L (.int x :: st) h = if ¬ x = 0 then Rr X d MTo_chance 21 L st h else Rr X d MTo_chance 19 L st h := R_if_ne d_MTo_chance_16 (by decide)
theorem r_MTo_chance_19 : Rr X d MTo_chance 19 L st h = Rr X d MTo_chance 20 L (.int (-1) :: st) h := Rr_nx d_MTo_chance_19 rfl
theorem r_MTo_chance_20 {x : Int32} : Rr X d MTo_chance 20 L [.int x] h = some (some (.int x), h) := R_ir d_MTo_chance_20 rfl
theorem r_MTo_chance_21 {l0 l1 l3 l4 l5 l6 l7 l8 : Value} {x : Int32} : Rr X d MTo_chance 21 [l0, l1, .int x, l3, l4, l5, l6, l7, l8] st h = Rr X d MTo_chance 22 [l0, l1, .int x, l3, l4, l5, l6, l7, l8] (.int x :: st) h := Rr_nx d_MTo_chance_21 rfl
theorem r_MTo_chance_22 {l0 l2 l3 l4 l5 l6 l7 l8 : Value} {x : Int32} : Rr X d MTo_chance 22 [l0, .int x, l2, l3, l4, l5, l6, l7, l8] st h = Rr X d MTo_chance 23 [l0, .int x, l2, l3, l4, l5, l6, l7, l8] (.int x :: st) h := Rr_nx d_MTo_chance_22 rfl
theorem r_MTo_chance_23 {l0 l1 l3 l4 l5 l6 l7 l8 : Value} {x : Int32} : Rr X d MTo_chance 23 [l0, l1, .int x, l3, l4, l5, l6, l7, l8] st h = Rr X d MTo_chance 24 [l0, l1, .int x, l3, l4, l5, l6, l7, l8] (.int x :: st) h := Rr_nx d_MTo_chance_23 rfl
theorem r_MTo_chance_24 {x y : Int32} : Rr X d MTo_chance 24 L (.int y :: .int x :: st) h = Rr X d MTo_chance 25 L (.int (x - y) :: st) h := Rr_nx d_MTo_chance_24 rfl
theorem fc_9_230 : fC 9 230 = some (6, 0, 0, mI 0) := rfl
theorem r_MTo_chance_25 {x y : Int32} (hc : ckS st = true) : Rr X (d + 1) MTo_chance 25 L (.int y :: .int x :: st) h = Rr X (d + 1) MTo_chance 28 L (.int (if x < y then y else x) :: st) h := R_max d_MTo_chance_25 fc_9_230 (ckS_le hc)
theorem r_MTo_chance_28 {l0 l1 l2 l3 l4 l5 l6 l7 l8 : Value} {x : Int32} : Rr X d MTo_chance 28 [l0, l1, l2, l3, l4, l5, l6, l7, l8] (.int x :: st) h = Rr X d MTo_chance 29 (sL [l0, l1, l2, l3, l4, l5, l6, l7, l8] 3 (.int x)) st h := Rr_nx d_MTo_chance_28 rfl
theorem r_MTo_chance_29 : Rr X d MTo_chance 29 L st h = Rr X d MTo_chance 30 L (.long 0 :: st) h := Rr_nx d_MTo_chance_29 rfl
theorem r_MTo_chance_30 {l0 l1 l2 l3 l4 l5 l6 l7 l8 : Value} {x : Int64} : Rr X d MTo_chance 30 [l0, l1, l2, l3, l4, l5, l6, l7, l8] (.long x :: st) h = Rr X d MTo_chance 32 ((sL [l0, l1, l2, l3, l4, l5, l6, l7, l8] 4 (.long x)).set 5 mkU) st h := Rr_nx d_MTo_chance_30 rfl
theorem r_MTo_chance_32 : Rr X d MTo_chance 32 L st h = Rr X d MTo_chance 33 L (.long 1 :: st) h := Rr_nx d_MTo_chance_32 rfl
theorem r_MTo_chance_33 {l0 l1 l2 l3 l4 l5 l6 l7 l8 : Value} {x : Int64} : Rr X d MTo_chance 33 [l0, l1, l2, l3, l4, l5, l6, l7, l8] (.long x :: st) h = Rr X d MTo_chance 35 ((sL [l0, l1, l2, l3, l4, l5, l6, l7, l8] 6 (.long x)).set 7 mkU) st h := Rr_nx d_MTo_chance_33 rfl
theorem r_MTo_chance_35 : Rr X d MTo_chance 35 L st h = Rr X d MTo_chance 36 L (.int (0) :: st) h := Rr_nx d_MTo_chance_35 rfl
theorem r_MTo_chance_36 {l0 l1 l2 l3 l4 l5 l6 l7 l8 : Value} {x : Int32} : Rr X d MTo_chance 36 [l0, l1, l2, l3, l4, l5, l6, l7, l8] (.int x :: st) h = Rr X d MTo_chance 38 (sL [l0, l1, l2, l3, l4, l5, l6, l7, l8] 8 (.int x)) st h := Rr_nx d_MTo_chance_36 rfl
theorem r_MTo_chance_38 {l0 l1 l2 l3 l4 l5 l6 l7 : Value} {x : Int32} : Rr X d MTo_chance 38 [l0, l1, l2, l3, l4, l5, l6, l7, .int x] st h = Rr X d MTo_chance 40 [l0, l1, l2, l3, l4, l5, l6, l7, .int x] (.int x :: st) h := Rr_nx d_MTo_chance_38 rfl
theorem r_MTo_chance_40 {l0 l2 l3 l4 l5 l6 l7 l8 : Value} {x : Int32} : Rr X d MTo_chance 40 [l0, .int x, l2, l3, l4, l5, l6, l7, l8] st h = Rr X d MTo_chance 41 [l0, .int x, l2, l3, l4, l5, l6, l7, l8] (.int x :: st) h := Rr_nx d_MTo_chance_40 rfl
theorem r_MTo_chance_41 {x y : Int32} : Rr X d MTo_chance 41 L (.int y :: .int x :: st) h = if y < x then Rr X d MTo_chance 86 L st h else Rr X d MTo_chance 44 L st h := R_ic_gt d_MTo_chance_41 (by decide)
theorem r_MTo_chance_44 {l0 l1 l2 l3 l4 l5 l6 l7 : Value} {x : Int32} : Rr X d MTo_chance 44 [l0, l1, l2, l3, l4, l5, l6, l7, .int x] st h = Rr X d MTo_chance 46 [l0, l1, l2, l3, l4, l5, l6, l7, .int x] (.int x :: st) h := Rr_nx d_MTo_chance_44 rfl
theorem r_MTo_chance_46 {l0 l2 l3 l4 l5 l6 l7 l8 : Value} {x : Int32} : Rr X d MTo_chance 46 [l0, .int x, l2, l3, l4, l5, l6, l7, l8] st h = Rr X d MTo_chance 47 [l0, .int x, l2, l3, l4, l5, l6, l7, l8] (.int x :: st) h := Rr_nx d_MTo_chance_46 rfl
theorem r_MTo_chance_47 {l0 l1 l2 l3 l4 l5 l6 l7 : Value} {x : Int32} : Rr X d MTo_chance 47 [l0, l1, l2, l3, l4, l5, l6, l7, .int x] st h = Rr X d MTo_chance 49 [l0, l1, l2, l3, l4, l5, l6, l7, .int x] (.int x :: st) h := Rr_nx d_MTo_chance_47 rfl
theorem r_MTo_chance_49 {x y : Int32} : Rr X d MTo_chance 49 L (.int y :: .int x :: st) h = Rr X d MTo_chance 50 L (.int (x - y) :: st) h := Rr_nx d_MTo_chance_49 rfl
theorem r_MTo_chance_50 {x y : Int32} (hc : ckS st = true) : Rr X (d + 1) MTo_chance 50 L (.int y :: .int x :: st) h = Rr X (d + 1) MTo_chance 53 L (.int (if x < y then y else x) :: st) h := R_max d_MTo_chance_50 fc_9_230 (ckS_le hc)
theorem r_MTo_chance_53 {l0 l1 l2 l4 l5 l6 l7 l8 : Value} {x : Int32} : Rr X d MTo_chance 53 [l0, l1, l2, .int x, l4, l5, l6, l7, l8] st h = Rr X d MTo_chance 54 [l0, l1, l2, .int x, l4, l5, l6, l7, l8] (.int x :: st) h := Rr_nx d_MTo_chance_53 rfl
theorem r_MTo_chance_54 {x y : Int32} : Rr X d MTo_chance 54 L (.int y :: .int x :: st) h = if x < y then Rr X d MTo_chance 64 L st h else Rr X d MTo_chance 57 L st h := R_ic_lt d_MTo_chance_54 (by decide)
theorem r_MTo_chance_57 {l0 l1 l2 l3 l5 l6 l7 l8 : Value} {x : Int64} : Rr X d MTo_chance 57 [l0, l1, l2, l3, .long x, l5, l6, l7, l8] st h = Rr X d MTo_chance 59 [l0, l1, l2, l3, .long x, l5, l6, l7, l8] (.long x :: st) h := Rr_nx d_MTo_chance_57 rfl
theorem r_MTo_chance_59 {l0 l1 l2 l3 l4 l5 l7 l8 : Value} {x : Int64} : Rr X d MTo_chance 59 [l0, l1, l2, l3, l4, l5, .long x, l7, l8] st h = Rr X d MTo_chance 61 [l0, l1, l2, l3, l4, l5, .long x, l7, l8] (.long x :: st) h := Rr_nx d_MTo_chance_59 rfl
theorem r_MTo_chance_61 {x y : Int64} : Rr X d MTo_chance 61 L (.long y :: .long x :: st) h = Rr X d MTo_chance 62 L (.long (x + y) :: st) h := Rr_nx d_MTo_chance_61 rfl
theorem r_MTo_chance_62 {l0 l1 l2 l3 l4 l5 l6 l7 l8 : Value} {x : Int64} : Rr X d MTo_chance 62 [l0, l1, l2, l3, l4, l5, l6, l7, l8] (.long x :: st) h = Rr X d MTo_chance 64 ((sL [l0, l1, l2, l3, l4, l5, l6, l7, l8] 4 (.long x)).set 5 mkU) st h := Rr_nx d_MTo_chance_62 rfl
theorem r_MTo_chance_64 {l0 l1 l2 l3 l4 l5 l7 l8 : Value} {x : Int64} : Rr X d MTo_chance 64 [l0, l1, l2, l3, l4, l5, .long x, l7, l8] st h = Rr X d MTo_chance 66 [l0, l1, l2, l3, l4, l5, .long x, l7, l8] (.long x :: st) h := Rr_nx d_MTo_chance_64 rfl
theorem r_MTo_chance_66 {l0 l2 l3 l4 l5 l6 l7 l8 : Value} {x : Int32} : Rr X d MTo_chance 66 [l0, .int x, l2, l3, l4, l5, l6, l7, l8] st h = Rr X d MTo_chance 67 [l0, .int x, l2, l3, l4, l5, l6, l7, l8] (.int x :: st) h := Rr_nx d_MTo_chance_66 rfl
theorem r_MTo_chance_67 {l0 l1 l2 l3 l4 l5 l6 l7 : Value} {x : Int32} : Rr X d MTo_chance 67 [l0, l1, l2, l3, l4, l5, l6, l7, .int x] st h = Rr X d MTo_chance 69 [l0, l1, l2, l3, l4, l5, l6, l7, .int x] (.int x :: st) h := Rr_nx d_MTo_chance_67 rfl
theorem r_MTo_chance_69 {x y : Int32} : Rr X d MTo_chance 69 L (.int y :: .int x :: st) h = Rr X d MTo_chance 70 L (.int (x - y) :: st) h := Rr_nx d_MTo_chance_69 rfl
theorem r_MTo_chance_70 {x : Int32} : Rr X d MTo_chance 70 L (.int x :: st) h = Rr X d MTo_chance 71 L (.long x.toInt64 :: st) h := Rr_nx d_MTo_chance_70 rfl
theorem r_MTo_chance_71 {x y : Int64} : Rr X d MTo_chance 71 L (.long y :: .long x :: st) h = Rr X d MTo_chance 72 L (.long (x * y) :: st) h := Rr_nx d_MTo_chance_71 rfl
theorem r_MTo_chance_72 {l0 l1 l2 l3 l4 l5 l6 l7 : Value} {x : Int32} : Rr X d MTo_chance 72 [l0, l1, l2, l3, l4, l5, l6, l7, .int x] st h = Rr X d MTo_chance 74 [l0, l1, l2, l3, l4, l5, l6, l7, .int x] (.int x :: st) h := Rr_nx d_MTo_chance_72 rfl
theorem r_MTo_chance_74 : Rr X d MTo_chance 74 L st h = Rr X d MTo_chance 75 L (.int (1) :: st) h := Rr_nx d_MTo_chance_74 rfl
theorem r_MTo_chance_75 {x y : Int32} : Rr X d MTo_chance 75 L (.int y :: .int x :: st) h = Rr X d MTo_chance 76 L (.int (x + y) :: st) h := Rr_nx d_MTo_chance_75 rfl
theorem r_MTo_chance_76 {x : Int32} : Rr X d MTo_chance 76 L (.int x :: st) h = Rr X d MTo_chance 77 L (.long x.toInt64 :: st) h := Rr_nx d_MTo_chance_76 rfl
theorem r_MTo_chance_77 {x y : Int64} : Rr X d MTo_chance 77 L (.long y :: .long x :: st) h = if y = 0 then none else Rr X d MTo_chance 78 L (.long (x / y) :: st) h := R_ldv d_MTo_chance_77
theorem r_MTo_chance_78 {l0 l1 l2 l3 l4 l5 l6 l7 l8 : Value} {x : Int64} : Rr X d MTo_chance 78 [l0, l1, l2, l3, l4, l5, l6, l7, l8] (.long x :: st) h = Rr X d MTo_chance 80 ((sL [l0, l1, l2, l3, l4, l5, l6, l7, l8] 6 (.long x)).set 7 mkU) st h := Rr_nx d_MTo_chance_78 rfl
theorem r_MTo_chance_80 {l0 l1 l2 l3 l4 l5 l6 l7 : Value} {x : Int32} : Rr X d MTo_chance 80 [l0, l1, l2, l3, l4, l5, l6, l7, .int x] st h = Rr X d MTo_chance 83 (sL [l0, l1, l2, l3, l4, l5, l6, l7, .int x] 8 (.int (x + (1)))) st h := Rr_nx d_MTo_chance_80 rfl
theorem r_MTo_chance_83 : Rr X d MTo_chance 83 L st h = Rr X d MTo_chance 38 L st h := R_goto d_MTo_chance_83 (by decide)
theorem r_MTo_chance_86 {l0 l1 l2 l3 l5 l6 l7 l8 : Value} {x : Int64} : Rr X d MTo_chance 86 [l0, l1, l2, l3, .long x, l5, l6, l7, l8] st h = Rr X d MTo_chance 88 [l0, l1, l2, l3, .long x, l5, l6, l7, l8] (.long x :: st) h := Rr_nx d_MTo_chance_86 rfl
theorem r_MTo_chance_88 : Rr X d MTo_chance 88 L st h = Rr X d MTo_chance 91 L (.long (1000) :: st) h := Rr_nx d_MTo_chance_88 rfl
theorem r_MTo_chance_91 {x y : Int64} : Rr X d MTo_chance 91 L (.long y :: .long x :: st) h = Rr X d MTo_chance 92 L (.long (x * y) :: st) h := Rr_nx d_MTo_chance_91 rfl
theorem r_MTo_chance_92 : Rr X d MTo_chance 92 L st h = Rr X d MTo_chance 93 L (.long 1 :: st) h := Rr_nx d_MTo_chance_92 rfl
theorem r_MTo_chance_93 {l0 l2 l3 l4 l5 l6 l7 l8 : Value} {x : Int32} : Rr X d MTo_chance 93 [l0, .int x, l2, l3, l4, l5, l6, l7, l8] st h = Rr X d MTo_chance 94 [l0, .int x, l2, l3, l4, l5, l6, l7, l8] (.int x :: st) h := Rr_nx d_MTo_chance_93 rfl
theorem r_MTo_chance_94 {x : Int64} {y : Int32} : Rr X d MTo_chance 94 L (.int y :: .long x :: st) h = Rr X d MTo_chance 95 L (.long (x <<< (y.toInt64 &&& 63)) :: st) h := Rr_nx d_MTo_chance_94 rfl
theorem r_MTo_chance_95 {x y : Int64} : Rr X d MTo_chance 95 L (.long y :: .long x :: st) h = if y = 0 then none else Rr X d MTo_chance 96 L (.long (x / y) :: st) h := R_ldv d_MTo_chance_95
theorem r_MTo_chance_96 {x : Int64} : Rr X d MTo_chance 96 L (.long x :: st) h = Rr X d MTo_chance 97 L (.int x.toInt32 :: st) h := Rr_nx d_MTo_chance_96 rfl
theorem r_MTo_chance_97 {x : Int32} : Rr X d MTo_chance 97 L [.int x] h = some (some (.int x), h) := R_ir d_MTo_chance_97 rfl
theorem d_MTo_shift_0 : decode MTo_shift.2.2.1 0 = .ok (.aload_n 0, 1) := lkT_ok tk_MTo_shift rfl
theorem d_MTo_shift_1 : decode MTo_shift.2.2.1 1 = .ok (.iload_n 1, 1) := lkT_ok tk_MTo_shift rfl
theorem d_MTo_shift_2 : decode MTo_shift.2.2.1 2 = .ok (.invokevirtual 212, 3) := lkT_ok tk_MTo_shift rfl
theorem d_MTo_shift_5 : decode MTo_shift.2.2.1 5 = .ok (.astore 6, 2) := lkT_ok tk_MTo_shift rfl
theorem d_MTo_shift_7 : decode MTo_shift.2.2.1 7 = .ok (.aload_n 0, 1) := lkT_ok tk_MTo_shift rfl
theorem d_MTo_shift_8 : decode MTo_shift.2.2.1 8 = .ok (.iload_n 3, 1) := lkT_ok tk_MTo_shift rfl
theorem d_MTo_shift_9 : decode MTo_shift.2.2.1 9 = .ok (.invokevirtual 212, 3) := lkT_ok tk_MTo_shift rfl
theorem d_MTo_shift_12 : decode MTo_shift.2.2.1 12 = .ok (.astore 7, 2) := lkT_ok tk_MTo_shift rfl
theorem d_MTo_shift_14 : decode MTo_shift.2.2.1 14 = .ok (.aload 6, 2) := lkT_ok tk_MTo_shift rfl
theorem d_MTo_shift_16 : decode MTo_shift.2.2.1 16 = .ok (.ifnull 8, 3) := lkT_ok tk_MTo_shift rfl
theorem d_MTo_shift_19 : decode MTo_shift.2.2.1 19 = .ok (.aload 7, 2) := lkT_ok tk_MTo_shift rfl
theorem d_MTo_shift_21 : decode MTo_shift.2.2.1 21 = .ok (.ifnonnull 5, 3) := lkT_ok tk_MTo_shift rfl
theorem d_MTo_shift_24 : decode MTo_shift.2.2.1 24 = .ok (.iconst (-1), 1) := lkT_ok tk_MTo_shift rfl
theorem d_MTo_shift_25 : decode MTo_shift.2.2.1 25 = .ok (.ireturn, 1) := lkT_ok tk_MTo_shift rfl
theorem d_MTo_shift_26 : decode MTo_shift.2.2.1 26 = .ok (.aload 6, 2) := lkT_ok tk_MTo_shift rfl
theorem d_MTo_shift_28 : decode MTo_shift.2.2.1 28 = .ok (.invokevirtual 216, 3) := lkT_ok tk_MTo_shift rfl
theorem d_MTo_shift_31 : decode MTo_shift.2.2.1 31 = .ok (.ifCond .ne 11, 3) := lkT_ok tk_MTo_shift rfl
theorem d_MTo_shift_34 : decode MTo_shift.2.2.1 34 = .ok (.aload 7, 2) := lkT_ok tk_MTo_shift rfl
theorem d_MTo_shift_36 : decode MTo_shift.2.2.1 36 = .ok (.invokevirtual 216, 3) := lkT_ok tk_MTo_shift rfl
theorem d_MTo_shift_39 : decode MTo_shift.2.2.1 39 = .ok (.ifCond .eq 6, 3) := lkT_ok tk_MTo_shift rfl
theorem d_MTo_shift_42 : decode MTo_shift.2.2.1 42 = .ok (.bipush (-11), 2) := lkT_ok tk_MTo_shift rfl
theorem d_MTo_shift_44 : decode MTo_shift.2.2.1 44 = .ok (.ireturn, 1) := lkT_ok tk_MTo_shift rfl
theorem d_MTo_shift_45 : decode MTo_shift.2.2.1 45 = .ok (.aload 6, 2) := lkT_ok tk_MTo_shift rfl
theorem d_MTo_shift_47 : decode MTo_shift.2.2.1 47 = .ok (.invokevirtual 276, 3) := lkT_ok tk_MTo_shift rfl
theorem d_MTo_shift_50 : decode MTo_shift.2.2.1 50 = .ok (.ifCond .eq 16, 3) := lkT_ok tk_MTo_shift rfl
theorem d_MTo_shift_53 : decode MTo_shift.2.2.1 53 = .ok (.aload 7, 2) := lkT_ok tk_MTo_shift rfl
theorem d_MTo_shift_55 : decode MTo_shift.2.2.1 55 = .ok (.aload 6, 2) := lkT_ok tk_MTo_shift rfl
theorem d_MTo_shift_57 : decode MTo_shift.2.2.1 57 = .ok (.getfield 279, 3) := lkT_ok tk_MTo_shift rfl
theorem d_MTo_shift_60 : decode MTo_shift.2.2.1 60 = .ok (.invokevirtual 219, 3) := lkT_ok tk_MTo_shift rfl
theorem d_MTo_shift_63 : decode MTo_shift.2.2.1 63 = .ok (.ifCond .ne 6, 3) := lkT_ok tk_MTo_shift rfl
theorem d_MTo_shift_66 : decode MTo_shift.2.2.1 66 = .ok (.bipush (-12), 2) := lkT_ok tk_MTo_shift rfl
theorem d_MTo_shift_68 : decode MTo_shift.2.2.1 68 = .ok (.ireturn, 1) := lkT_ok tk_MTo_shift rfl
theorem d_MTo_shift_69 : decode MTo_shift.2.2.1 69 = .ok (.aload 6, 2) := lkT_ok tk_MTo_shift rfl
theorem d_MTo_shift_71 : decode MTo_shift.2.2.1 71 = .ok (.iload_n 2, 1) := lkT_ok tk_MTo_shift rfl
theorem d_MTo_shift_72 : decode MTo_shift.2.2.1 72 = .ok (.iload 5, 2) := lkT_ok tk_MTo_shift rfl
theorem d_MTo_shift_74 : decode MTo_shift.2.2.1 74 = .ok (.invokevirtual 282, 3) := lkT_ok tk_MTo_shift rfl
theorem d_MTo_shift_77 : decode MTo_shift.2.2.1 77 = .ok (.ifCond .eq 15, 3) := lkT_ok tk_MTo_shift rfl
theorem d_MTo_shift_80 : decode MTo_shift.2.2.1 80 = .ok (.aload 7, 2) := lkT_ok tk_MTo_shift rfl
theorem d_MTo_shift_82 : decode MTo_shift.2.2.1 82 = .ok (.iload 4, 2) := lkT_ok tk_MTo_shift rfl
theorem d_MTo_shift_84 : decode MTo_shift.2.2.1 84 = .ok (.iload 5, 2) := lkT_ok tk_MTo_shift rfl
theorem d_MTo_shift_86 : decode MTo_shift.2.2.1 86 = .ok (.invokevirtual 282, 3) := lkT_ok tk_MTo_shift rfl
theorem d_MTo_shift_89 : decode MTo_shift.2.2.1 89 = .ok (.ifCond .ne 6, 3) := lkT_ok tk_MTo_shift rfl
theorem d_MTo_shift_92 : decode MTo_shift.2.2.1 92 = .ok (.bipush (-13), 2) := lkT_ok tk_MTo_shift rfl
theorem d_MTo_shift_94 : decode MTo_shift.2.2.1 94 = .ok (.ireturn, 1) := lkT_ok tk_MTo_shift rfl
theorem d_MTo_shift_95 : decode MTo_shift.2.2.1 95 = .ok (.aload 6, 2) := lkT_ok tk_MTo_shift rfl
theorem d_MTo_shift_97 : decode MTo_shift.2.2.1 97 = .ok (.getfield 285, 3) := lkT_ok tk_MTo_shift rfl
theorem d_MTo_shift_100 : decode MTo_shift.2.2.1 100 = .ok (.iload_n 2, 1) := lkT_ok tk_MTo_shift rfl
theorem d_MTo_shift_101 : decode MTo_shift.2.2.1 101 = .ok (.aload 7, 2) := lkT_ok tk_MTo_shift rfl
theorem d_MTo_shift_103 : decode MTo_shift.2.2.1 103 = .ok (.getfield 285, 3) := lkT_ok tk_MTo_shift rfl
theorem d_MTo_shift_106 : decode MTo_shift.2.2.1 106 = .ok (.iload 4, 2) := lkT_ok tk_MTo_shift rfl
theorem d_MTo_shift_108 : decode MTo_shift.2.2.1 108 = .ok (.iload 5, 2) := lkT_ok tk_MTo_shift rfl
theorem d_MTo_shift_110 : decode MTo_shift.2.2.1 110 = .ok (.invokestatic 289, 3) := lkT_ok tk_MTo_shift rfl
theorem d_MTo_shift_113 : decode MTo_shift.2.2.1 113 = .ok (.iload 5, 2) := lkT_ok tk_MTo_shift rfl
theorem d_MTo_shift_115 : decode MTo_shift.2.2.1 115 = .ok (.ireturn, 1) := lkT_ok tk_MTo_shift rfl
theorem r_MTo_shift_0 {l1 l2 l3 l4 l5 l6 l7 : Value} {x : Nat} : Rr X d MTo_shift 0 [.ref x, l1, l2, l3, l4, l5, l6, l7] st h = Rr X d MTo_shift 1 [.ref x, l1, l2, l3, l4, l5, l6, l7] (.ref x :: st) h := Rr_nx d_MTo_shift_0 rfl
theorem r_MTo_shift_1 {l0 l2 l3 l4 l5 l6 l7 : Value} {x : Int32} : Rr X d MTo_shift 1 [l0, .int x, l2, l3, l4, l5, l6, l7] st h = Rr X d MTo_shift 2 [l0, .int x, l2, l3, l4, l5, l6, l7] (.int x :: st) h := Rr_nx d_MTo_shift_1 rfl
theorem fc_9_212 : fC 9 212 = some (0, 9, 1, MTo_shelfAt) := rfl
theorem r_MTo_shift_2 {y0 : Int32} {a : Nat} (hO : qO a 9 = true) (hc : ckS st = true) : Rr X (d + 1) MTo_shift 2 L (.int y0 :: .ref a :: st) (Wd mu la ro et) = (Rr X d MTo_shelfAt 0 [.ref a, .int y0] [] (Wd mu la ro et)).bind fun q => Rr X (d + 1) MTo_shift 5 L (psh q.1 st) q.2 := R_iv (av := [.int y0]) d_MTo_shift_2 fc_9_212 hO (ckS_le hc) rfl (Nat.le_of_ble_eq_true rfl) (Nat.le_of_ble_eq_true rfl)
theorem r_MTo_shift_5 {l0 l1 l2 l3 l4 l5 l6 l7 : Value} {x : Nat} : Rr X d MTo_shift 5 [l0, l1, l2, l3, l4, l5, l6, l7] (.ref x :: st) h = Rr X d MTo_shift 7 (sL [l0, l1, l2, l3, l4, l5, l6, l7] 6 (.ref x)) st h := Rr_nx d_MTo_shift_5 rfl
theorem r_MTo_shift_5n {l0 l1 l2 l3 l4 l5 l6 l7 : Value} : Rr X d MTo_shift 5 [l0, l1, l2, l3, l4, l5, l6, l7] (.null :: st) h = Rr X d MTo_shift 7 (sL [l0, l1, l2, l3, l4, l5, l6, l7] 6 .null) st h := Rr_nx d_MTo_shift_5 rfl
theorem r_MTo_shift_7 {l1 l2 l3 l4 l5 l6 l7 : Value} {x : Nat} : Rr X d MTo_shift 7 [.ref x, l1, l2, l3, l4, l5, l6, l7] st h = Rr X d MTo_shift 8 [.ref x, l1, l2, l3, l4, l5, l6, l7] (.ref x :: st) h := Rr_nx d_MTo_shift_7 rfl
theorem r_MTo_shift_8 {l0 l1 l2 l4 l5 l6 l7 : Value} {x : Int32} : Rr X d MTo_shift 8 [l0, l1, l2, .int x, l4, l5, l6, l7] st h = Rr X d MTo_shift 9 [l0, l1, l2, .int x, l4, l5, l6, l7] (.int x :: st) h := Rr_nx d_MTo_shift_8 rfl
theorem r_MTo_shift_9 {y0 : Int32} {a : Nat} (hO : qO a 9 = true) (hc : ckS st = true) : Rr X (d + 1) MTo_shift 9 L (.int y0 :: .ref a :: st) (Wd mu la ro et) = (Rr X d MTo_shelfAt 0 [.ref a, .int y0] [] (Wd mu la ro et)).bind fun q => Rr X (d + 1) MTo_shift 12 L (psh q.1 st) q.2 := R_iv (av := [.int y0]) d_MTo_shift_9 fc_9_212 hO (ckS_le hc) rfl (Nat.le_of_ble_eq_true rfl) (Nat.le_of_ble_eq_true rfl)
theorem r_MTo_shift_12 {l0 l1 l2 l3 l4 l5 l6 l7 : Value} {x : Nat} : Rr X d MTo_shift 12 [l0, l1, l2, l3, l4, l5, l6, l7] (.ref x :: st) h = Rr X d MTo_shift 14 (sL [l0, l1, l2, l3, l4, l5, l6, l7] 7 (.ref x)) st h := Rr_nx d_MTo_shift_12 rfl
theorem r_MTo_shift_12n {l0 l1 l2 l3 l4 l5 l6 l7 : Value} : Rr X d MTo_shift 12 [l0, l1, l2, l3, l4, l5, l6, l7] (.null :: st) h = Rr X d MTo_shift 14 (sL [l0, l1, l2, l3, l4, l5, l6, l7] 7 .null) st h := Rr_nx d_MTo_shift_12 rfl
theorem r_MTo_shift_14 {l0 l1 l2 l3 l4 l5 l7 : Value} {x : Nat} : Rr X d MTo_shift 14 [l0, l1, l2, l3, l4, l5, .ref x, l7] st h = Rr X d MTo_shift 16 [l0, l1, l2, l3, l4, l5, .ref x, l7] (.ref x :: st) h := Rr_nx d_MTo_shift_14 rfl
theorem r_MTo_shift_14n {l0 l1 l2 l3 l4 l5 l7 : Value} : Rr X d MTo_shift 14 [l0, l1, l2, l3, l4, l5, .null, l7] st h = Rr X d MTo_shift 16 [l0, l1, l2, l3, l4, l5, .null, l7] (.null :: st) h := Rr_nx d_MTo_shift_14 rfl
theorem r_MTo_shift_16 {x : Nat} : Rr X d MTo_shift 16 L (.ref x :: st) h = Rr X d MTo_shift 19 L st h := R_nul1 d_MTo_shift_16
theorem r_MTo_shift_16n : Rr X d MTo_shift 16 L (.null :: st) h = Rr X d MTo_shift 24 L st h := R_nul0 d_MTo_shift_16 (by decide)
theorem r_MTo_shift_19 {l0 l1 l2 l3 l4 l5 l6 : Value} {x : Nat} : Rr X d MTo_shift 19 [l0, l1, l2, l3, l4, l5, l6, .ref x] st h = Rr X d MTo_shift 21 [l0, l1, l2, l3, l4, l5, l6, .ref x] (.ref x :: st) h := Rr_nx d_MTo_shift_19 rfl
theorem r_MTo_shift_19n {l0 l1 l2 l3 l4 l5 l6 : Value} : Rr X d MTo_shift 19 [l0, l1, l2, l3, l4, l5, l6, .null] st h = Rr X d MTo_shift 21 [l0, l1, l2, l3, l4, l5, l6, .null] (.null :: st) h := Rr_nx d_MTo_shift_19 rfl
theorem r_MTo_shift_21 {x : Nat} : Rr X d MTo_shift 21 L (.ref x :: st) h = Rr X d MTo_shift 26 L st h := R_nnl1 d_MTo_shift_21 (by decide)
theorem r_MTo_shift_21n : Rr X d MTo_shift 21 L (.null :: st) h = Rr X d MTo_shift 24 L st h := R_nnl0 d_MTo_shift_21
theorem r_MTo_shift_24 : Rr X d MTo_shift 24 L st h = Rr X d MTo_shift 25 L (.int (-1) :: st) h := Rr_nx d_MTo_shift_24 rfl
theorem r_MTo_shift_25 {x : Int32} : Rr X d MTo_shift 25 L [.int x] h = some (some (.int x), h) := R_ir d_MTo_shift_25 rfl
theorem r_MTo_shift_26 {l0 l1 l2 l3 l4 l5 l7 : Value} {x : Nat} : Rr X d MTo_shift 26 [l0, l1, l2, l3, l4, l5, .ref x, l7] st h = Rr X d MTo_shift 28 [l0, l1, l2, l3, l4, l5, .ref x, l7] (.ref x :: st) h := Rr_nx d_MTo_shift_26 rfl
theorem r_MTo_shift_26n {l0 l1 l2 l3 l4 l5 l7 : Value} : Rr X d MTo_shift 26 [l0, l1, l2, l3, l4, l5, .null, l7] st h = Rr X d MTo_shift 28 [l0, l1, l2, l3, l4, l5, .null, l7] (.null :: st) h := Rr_nx d_MTo_shift_26 rfl
theorem fc_9_216 : fC 9 216 = some (0, 6, 0, MSh_isEmpty) := rfl
theorem r_MTo_shift_28 {a : Nat} (hO : qO a 6 = true) (hc : ckS st = true) : Rr X (d + 1) MTo_shift 28 L (.ref a :: st) (Wd mu la ro et) = (Rr X d MSh_isEmpty 0 [.ref a] [] (Wd mu la ro et)).bind fun q => Rr X (d + 1) MTo_shift 31 L (psh q.1 st) q.2 := R_iv (av := []) d_MTo_shift_28 fc_9_216 hO (ckS_le hc) rfl (Nat.le_of_ble_eq_true rfl) (Nat.le_of_ble_eq_true rfl)
theorem r_MTo_shift_31 {x : Int32} : Rr X d MTo_shift 31 L (.int x :: st) h = if ¬ x = 0 then Rr X d MTo_shift 42 L st h else Rr X d MTo_shift 34 L st h := R_if_ne d_MTo_shift_31 (by decide)
theorem r_MTo_shift_34 {l0 l1 l2 l3 l4 l5 l6 : Value} {x : Nat} : Rr X d MTo_shift 34 [l0, l1, l2, l3, l4, l5, l6, .ref x] st h = Rr X d MTo_shift 36 [l0, l1, l2, l3, l4, l5, l6, .ref x] (.ref x :: st) h := Rr_nx d_MTo_shift_34 rfl
theorem r_MTo_shift_34n {l0 l1 l2 l3 l4 l5 l6 : Value} : Rr X d MTo_shift 34 [l0, l1, l2, l3, l4, l5, l6, .null] st h = Rr X d MTo_shift 36 [l0, l1, l2, l3, l4, l5, l6, .null] (.null :: st) h := Rr_nx d_MTo_shift_34 rfl
theorem r_MTo_shift_36 {a : Nat} (hO : qO a 6 = true) (hc : ckS st = true) : Rr X (d + 1) MTo_shift 36 L (.ref a :: st) (Wd mu la ro et) = (Rr X d MSh_isEmpty 0 [.ref a] [] (Wd mu la ro et)).bind fun q => Rr X (d + 1) MTo_shift 39 L (psh q.1 st) q.2 := R_iv (av := []) d_MTo_shift_36 fc_9_216 hO (ckS_le hc) rfl (Nat.le_of_ble_eq_true rfl) (Nat.le_of_ble_eq_true rfl)
theorem r_MTo_shift_39 {x : Int32} : Rr X d MTo_shift 39 L (.int x :: st) h = if x = 0 then Rr X d MTo_shift 45 L st h else Rr X d MTo_shift 42 L st h := R_if_eq d_MTo_shift_39 (by decide)
theorem r_MTo_shift_42 : Rr X d MTo_shift 42 L st h = Rr X d MTo_shift 44 L (.int (-11) :: st) h := Rr_nx d_MTo_shift_42 rfl
theorem r_MTo_shift_44 {x : Int32} : Rr X d MTo_shift 44 L [.int x] h = some (some (.int x), h) := R_ir d_MTo_shift_44 rfl
theorem r_MTo_shift_45 {l0 l1 l2 l3 l4 l5 l7 : Value} {x : Nat} : Rr X d MTo_shift 45 [l0, l1, l2, l3, l4, l5, .ref x, l7] st h = Rr X d MTo_shift 47 [l0, l1, l2, l3, l4, l5, .ref x, l7] (.ref x :: st) h := Rr_nx d_MTo_shift_45 rfl
theorem r_MTo_shift_45n {l0 l1 l2 l3 l4 l5 l7 : Value} : Rr X d MTo_shift 45 [l0, l1, l2, l3, l4, l5, .null, l7] st h = Rr X d MTo_shift 47 [l0, l1, l2, l3, l4, l5, .null, l7] (.null :: st) h := Rr_nx d_MTo_shift_45 rfl
theorem fc_9_276 : fC 9 276 = some (0, 6, 0, MSh_isRow) := rfl
theorem r_MTo_shift_47 {a : Nat} (hO : qO a 6 = true) (hc : ckS st = true) : Rr X (d + 1) MTo_shift 47 L (.ref a :: st) (Wd mu la ro et) = (Rr X d MSh_isRow 0 [.ref a] [] (Wd mu la ro et)).bind fun q => Rr X (d + 1) MTo_shift 50 L (psh q.1 st) q.2 := R_iv (av := []) d_MTo_shift_47 fc_9_276 hO (ckS_le hc) rfl (Nat.le_of_ble_eq_true rfl) (Nat.le_of_ble_eq_true rfl)
theorem r_MTo_shift_50 {x : Int32} : Rr X d MTo_shift 50 L (.int x :: st) h = if x = 0 then Rr X d MTo_shift 66 L st h else Rr X d MTo_shift 53 L st h := R_if_eq d_MTo_shift_50 (by decide)
theorem r_MTo_shift_53 {l0 l1 l2 l3 l4 l5 l6 : Value} {x : Nat} : Rr X d MTo_shift 53 [l0, l1, l2, l3, l4, l5, l6, .ref x] st h = Rr X d MTo_shift 55 [l0, l1, l2, l3, l4, l5, l6, .ref x] (.ref x :: st) h := Rr_nx d_MTo_shift_53 rfl
theorem r_MTo_shift_53n {l0 l1 l2 l3 l4 l5 l6 : Value} : Rr X d MTo_shift 53 [l0, l1, l2, l3, l4, l5, l6, .null] st h = Rr X d MTo_shift 55 [l0, l1, l2, l3, l4, l5, l6, .null] (.null :: st) h := Rr_nx d_MTo_shift_53 rfl
theorem r_MTo_shift_55 {l0 l1 l2 l3 l4 l5 l7 : Value} {x : Nat} : Rr X d MTo_shift 55 [l0, l1, l2, l3, l4, l5, .ref x, l7] st h = Rr X d MTo_shift 57 [l0, l1, l2, l3, l4, l5, .ref x, l7] (.ref x :: st) h := Rr_nx d_MTo_shift_55 rfl
theorem r_MTo_shift_55n {l0 l1 l2 l3 l4 l5 l7 : Value} : Rr X d MTo_shift 55 [l0, l1, l2, l3, l4, l5, .null, l7] st h = Rr X d MTo_shift 57 [l0, l1, l2, l3, l4, l5, .null, l7] (.null :: st) h := Rr_nx d_MTo_shift_55 rfl
theorem ff_9_279 : fF 9 279 = some (6, 2, 0, 0) := rfl
theorem r_MTo_shift_57 {a : Nat} (hq : qI a 6 2 = true) : Rr X d MTo_shift 57 L (.ref a :: st) (Wd mu la ro et) = Rr X d MTo_shift 60 L (.int (mu a 2) :: st) (Wd mu la ro et) := R_gfI d_MTo_shift_57 ff_9_279 hq
theorem fc_9_219 : fC 9 219 = some (0, 6, 1, MSh_isRowOf) := rfl
theorem r_MTo_shift_60 {y0 : Int32} {a : Nat} (hO : qO a 6 = true) (hc : ckS st = true) : Rr X (d + 1) MTo_shift 60 L (.int y0 :: .ref a :: st) (Wd mu la ro et) = (Rr X d MSh_isRowOf 0 [.ref a, .int y0] [] (Wd mu la ro et)).bind fun q => Rr X (d + 1) MTo_shift 63 L (psh q.1 st) q.2 := R_iv (av := [.int y0]) d_MTo_shift_60 fc_9_219 hO (ckS_le hc) rfl (Nat.le_of_ble_eq_true rfl) (Nat.le_of_ble_eq_true rfl)
theorem r_MTo_shift_63 {x : Int32} : Rr X d MTo_shift 63 L (.int x :: st) h = if ¬ x = 0 then Rr X d MTo_shift 69 L st h else Rr X d MTo_shift 66 L st h := R_if_ne d_MTo_shift_63 (by decide)
theorem r_MTo_shift_66 : Rr X d MTo_shift 66 L st h = Rr X d MTo_shift 68 L (.int (-12) :: st) h := Rr_nx d_MTo_shift_66 rfl
theorem r_MTo_shift_68 {x : Int32} : Rr X d MTo_shift 68 L [.int x] h = some (some (.int x), h) := R_ir d_MTo_shift_68 rfl
theorem r_MTo_shift_69 {l0 l1 l2 l3 l4 l5 l7 : Value} {x : Nat} : Rr X d MTo_shift 69 [l0, l1, l2, l3, l4, l5, .ref x, l7] st h = Rr X d MTo_shift 71 [l0, l1, l2, l3, l4, l5, .ref x, l7] (.ref x :: st) h := Rr_nx d_MTo_shift_69 rfl
theorem r_MTo_shift_69n {l0 l1 l2 l3 l4 l5 l7 : Value} : Rr X d MTo_shift 69 [l0, l1, l2, l3, l4, l5, .null, l7] st h = Rr X d MTo_shift 71 [l0, l1, l2, l3, l4, l5, .null, l7] (.null :: st) h := Rr_nx d_MTo_shift_69 rfl
theorem r_MTo_shift_71 {l0 l1 l3 l4 l5 l6 l7 : Value} {x : Int32} : Rr X d MTo_shift 71 [l0, l1, .int x, l3, l4, l5, l6, l7] st h = Rr X d MTo_shift 72 [l0, l1, .int x, l3, l4, l5, l6, l7] (.int x :: st) h := Rr_nx d_MTo_shift_71 rfl
theorem r_MTo_shift_72 {l0 l1 l2 l3 l4 l6 l7 : Value} {x : Int32} : Rr X d MTo_shift 72 [l0, l1, l2, l3, l4, .int x, l6, l7] st h = Rr X d MTo_shift 74 [l0, l1, l2, l3, l4, .int x, l6, l7] (.int x :: st) h := Rr_nx d_MTo_shift_72 rfl
theorem fc_9_282 : fC 9 282 = some (0, 6, 2, MSh_hasPlaces) := rfl
theorem r_MTo_shift_74 {y0 : Int32} {y1 : Int32} {a : Nat} (hO : qO a 6 = true) (hc : ckS st = true) : Rr X (d + 1) MTo_shift 74 L (.int y1 :: .int y0 :: .ref a :: st) (Wd mu la ro et) = (Rr X d MSh_hasPlaces 0 [.ref a, .int y0, .int y1] [] (Wd mu la ro et)).bind fun q => Rr X (d + 1) MTo_shift 77 L (psh q.1 st) q.2 := R_iv (av := [.int y1, .int y0]) d_MTo_shift_74 fc_9_282 hO (ckS_le hc) rfl (Nat.le_of_ble_eq_true rfl) (Nat.le_of_ble_eq_true rfl)
theorem r_MTo_shift_77 {x : Int32} : Rr X d MTo_shift 77 L (.int x :: st) h = if x = 0 then Rr X d MTo_shift 92 L st h else Rr X d MTo_shift 80 L st h := R_if_eq d_MTo_shift_77 (by decide)
theorem r_MTo_shift_80 {l0 l1 l2 l3 l4 l5 l6 : Value} {x : Nat} : Rr X d MTo_shift 80 [l0, l1, l2, l3, l4, l5, l6, .ref x] st h = Rr X d MTo_shift 82 [l0, l1, l2, l3, l4, l5, l6, .ref x] (.ref x :: st) h := Rr_nx d_MTo_shift_80 rfl
theorem r_MTo_shift_80n {l0 l1 l2 l3 l4 l5 l6 : Value} : Rr X d MTo_shift 80 [l0, l1, l2, l3, l4, l5, l6, .null] st h = Rr X d MTo_shift 82 [l0, l1, l2, l3, l4, l5, l6, .null] (.null :: st) h := Rr_nx d_MTo_shift_80 rfl
theorem r_MTo_shift_82 {l0 l1 l2 l3 l5 l6 l7 : Value} {x : Int32} : Rr X d MTo_shift 82 [l0, l1, l2, l3, .int x, l5, l6, l7] st h = Rr X d MTo_shift 84 [l0, l1, l2, l3, .int x, l5, l6, l7] (.int x :: st) h := Rr_nx d_MTo_shift_82 rfl
theorem r_MTo_shift_84 {l0 l1 l2 l3 l4 l6 l7 : Value} {x : Int32} : Rr X d MTo_shift 84 [l0, l1, l2, l3, l4, .int x, l6, l7] st h = Rr X d MTo_shift 86 [l0, l1, l2, l3, l4, .int x, l6, l7] (.int x :: st) h := Rr_nx d_MTo_shift_84 rfl
theorem r_MTo_shift_86 {y0 : Int32} {y1 : Int32} {a : Nat} (hO : qO a 6 = true) (hc : ckS st = true) : Rr X (d + 1) MTo_shift 86 L (.int y1 :: .int y0 :: .ref a :: st) (Wd mu la ro et) = (Rr X d MSh_hasPlaces 0 [.ref a, .int y0, .int y1] [] (Wd mu la ro et)).bind fun q => Rr X (d + 1) MTo_shift 89 L (psh q.1 st) q.2 := R_iv (av := [.int y1, .int y0]) d_MTo_shift_86 fc_9_282 hO (ckS_le hc) rfl (Nat.le_of_ble_eq_true rfl) (Nat.le_of_ble_eq_true rfl)
theorem r_MTo_shift_89 {x : Int32} : Rr X d MTo_shift 89 L (.int x :: st) h = if ¬ x = 0 then Rr X d MTo_shift 95 L st h else Rr X d MTo_shift 92 L st h := R_if_ne d_MTo_shift_89 (by decide)
theorem r_MTo_shift_92 : Rr X d MTo_shift 92 L st h = Rr X d MTo_shift 94 L (.int (-13) :: st) h := Rr_nx d_MTo_shift_92 rfl
theorem r_MTo_shift_94 {x : Int32} : Rr X d MTo_shift 94 L [.int x] h = some (some (.int x), h) := R_ir d_MTo_shift_94 rfl
theorem r_MTo_shift_95 {l0 l1 l2 l3 l4 l5 l7 : Value} {x : Nat} : Rr X d MTo_shift 95 [l0, l1, l2, l3, l4, l5, .ref x, l7] st h = Rr X d MTo_shift 97 [l0, l1, l2, l3, l4, l5, .ref x, l7] (.ref x :: st) h := Rr_nx d_MTo_shift_95 rfl
theorem r_MTo_shift_95n {l0 l1 l2 l3 l4 l5 l7 : Value} : Rr X d MTo_shift 95 [l0, l1, l2, l3, l4, l5, .null, l7] st h = Rr X d MTo_shift 97 [l0, l1, l2, l3, l4, l5, .null, l7] (.null :: st) h := Rr_nx d_MTo_shift_95 rfl
theorem ff_9_285 : fF 9 285 = some (6, 0, 1, 1) := rfl
theorem r_MTo_shift_97 {a : Nat} (hq : (qR a 6 0).isSome = true) : Rr X d MTo_shift 97 L (.ref a :: st) (Wd mu la ro et) = Rr X d MTo_shift 100 L (.ref (qRd a 6 0) :: st) (Wd mu la ro et) := R_gfR d_MTo_shift_97 ff_9_285 hq
theorem r_MTo_shift_100 {l0 l1 l3 l4 l5 l6 l7 : Value} {x : Int32} : Rr X d MTo_shift 100 [l0, l1, .int x, l3, l4, l5, l6, l7] st h = Rr X d MTo_shift 101 [l0, l1, .int x, l3, l4, l5, l6, l7] (.int x :: st) h := Rr_nx d_MTo_shift_100 rfl
theorem r_MTo_shift_101 {l0 l1 l2 l3 l4 l5 l6 : Value} {x : Nat} : Rr X d MTo_shift 101 [l0, l1, l2, l3, l4, l5, l6, .ref x] st h = Rr X d MTo_shift 103 [l0, l1, l2, l3, l4, l5, l6, .ref x] (.ref x :: st) h := Rr_nx d_MTo_shift_101 rfl
theorem r_MTo_shift_101n {l0 l1 l2 l3 l4 l5 l6 : Value} : Rr X d MTo_shift 101 [l0, l1, l2, l3, l4, l5, l6, .null] st h = Rr X d MTo_shift 103 [l0, l1, l2, l3, l4, l5, l6, .null] (.null :: st) h := Rr_nx d_MTo_shift_101 rfl
theorem r_MTo_shift_103 {a : Nat} (hq : (qR a 6 0).isSome = true) : Rr X d MTo_shift 103 L (.ref a :: st) (Wd mu la ro et) = Rr X d MTo_shift 106 L (.ref (qRd a 6 0) :: st) (Wd mu la ro et) := R_gfR d_MTo_shift_103 ff_9_285 hq
theorem r_MTo_shift_106 {l0 l1 l2 l3 l5 l6 l7 : Value} {x : Int32} : Rr X d MTo_shift 106 [l0, l1, l2, l3, .int x, l5, l6, l7] st h = Rr X d MTo_shift 108 [l0, l1, l2, l3, .int x, l5, l6, l7] (.int x :: st) h := Rr_nx d_MTo_shift_106 rfl
theorem r_MTo_shift_108 {l0 l1 l2 l3 l4 l6 l7 : Value} {x : Int32} : Rr X d MTo_shift 108 [l0, l1, l2, l3, l4, .int x, l6, l7] st h = Rr X d MTo_shift 110 [l0, l1, l2, l3, l4, .int x, l6, l7] (.int x :: st) h := Rr_nx d_MTo_shift_108 rfl
theorem fc_9_289 : fC 9 289 = some (10, 0, 0, MBo_init) := rfl
theorem r_MTo_shift_113 {l0 l1 l2 l3 l4 l6 l7 : Value} {x : Int32} : Rr X d MTo_shift 113 [l0, l1, l2, l3, l4, .int x, l6, l7] st h = Rr X d MTo_shift 115 [l0, l1, l2, l3, l4, .int x, l6, l7] (.int x :: st) h := Rr_nx d_MTo_shift_113 rfl
theorem r_MTo_shift_115 {x : Int32} : Rr X d MTo_shift 115 L [.int x] h = some (some (.int x), h) := R_ir d_MTo_shift_115 rfl
theorem d_MTo_shelfAt_0 : decode MTo_shelfAt.2.2.1 0 = .ok (.iload_n 1, 1) := lkT_ok tk_MTo_shelfAt rfl
theorem d_MTo_shelfAt_1 : decode MTo_shelfAt.2.2.1 1 = .ok (.iconst 0, 1) := lkT_ok tk_MTo_shelfAt rfl
theorem d_MTo_shelfAt_2 : decode MTo_shelfAt.2.2.1 2 = .ok (.aload_n 0, 1) := lkT_ok tk_MTo_shelfAt rfl
theorem d_MTo_shelfAt_3 : decode MTo_shelfAt.2.2.1 3 = .ok (.getfield 30, 3) := lkT_ok tk_MTo_shelfAt rfl
theorem d_MTo_shelfAt_6 : decode MTo_shelfAt.2.2.1 6 = .ok (.arraylength, 1) := lkT_ok tk_MTo_shelfAt rfl
theorem d_MTo_shelfAt_7 : decode MTo_shelfAt.2.2.1 7 = .ok (.iconst 1, 1) := lkT_ok tk_MTo_shelfAt rfl
theorem d_MTo_shelfAt_8 : decode MTo_shelfAt.2.2.1 8 = .ok (.isub, 1) := lkT_ok tk_MTo_shelfAt rfl
theorem d_MTo_shelfAt_9 : decode MTo_shelfAt.2.2.1 9 = .ok (.invokestatic 72, 3) := lkT_ok tk_MTo_shelfAt rfl
theorem d_MTo_shelfAt_12 : decode MTo_shelfAt.2.2.1 12 = .ok (.ifCond .eq 12, 3) := lkT_ok tk_MTo_shelfAt rfl
theorem d_MTo_shelfAt_15 : decode MTo_shelfAt.2.2.1 15 = .ok (.aload_n 0, 1) := lkT_ok tk_MTo_shelfAt rfl
theorem d_MTo_shelfAt_16 : decode MTo_shelfAt.2.2.1 16 = .ok (.getfield 30, 3) := lkT_ok tk_MTo_shelfAt rfl
theorem d_MTo_shelfAt_19 : decode MTo_shelfAt.2.2.1 19 = .ok (.iload_n 1, 1) := lkT_ok tk_MTo_shelfAt rfl
theorem d_MTo_shelfAt_20 : decode MTo_shelfAt.2.2.1 20 = .ok (.aaload, 1) := lkT_ok tk_MTo_shelfAt rfl
theorem d_MTo_shelfAt_21 : decode MTo_shelfAt.2.2.1 21 = .ok (.goto 4, 3) := lkT_ok tk_MTo_shelfAt rfl
theorem d_MTo_shelfAt_24 : decode MTo_shelfAt.2.2.1 24 = .ok (.aconst_null, 1) := lkT_ok tk_MTo_shelfAt rfl
theorem d_MTo_shelfAt_25 : decode MTo_shelfAt.2.2.1 25 = .ok (.areturn, 1) := lkT_ok tk_MTo_shelfAt rfl
theorem r_MTo_shelfAt_0 {l0 : Value} {x : Int32} : Rr X d MTo_shelfAt 0 [l0, .int x] st h = Rr X d MTo_shelfAt 1 [l0, .int x] (.int x :: st) h := Rr_nx d_MTo_shelfAt_0 rfl
theorem r_MTo_shelfAt_1 : Rr X d MTo_shelfAt 1 L st h = Rr X d MTo_shelfAt 2 L (.int (0) :: st) h := Rr_nx d_MTo_shelfAt_1 rfl
theorem r_MTo_shelfAt_2 {l1 : Value} {x : Nat} : Rr X d MTo_shelfAt 2 [.ref x, l1] st h = Rr X d MTo_shelfAt 3 [.ref x, l1] (.ref x :: st) h := Rr_nx d_MTo_shelfAt_2 rfl
theorem ff_9_30 : fF 9 30 = some (9, 3, 1, 1) := rfl
theorem r_MTo_shelfAt_3 {a : Nat} (hq : (qR a 9 3).isSome = true) : Rr X d MTo_shelfAt 3 L (.ref a :: st) (Wd mu la ro et) = Rr X d MTo_shelfAt 6 L (.ref (qRd a 9 3) :: st) (Wd mu la ro et) := R_gfR d_MTo_shelfAt_3 ff_9_30 hq
theorem r_MTo_shelfAt_6 {a : Nat} (hq : (qL a).isSome = true) : Rr X d MTo_shelfAt 6 L (.ref a :: st) (Wd mu la ro et) = Rr X d MTo_shelfAt 7 L (.int (Int32.ofNat (qLd a)) :: st) (Wd mu la ro et) := R_lenW d_MTo_shelfAt_6 hq
theorem r_MTo_shelfAt_7 : Rr X d MTo_shelfAt 7 L st h = Rr X d MTo_shelfAt 8 L (.int (1) :: st) h := Rr_nx d_MTo_shelfAt_7 rfl
theorem r_MTo_shelfAt_8 {x y : Int32} : Rr X d MTo_shelfAt 8 L (.int y :: .int x :: st) h = Rr X d MTo_shelfAt 9 L (.int (x - y) :: st) h := Rr_nx d_MTo_shelfAt_8 rfl
theorem r_MTo_shelfAt_9 {y0 : Int32} {y1 : Int32} {y2 : Int32} (hc : ckS st = true) : Rr X (d + 1) MTo_shelfAt 9 L (.int y2 :: .int y1 :: .int y0 :: st) h = (Rr X d MTo_isWithin 0 [.int y0, .int y1, .int y2] [] h).bind fun q => Rr X (d + 1) MTo_shelfAt 12 L (psh q.1 st) q.2 := R_is (av := [.int y2, .int y1, .int y0]) d_MTo_shelfAt_9 (Or.inl fc_9_72) (ckS_le hc) rfl (Nat.le_of_ble_eq_true rfl) (Nat.le_of_ble_eq_true rfl)
theorem r_MTo_shelfAt_12 {x : Int32} : Rr X d MTo_shelfAt 12 L (.int x :: st) h = if x = 0 then Rr X d MTo_shelfAt 24 L st h else Rr X d MTo_shelfAt 15 L st h := R_if_eq d_MTo_shelfAt_12 (by decide)
theorem r_MTo_shelfAt_15 {l1 : Value} {x : Nat} : Rr X d MTo_shelfAt 15 [.ref x, l1] st h = Rr X d MTo_shelfAt 16 [.ref x, l1] (.ref x :: st) h := Rr_nx d_MTo_shelfAt_15 rfl
theorem r_MTo_shelfAt_16 {a : Nat} (hq : (qR a 9 3).isSome = true) : Rr X d MTo_shelfAt 16 L (.ref a :: st) (Wd mu la ro et) = Rr X d MTo_shelfAt 19 L (.ref (qRd a 9 3) :: st) (Wd mu la ro et) := R_gfR d_MTo_shelfAt_16 ff_9_30 hq
theorem r_MTo_shelfAt_19 {l0 : Value} {x : Int32} : Rr X d MTo_shelfAt 19 [l0, .int x] st h = Rr X d MTo_shelfAt 20 [l0, .int x] (.int x :: st) h := Rr_nx d_MTo_shelfAt_19 rfl
theorem r_MTo_shelfAt_20 {a : Nat} {j : Int32} (hq : (qQ a).isSome = true) : Rr X d MTo_shelfAt 20 L (.int j :: .ref a :: st) (Wd mu la ro et) = if j < 0 ∨ qQd a ≤ j.toNatClampNeg then none else Rr X d MTo_shelfAt 21 L (va_rf (ro a j.toNatClampNeg) :: st) (Wd mu la ro et) := R_aalW d_MTo_shelfAt_20 hq
theorem r_MTo_shelfAt_21 : Rr X d MTo_shelfAt 21 L st h = Rr X d MTo_shelfAt 25 L st h := R_goto d_MTo_shelfAt_21 (by decide)
theorem r_MTo_shelfAt_24 : Rr X d MTo_shelfAt 24 L st h = Rr X d MTo_shelfAt 25 L (.null :: st) h := Rr_nx d_MTo_shelfAt_24 rfl
theorem r_MTo_shelfAt_25 {x : Nat} : Rr X d MTo_shelfAt 25 L [.ref x] h = some (some (.ref x), h) := Rr_rt d_MTo_shelfAt_25 rfl
theorem r_MTo_shelfAt_25n : Rr X d MTo_shelfAt 25 L [.null] h = some (some .null, h) := Rr_rt d_MTo_shelfAt_25 rfl
theorem d_MSh_isEmpty_0 : decode MSh_isEmpty.2.2.1 0 = .ok (.aload_n 0, 1) := lkT_ok tk_MSh_isEmpty rfl
theorem d_MSh_isEmpty_1 : decode MSh_isEmpty.2.2.1 1 = .ok (.invokevirtual 25, 3) := lkT_ok tk_MSh_isEmpty rfl
theorem d_MSh_isEmpty_4 : decode MSh_isEmpty.2.2.1 4 = .ok (.ifCond .ne 15, 3) := lkT_ok tk_MSh_isEmpty rfl
theorem d_MSh_isEmpty_7 : decode MSh_isEmpty.2.2.1 7 = .ok (.aload_n 0, 1) := lkT_ok tk_MSh_isEmpty rfl
theorem d_MSh_isEmpty_8 : decode MSh_isEmpty.2.2.1 8 = .ok (.getfield 15, 3) := lkT_ok tk_MSh_isEmpty rfl
theorem d_MSh_isEmpty_11 : decode MSh_isEmpty.2.2.1 11 = .ok (.iconst (-1), 1) := lkT_ok tk_MSh_isEmpty rfl
theorem d_MSh_isEmpty_12 : decode MSh_isEmpty.2.2.1 12 = .ok (.if_icmp .ne 7, 3) := lkT_ok tk_MSh_isEmpty rfl
theorem d_MSh_isEmpty_15 : decode MSh_isEmpty.2.2.1 15 = .ok (.iconst 1, 1) := lkT_ok tk_MSh_isEmpty rfl
theorem d_MSh_isEmpty_16 : decode MSh_isEmpty.2.2.1 16 = .ok (.goto 4, 3) := lkT_ok tk_MSh_isEmpty rfl
theorem d_MSh_isEmpty_19 : decode MSh_isEmpty.2.2.1 19 = .ok (.iconst 0, 1) := lkT_ok tk_MSh_isEmpty rfl
theorem d_MSh_isEmpty_20 : decode MSh_isEmpty.2.2.1 20 = .ok (.ireturn, 1) := lkT_ok tk_MSh_isEmpty rfl
theorem r_MSh_isEmpty_0 {x : Nat} : Rr X d MSh_isEmpty 0 [.ref x] st h = Rr X d MSh_isEmpty 1 [.ref x] (.ref x :: st) h := Rr_nx d_MSh_isEmpty_0 rfl
theorem fc_6_25 : fC 6 25 = some (0, 6, 0, MSh_isRow) := rfl
theorem r_MSh_isEmpty_1 {a : Nat} (hO : qO a 6 = true) (hc : ckS st = true) : Rr X (d + 1) MSh_isEmpty 1 L (.ref a :: st) (Wd mu la ro et) = (Rr X d MSh_isRow 0 [.ref a] [] (Wd mu la ro et)).bind fun q => Rr X (d + 1) MSh_isEmpty 4 L (psh q.1 st) q.2 := R_iv (av := []) d_MSh_isEmpty_1 fc_6_25 hO (ckS_le hc) rfl (Nat.le_of_ble_eq_true rfl) (Nat.le_of_ble_eq_true rfl)
theorem r_MSh_isEmpty_4 {x : Int32} : Rr X d MSh_isEmpty 4 L (.int x :: st) h = if ¬ x = 0 then Rr X d MSh_isEmpty 19 L st h else Rr X d MSh_isEmpty 7 L st h := R_if_ne d_MSh_isEmpty_4 (by decide)
theorem r_MSh_isEmpty_7 {x : Nat} : Rr X d MSh_isEmpty 7 [.ref x] st h = Rr X d MSh_isEmpty 8 [.ref x] (.ref x :: st) h := Rr_nx d_MSh_isEmpty_7 rfl
theorem ff_6_15 : fF 6 15 = some (6, 1, 0, 0) := rfl
theorem r_MSh_isEmpty_8 {a : Nat} (hq : qI a 6 1 = true) : Rr X d MSh_isEmpty 8 L (.ref a :: st) (Wd mu la ro et) = Rr X d MSh_isEmpty 11 L (.int (mu a 1) :: st) (Wd mu la ro et) := R_gfI d_MSh_isEmpty_8 ff_6_15 hq
theorem r_MSh_isEmpty_11 : Rr X d MSh_isEmpty 11 L st h = Rr X d MSh_isEmpty 12 L (.int (-1) :: st) h := Rr_nx d_MSh_isEmpty_11 rfl
theorem r_MSh_isEmpty_12 {x y : Int32} : Rr X d MSh_isEmpty 12 L (.int y :: .int x :: st) h = if ¬ x = y then Rr X d MSh_isEmpty 19 L st h else Rr X d MSh_isEmpty 15 L st h := R_ic_ne d_MSh_isEmpty_12 (by decide)
theorem r_MSh_isEmpty_15 : Rr X d MSh_isEmpty 15 L st h = Rr X d MSh_isEmpty 16 L (.int (1) :: st) h := Rr_nx d_MSh_isEmpty_15 rfl
theorem r_MSh_isEmpty_16 : Rr X d MSh_isEmpty 16 L st h = Rr X d MSh_isEmpty 20 L st h := R_goto d_MSh_isEmpty_16 (by decide)
theorem r_MSh_isEmpty_19 : Rr X d MSh_isEmpty 19 L st h = Rr X d MSh_isEmpty 20 L (.int (0) :: st) h := Rr_nx d_MSh_isEmpty_19 rfl
theorem r_MSh_isEmpty_20 {x : Int32} : Rr X d MSh_isEmpty 20 L [.int x] h = if x = 0 ∨ x = 1 then some (some (.int x), h) else none := R_zr d_MSh_isEmpty_20 rfl
theorem d_MSh_isRow_0 : decode MSh_isRow.2.2.1 0 = .ok (.aload_n 0, 1) := lkT_ok tk_MSh_isRow rfl
theorem d_MSh_isRow_1 : decode MSh_isRow.2.2.1 1 = .ok (.getfield 19, 3) := lkT_ok tk_MSh_isRow rfl
theorem d_MSh_isRow_4 : decode MSh_isRow.2.2.1 4 = .ok (.iconst (-1), 1) := lkT_ok tk_MSh_isRow rfl
theorem d_MSh_isRow_5 : decode MSh_isRow.2.2.1 5 = .ok (.if_icmp .eq 7, 3) := lkT_ok tk_MSh_isRow rfl
theorem d_MSh_isRow_8 : decode MSh_isRow.2.2.1 8 = .ok (.iconst 1, 1) := lkT_ok tk_MSh_isRow rfl
theorem d_MSh_isRow_9 : decode MSh_isRow.2.2.1 9 = .ok (.goto 4, 3) := lkT_ok tk_MSh_isRow rfl
theorem d_MSh_isRow_12 : decode MSh_isRow.2.2.1 12 = .ok (.iconst 0, 1) := lkT_ok tk_MSh_isRow rfl
theorem d_MSh_isRow_13 : decode MSh_isRow.2.2.1 13 = .ok (.ireturn, 1) := lkT_ok tk_MSh_isRow rfl
theorem r_MSh_isRow_0 {x : Nat} : Rr X d MSh_isRow 0 [.ref x] st h = Rr X d MSh_isRow 1 [.ref x] (.ref x :: st) h := Rr_nx d_MSh_isRow_0 rfl
theorem ff_6_19 : fF 6 19 = some (6, 2, 0, 0) := rfl
theorem r_MSh_isRow_1 {a : Nat} (hq : qI a 6 2 = true) : Rr X d MSh_isRow 1 L (.ref a :: st) (Wd mu la ro et) = Rr X d MSh_isRow 4 L (.int (mu a 2) :: st) (Wd mu la ro et) := R_gfI d_MSh_isRow_1 ff_6_19 hq
theorem r_MSh_isRow_4 : Rr X d MSh_isRow 4 L st h = Rr X d MSh_isRow 5 L (.int (-1) :: st) h := Rr_nx d_MSh_isRow_4 rfl
theorem r_MSh_isRow_5 {x y : Int32} : Rr X d MSh_isRow 5 L (.int y :: .int x :: st) h = if x = y then Rr X d MSh_isRow 12 L st h else Rr X d MSh_isRow 8 L st h := R_ic_eq d_MSh_isRow_5 (by decide)
theorem r_MSh_isRow_8 : Rr X d MSh_isRow 8 L st h = Rr X d MSh_isRow 9 L (.int (1) :: st) h := Rr_nx d_MSh_isRow_8 rfl
theorem r_MSh_isRow_9 : Rr X d MSh_isRow 9 L st h = Rr X d MSh_isRow 13 L st h := R_goto d_MSh_isRow_9 (by decide)
theorem r_MSh_isRow_12 : Rr X d MSh_isRow 12 L st h = Rr X d MSh_isRow 13 L (.int (0) :: st) h := Rr_nx d_MSh_isRow_12 rfl
theorem r_MSh_isRow_13 {x : Int32} : Rr X d MSh_isRow 13 L [.int x] h = if x = 0 ∨ x = 1 then some (some (.int x), h) else none := R_zr d_MSh_isRow_13 rfl
theorem d_MSh_isRowOf_0 : decode MSh_isRowOf.2.2.1 0 = .ok (.aload_n 0, 1) := lkT_ok tk_MSh_isRowOf rfl
theorem d_MSh_isRowOf_1 : decode MSh_isRowOf.2.2.1 1 = .ok (.invokevirtual 25, 3) := lkT_ok tk_MSh_isRowOf rfl
theorem d_MSh_isRowOf_4 : decode MSh_isRowOf.2.2.1 4 = .ok (.ifCond .eq 15, 3) := lkT_ok tk_MSh_isRowOf rfl
theorem d_MSh_isRowOf_7 : decode MSh_isRowOf.2.2.1 7 = .ok (.aload_n 0, 1) := lkT_ok tk_MSh_isRowOf rfl
theorem d_MSh_isRowOf_8 : decode MSh_isRowOf.2.2.1 8 = .ok (.getfield 19, 3) := lkT_ok tk_MSh_isRowOf rfl
theorem d_MSh_isRowOf_11 : decode MSh_isRowOf.2.2.1 11 = .ok (.iload_n 1, 1) := lkT_ok tk_MSh_isRowOf rfl
theorem d_MSh_isRowOf_12 : decode MSh_isRowOf.2.2.1 12 = .ok (.if_icmp .ne 7, 3) := lkT_ok tk_MSh_isRowOf rfl
theorem d_MSh_isRowOf_15 : decode MSh_isRowOf.2.2.1 15 = .ok (.iconst 1, 1) := lkT_ok tk_MSh_isRowOf rfl
theorem d_MSh_isRowOf_16 : decode MSh_isRowOf.2.2.1 16 = .ok (.goto 4, 3) := lkT_ok tk_MSh_isRowOf rfl
theorem d_MSh_isRowOf_19 : decode MSh_isRowOf.2.2.1 19 = .ok (.iconst 0, 1) := lkT_ok tk_MSh_isRowOf rfl
theorem d_MSh_isRowOf_20 : decode MSh_isRowOf.2.2.1 20 = .ok (.ireturn, 1) := lkT_ok tk_MSh_isRowOf rfl
theorem r_MSh_isRowOf_0 {l1 : Value} {x : Nat} : Rr X d MSh_isRowOf 0 [.ref x, l1] st h = Rr X d MSh_isRowOf 1 [.ref x, l1] (.ref x :: st) h := Rr_nx d_MSh_isRowOf_0 rfl
theorem r_MSh_isRowOf_1 {a : Nat} (hO : qO a 6 = true) (hc : ckS st = true) : Rr X (d + 1) MSh_isRowOf 1 L (.ref a :: st) (Wd mu la ro et) = (Rr X d MSh_isRow 0 [.ref a] [] (Wd mu la ro et)).bind fun q => Rr X (d + 1) MSh_isRowOf 4 L (psh q.1 st) q.2 := R_iv (av := []) d_MSh_isRowOf_1 fc_6_25 hO (ckS_le hc) rfl (Nat.le_of_ble_eq_true rfl) (Nat.le_of_ble_eq_true rfl)
theorem r_MSh_isRowOf_4 {x : Int32} : Rr X d MSh_isRowOf 4 L (.int x :: st) h = if x = 0 then Rr X d MSh_isRowOf 19 L st h else Rr X d MSh_isRowOf 7 L st h := R_if_eq d_MSh_isRowOf_4 (by decide)
theorem r_MSh_isRowOf_7 {l1 : Value} {x : Nat} : Rr X d MSh_isRowOf 7 [.ref x, l1] st h = Rr X d MSh_isRowOf 8 [.ref x, l1] (.ref x :: st) h := Rr_nx d_MSh_isRowOf_7 rfl
theorem r_MSh_isRowOf_8 {a : Nat} (hq : qI a 6 2 = true) : Rr X d MSh_isRowOf 8 L (.ref a :: st) (Wd mu la ro et) = Rr X d MSh_isRowOf 11 L (.int (mu a 2) :: st) (Wd mu la ro et) := R_gfI d_MSh_isRowOf_8 ff_6_19 hq
theorem r_MSh_isRowOf_11 {l0 : Value} {x : Int32} : Rr X d MSh_isRowOf 11 [l0, .int x] st h = Rr X d MSh_isRowOf 12 [l0, .int x] (.int x :: st) h := Rr_nx d_MSh_isRowOf_11 rfl
theorem r_MSh_isRowOf_12 {x y : Int32} : Rr X d MSh_isRowOf 12 L (.int y :: .int x :: st) h = if ¬ x = y then Rr X d MSh_isRowOf 19 L st h else Rr X d MSh_isRowOf 15 L st h := R_ic_ne d_MSh_isRowOf_12 (by decide)
theorem r_MSh_isRowOf_15 : Rr X d MSh_isRowOf 15 L st h = Rr X d MSh_isRowOf 16 L (.int (1) :: st) h := Rr_nx d_MSh_isRowOf_15 rfl
theorem r_MSh_isRowOf_16 : Rr X d MSh_isRowOf 16 L st h = Rr X d MSh_isRowOf 20 L st h := R_goto d_MSh_isRowOf_16 (by decide)
theorem r_MSh_isRowOf_19 : Rr X d MSh_isRowOf 19 L st h = Rr X d MSh_isRowOf 20 L (.int (0) :: st) h := Rr_nx d_MSh_isRowOf_19 rfl
theorem r_MSh_isRowOf_20 {x : Int32} : Rr X d MSh_isRowOf 20 L [.int x] h = if x = 0 ∨ x = 1 then some (some (.int x), h) else none := R_zr d_MSh_isRowOf_20 rfl
theorem d_MSh_hasPlaces_0 : decode MSh_hasPlaces.2.2.1 0 = .ok (.iload_n 1, 1) := lkT_ok tk_MSh_hasPlaces rfl
theorem d_MSh_hasPlaces_1 : decode MSh_hasPlaces.2.2.1 1 = .ok (.ifCond .lt 21, 3) := lkT_ok tk_MSh_hasPlaces rfl
theorem d_MSh_hasPlaces_4 : decode MSh_hasPlaces.2.2.1 4 = .ok (.iload_n 2, 1) := lkT_ok tk_MSh_hasPlaces rfl
theorem d_MSh_hasPlaces_5 : decode MSh_hasPlaces.2.2.1 5 = .ok (.ifCond .lt 17, 3) := lkT_ok tk_MSh_hasPlaces rfl
theorem d_MSh_hasPlaces_8 : decode MSh_hasPlaces.2.2.1 8 = .ok (.iload_n 1, 1) := lkT_ok tk_MSh_hasPlaces rfl
theorem d_MSh_hasPlaces_9 : decode MSh_hasPlaces.2.2.1 9 = .ok (.aload_n 0, 1) := lkT_ok tk_MSh_hasPlaces rfl
theorem d_MSh_hasPlaces_10 : decode MSh_hasPlaces.2.2.1 10 = .ok (.getfield 22, 3) := lkT_ok tk_MSh_hasPlaces rfl
theorem d_MSh_hasPlaces_13 : decode MSh_hasPlaces.2.2.1 13 = .ok (.iload_n 2, 1) := lkT_ok tk_MSh_hasPlaces rfl
theorem d_MSh_hasPlaces_14 : decode MSh_hasPlaces.2.2.1 14 = .ok (.isub, 1) := lkT_ok tk_MSh_hasPlaces rfl
theorem d_MSh_hasPlaces_15 : decode MSh_hasPlaces.2.2.1 15 = .ok (.if_icmp .gt 7, 3) := lkT_ok tk_MSh_hasPlaces rfl
theorem d_MSh_hasPlaces_18 : decode MSh_hasPlaces.2.2.1 18 = .ok (.iconst 1, 1) := lkT_ok tk_MSh_hasPlaces rfl
theorem d_MSh_hasPlaces_19 : decode MSh_hasPlaces.2.2.1 19 = .ok (.goto 4, 3) := lkT_ok tk_MSh_hasPlaces rfl
theorem d_MSh_hasPlaces_22 : decode MSh_hasPlaces.2.2.1 22 = .ok (.iconst 0, 1) := lkT_ok tk_MSh_hasPlaces rfl
theorem d_MSh_hasPlaces_23 : decode MSh_hasPlaces.2.2.1 23 = .ok (.ireturn, 1) := lkT_ok tk_MSh_hasPlaces rfl
theorem r_MSh_hasPlaces_0 {l0 l2 : Value} {x : Int32} : Rr X d MSh_hasPlaces 0 [l0, .int x, l2] st h = Rr X d MSh_hasPlaces 1 [l0, .int x, l2] (.int x :: st) h := Rr_nx d_MSh_hasPlaces_0 rfl
theorem r_MSh_hasPlaces_1 {x : Int32} : Rr X d MSh_hasPlaces 1 L (.int x :: st) h = if x < 0 then Rr X d MSh_hasPlaces 22 L st h else Rr X d MSh_hasPlaces 4 L st h := R_if_lt d_MSh_hasPlaces_1 (by decide)
theorem r_MSh_hasPlaces_4 {l0 l1 : Value} {x : Int32} : Rr X d MSh_hasPlaces 4 [l0, l1, .int x] st h = Rr X d MSh_hasPlaces 5 [l0, l1, .int x] (.int x :: st) h := Rr_nx d_MSh_hasPlaces_4 rfl
theorem r_MSh_hasPlaces_5 {x : Int32} : Rr X d MSh_hasPlaces 5 L (.int x :: st) h = if x < 0 then Rr X d MSh_hasPlaces 22 L st h else Rr X d MSh_hasPlaces 8 L st h := R_if_lt d_MSh_hasPlaces_5 (by decide)
theorem r_MSh_hasPlaces_8 {l0 l2 : Value} {x : Int32} : Rr X d MSh_hasPlaces 8 [l0, .int x, l2] st h = Rr X d MSh_hasPlaces 9 [l0, .int x, l2] (.int x :: st) h := Rr_nx d_MSh_hasPlaces_8 rfl
theorem r_MSh_hasPlaces_9 {l1 l2 : Value} {x : Nat} : Rr X d MSh_hasPlaces 9 [.ref x, l1, l2] st h = Rr X d MSh_hasPlaces 10 [.ref x, l1, l2] (.ref x :: st) h := Rr_nx d_MSh_hasPlaces_9 rfl
theorem ff_6_22 : fF 6 22 = some (6, 3, 0, 0) := rfl
theorem r_MSh_hasPlaces_10 {a : Nat} (hq : qI a 6 3 = true) : Rr X d MSh_hasPlaces 10 L (.ref a :: st) (Wd mu la ro et) = Rr X d MSh_hasPlaces 13 L (.int (mu a 3) :: st) (Wd mu la ro et) := R_gfI d_MSh_hasPlaces_10 ff_6_22 hq
theorem r_MSh_hasPlaces_13 {l0 l1 : Value} {x : Int32} : Rr X d MSh_hasPlaces 13 [l0, l1, .int x] st h = Rr X d MSh_hasPlaces 14 [l0, l1, .int x] (.int x :: st) h := Rr_nx d_MSh_hasPlaces_13 rfl
theorem r_MSh_hasPlaces_14 {x y : Int32} : Rr X d MSh_hasPlaces 14 L (.int y :: .int x :: st) h = Rr X d MSh_hasPlaces 15 L (.int (x - y) :: st) h := Rr_nx d_MSh_hasPlaces_14 rfl
theorem r_MSh_hasPlaces_15 {x y : Int32} : Rr X d MSh_hasPlaces 15 L (.int y :: .int x :: st) h = if y < x then Rr X d MSh_hasPlaces 22 L st h else Rr X d MSh_hasPlaces 18 L st h := R_ic_gt d_MSh_hasPlaces_15 (by decide)
theorem r_MSh_hasPlaces_18 : Rr X d MSh_hasPlaces 18 L st h = Rr X d MSh_hasPlaces 19 L (.int (1) :: st) h := Rr_nx d_MSh_hasPlaces_18 rfl
theorem r_MSh_hasPlaces_19 : Rr X d MSh_hasPlaces 19 L st h = Rr X d MSh_hasPlaces 23 L st h := R_goto d_MSh_hasPlaces_19 (by decide)
theorem r_MSh_hasPlaces_22 : Rr X d MSh_hasPlaces 22 L st h = Rr X d MSh_hasPlaces 23 L (.int (0) :: st) h := Rr_nx d_MSh_hasPlaces_22 rfl
theorem r_MSh_hasPlaces_23 {x : Int32} : Rr X d MSh_hasPlaces 23 L [.int x] h = if x = 0 ∨ x = 1 then some (some (.int x), h) else none := R_zr d_MSh_hasPlaces_23 rfl
theorem d_MRm_in_0 : decode MRm_in.2.2.1 0 = .ok (.iload_n 0, 1) := lkT_ok tk_MRm_in rfl
theorem d_MRm_in_1 : decode MRm_in.2.2.1 1 = .ok (.iload_n 1, 1) := lkT_ok tk_MRm_in rfl
theorem d_MRm_in_2 : decode MRm_in.2.2.1 2 = .ok (.if_icmp .lt 12, 3) := lkT_ok tk_MRm_in rfl
theorem d_MRm_in_5 : decode MRm_in.2.2.1 5 = .ok (.iload_n 0, 1) := lkT_ok tk_MRm_in rfl
theorem d_MRm_in_6 : decode MRm_in.2.2.1 6 = .ok (.iload_n 2, 1) := lkT_ok tk_MRm_in rfl
theorem d_MRm_in_7 : decode MRm_in.2.2.1 7 = .ok (.if_icmp .gt 7, 3) := lkT_ok tk_MRm_in rfl
theorem d_MRm_in_10 : decode MRm_in.2.2.1 10 = .ok (.iconst 1, 1) := lkT_ok tk_MRm_in rfl
theorem d_MRm_in_11 : decode MRm_in.2.2.1 11 = .ok (.goto 4, 3) := lkT_ok tk_MRm_in rfl
theorem d_MRm_in_14 : decode MRm_in.2.2.1 14 = .ok (.iconst 0, 1) := lkT_ok tk_MRm_in rfl
theorem d_MRm_in_15 : decode MRm_in.2.2.1 15 = .ok (.ireturn, 1) := lkT_ok tk_MRm_in rfl
theorem r_MRm_in_0 {l1 l2 : Value} {x : Int32} : Rr X d MRm_in 0 [.int x, l1, l2] st h = Rr X d MRm_in 1 [.int x, l1, l2] (.int x :: st) h := Rr_nx d_MRm_in_0 rfl
theorem r_MRm_in_1 {l0 l2 : Value} {x : Int32} : Rr X d MRm_in 1 [l0, .int x, l2] st h = Rr X d MRm_in 2 [l0, .int x, l2] (.int x :: st) h := Rr_nx d_MRm_in_1 rfl
theorem r_MRm_in_2 {x y : Int32} : Rr X d MRm_in 2 L (.int y :: .int x :: st) h = if x < y then Rr X d MRm_in 14 L st h else Rr X d MRm_in 5 L st h := R_ic_lt d_MRm_in_2 (by decide)
theorem r_MRm_in_5 {l1 l2 : Value} {x : Int32} : Rr X d MRm_in 5 [.int x, l1, l2] st h = Rr X d MRm_in 6 [.int x, l1, l2] (.int x :: st) h := Rr_nx d_MRm_in_5 rfl
theorem r_MRm_in_6 {l0 l1 : Value} {x : Int32} : Rr X d MRm_in 6 [l0, l1, .int x] st h = Rr X d MRm_in 7 [l0, l1, .int x] (.int x :: st) h := Rr_nx d_MRm_in_6 rfl
theorem r_MRm_in_7 {x y : Int32} : Rr X d MRm_in 7 L (.int y :: .int x :: st) h = if y < x then Rr X d MRm_in 14 L st h else Rr X d MRm_in 10 L st h := R_ic_gt d_MRm_in_7 (by decide)
theorem r_MRm_in_10 : Rr X d MRm_in 10 L st h = Rr X d MRm_in 11 L (.int (1) :: st) h := Rr_nx d_MRm_in_10 rfl
theorem r_MRm_in_11 : Rr X d MRm_in 11 L st h = Rr X d MRm_in 15 L st h := R_goto d_MRm_in_11 (by decide)
theorem r_MRm_in_14 : Rr X d MRm_in 14 L st h = Rr X d MRm_in 15 L (.int (0) :: st) h := Rr_nx d_MRm_in_14 rfl
theorem r_MRm_in_15 {x : Int32} : Rr X d MRm_in 15 L [.int x] h = if x = 0 ∨ x = 1 then some (some (.int x), h) else none := R_zr d_MRm_in_15 rfl
theorem d_MRm_isStone_0 : decode MRm_isStone.2.2.1 0 = .ok (.iload_n 1, 1) := lkT_ok tk_MRm_isStone rfl
theorem d_MRm_isStone_1 : decode MRm_isStone.2.2.1 1 = .ok (.iconst 0, 1) := lkT_ok tk_MRm_isStone rfl
theorem d_MRm_isStone_2 : decode MRm_isStone.2.2.1 2 = .ok (.aload_n 0, 1) := lkT_ok tk_MRm_isStone rfl
theorem d_MRm_isStone_3 : decode MRm_isStone.2.2.1 3 = .ok (.getfield 114, 3) := lkT_ok tk_MRm_isStone rfl
theorem d_MRm_isStone_6 : decode MRm_isStone.2.2.1 6 = .ok (.iconst 1, 1) := lkT_ok tk_MRm_isStone rfl
theorem d_MRm_isStone_7 : decode MRm_isStone.2.2.1 7 = .ok (.isub, 1) := lkT_ok tk_MRm_isStone rfl
theorem d_MRm_isStone_8 : decode MRm_isStone.2.2.1 8 = .ok (.invokestatic 107, 3) := lkT_ok tk_MRm_isStone rfl
theorem d_MRm_isStone_11 : decode MRm_isStone.2.2.1 11 = .ok (.ireturn, 1) := lkT_ok tk_MRm_isStone rfl
theorem r_MRm_isStone_0 {l0 : Value} {x : Int32} : Rr X d MRm_isStone 0 [l0, .int x] st h = Rr X d MRm_isStone 1 [l0, .int x] (.int x :: st) h := Rr_nx d_MRm_isStone_0 rfl
theorem r_MRm_isStone_1 : Rr X d MRm_isStone 1 L st h = Rr X d MRm_isStone 2 L (.int (0) :: st) h := Rr_nx d_MRm_isStone_1 rfl
theorem r_MRm_isStone_2 {l1 : Value} {x : Nat} : Rr X d MRm_isStone 2 [.ref x, l1] st h = Rr X d MRm_isStone 3 [.ref x, l1] (.ref x :: st) h := Rr_nx d_MRm_isStone_2 rfl
theorem ff_10_114 : fF 10 114 = some (10, 3, 0, 0) := rfl
theorem r_MRm_isStone_3 {a : Nat} (hq : qI a 10 3 = true) : Rr X d MRm_isStone 3 L (.ref a :: st) (Wd mu la ro et) = Rr X d MRm_isStone 6 L (.int (mu a 3) :: st) (Wd mu la ro et) := R_gfI d_MRm_isStone_3 ff_10_114 hq
theorem r_MRm_isStone_6 : Rr X d MRm_isStone 6 L st h = Rr X d MRm_isStone 7 L (.int (1) :: st) h := Rr_nx d_MRm_isStone_6 rfl
theorem r_MRm_isStone_7 {x y : Int32} : Rr X d MRm_isStone 7 L (.int y :: .int x :: st) h = Rr X d MRm_isStone 8 L (.int (x - y) :: st) h := Rr_nx d_MRm_isStone_7 rfl
theorem fc_10_107 : fC 10 107 = some (1, 0, 3, MRm_in) := rfl
theorem r_MRm_isStone_8 {y0 : Int32} {y1 : Int32} {y2 : Int32} (hc : ckS st = true) : Rr X (d + 1) MRm_isStone 8 L (.int y2 :: .int y1 :: .int y0 :: st) h = (Rr X d MRm_in 0 [.int y0, .int y1, .int y2] [] h).bind fun q => Rr X (d + 1) MRm_isStone 11 L (psh q.1 st) q.2 := R_is (av := [.int y2, .int y1, .int y0]) d_MRm_isStone_8 (Or.inl fc_10_107) (ckS_le hc) rfl (Nat.le_of_ble_eq_true rfl) (Nat.le_of_ble_eq_true rfl)
theorem r_MRm_isStone_11 {x : Int32} : Rr X d MRm_isStone 11 L [.int x] h = if x = 0 ∨ x = 1 then some (some (.int x), h) else none := R_zr d_MRm_isStone_11 rfl
theorem d_MRm_isShelf_0 : decode MRm_isShelf.2.2.1 0 = .ok (.iload_n 0, 1) := lkT_ok tk_MRm_isShelf rfl
theorem d_MRm_isShelf_1 : decode MRm_isShelf.2.2.1 1 = .ok (.iconst 0, 1) := lkT_ok tk_MRm_isShelf rfl
theorem d_MRm_isShelf_2 : decode MRm_isShelf.2.2.1 2 = .ok (.iconst 5, 1) := lkT_ok tk_MRm_isShelf rfl
theorem d_MRm_isShelf_3 : decode MRm_isShelf.2.2.1 3 = .ok (.invokestatic 107, 3) := lkT_ok tk_MRm_isShelf rfl
theorem d_MRm_isShelf_6 : decode MRm_isShelf.2.2.1 6 = .ok (.ireturn, 1) := lkT_ok tk_MRm_isShelf rfl
theorem r_MRm_isShelf_0 {x : Int32} : Rr X d MRm_isShelf 0 [.int x] st h = Rr X d MRm_isShelf 1 [.int x] (.int x :: st) h := Rr_nx d_MRm_isShelf_0 rfl
theorem r_MRm_isShelf_1 : Rr X d MRm_isShelf 1 L st h = Rr X d MRm_isShelf 2 L (.int (0) :: st) h := Rr_nx d_MRm_isShelf_1 rfl
theorem r_MRm_isShelf_2 : Rr X d MRm_isShelf 2 L st h = Rr X d MRm_isShelf 3 L (.int (5) :: st) h := Rr_nx d_MRm_isShelf_2 rfl
theorem r_MRm_isShelf_3 {y0 : Int32} {y1 : Int32} {y2 : Int32} (hc : ckS st = true) : Rr X (d + 1) MRm_isShelf 3 L (.int y2 :: .int y1 :: .int y0 :: st) h = (Rr X d MRm_in 0 [.int y0, .int y1, .int y2] [] h).bind fun q => Rr X (d + 1) MRm_isShelf 6 L (psh q.1 st) q.2 := R_is (av := [.int y2, .int y1, .int y0]) d_MRm_isShelf_3 (Or.inl fc_10_107) (ckS_le hc) rfl (Nat.le_of_ble_eq_true rfl) (Nat.le_of_ble_eq_true rfl)
theorem r_MRm_isShelf_6 {x : Int32} : Rr X d MRm_isShelf 6 L [.int x] h = if x = 0 ∨ x = 1 then some (some (.int x), h) else none := R_zr d_MRm_isShelf_6 rfl
theorem d_MRm_sizeOf_0 : decode MRm_sizeOf.2.2.1 0 = .ok (.iload_n 0, 1) := lkT_ok tk_MRm_sizeOf rfl
theorem d_MRm_sizeOf_1 : decode MRm_sizeOf.2.2.1 1 = .ok (.ifCond .ge 8, 3) := lkT_ok tk_MRm_sizeOf rfl
theorem d_MRm_sizeOf_4 : decode MRm_sizeOf.2.2.1 4 = .ok (.iload_n 0, 1) := lkT_ok tk_MRm_sizeOf rfl
theorem d_MRm_sizeOf_5 : decode MRm_sizeOf.2.2.1 5 = .ok (.ineg, 1) := lkT_ok tk_MRm_sizeOf rfl
theorem d_MRm_sizeOf_6 : decode MRm_sizeOf.2.2.1 6 = .ok (.goto 4, 3) := lkT_ok tk_MRm_sizeOf rfl
theorem d_MRm_sizeOf_9 : decode MRm_sizeOf.2.2.1 9 = .ok (.iload_n 0, 1) := lkT_ok tk_MRm_sizeOf rfl
theorem d_MRm_sizeOf_10 : decode MRm_sizeOf.2.2.1 10 = .ok (.ireturn, 1) := lkT_ok tk_MRm_sizeOf rfl
theorem r_MRm_sizeOf_0 {x : Int32} : Rr X d MRm_sizeOf 0 [.int x] st h = Rr X d MRm_sizeOf 1 [.int x] (.int x :: st) h := Rr_nx d_MRm_sizeOf_0 rfl
theorem r_MRm_sizeOf_1 {x : Int32} : Rr X d MRm_sizeOf 1 L (.int x :: st) h = if 0 ≤ x then Rr X d MRm_sizeOf 9 L st h else Rr X d MRm_sizeOf 4 L st h := R_if_ge d_MRm_sizeOf_1 (by decide)
theorem r_MRm_sizeOf_4 {x : Int32} : Rr X d MRm_sizeOf 4 [.int x] st h = Rr X d MRm_sizeOf 5 [.int x] (.int x :: st) h := Rr_nx d_MRm_sizeOf_4 rfl
theorem r_MRm_sizeOf_5 {x : Int32} : Rr X d MRm_sizeOf 5 L (.int x :: st) h = Rr X d MRm_sizeOf 6 L (.int (-x) :: st) h := Rr_nx d_MRm_sizeOf_5 rfl
theorem r_MRm_sizeOf_6 : Rr X d MRm_sizeOf 6 L st h = Rr X d MRm_sizeOf 10 L st h := R_goto d_MRm_sizeOf_6 (by decide)
theorem r_MRm_sizeOf_9 {x : Int32} : Rr X d MRm_sizeOf 9 [.int x] st h = Rr X d MRm_sizeOf 10 [.int x] (.int x :: st) h := Rr_nx d_MRm_sizeOf_9 rfl
theorem r_MRm_sizeOf_10 {x : Int32} : Rr X d MRm_sizeOf 10 L [.int x] h = some (some (.int x), h) := R_ir d_MRm_sizeOf_10 rfl
theorem d_MRm_chance_0 : decode MRm_chance.2.2.1 0 = .ok (.iload_n 1, 1) := lkT_ok tk_MRm_chance rfl
theorem d_MRm_chance_1 : decode MRm_chance.2.2.1 1 = .ok (.iconst 1, 1) := lkT_ok tk_MRm_chance rfl
theorem d_MRm_chance_2 : decode MRm_chance.2.2.1 2 = .ok (.bipush 40, 2) := lkT_ok tk_MRm_chance rfl
theorem d_MRm_chance_4 : decode MRm_chance.2.2.1 4 = .ok (.invokestatic 107, 3) := lkT_ok tk_MRm_chance rfl
theorem d_MRm_chance_7 : decode MRm_chance.2.2.1 7 = .ok (.ifCond .eq 12, 3) := lkT_ok tk_MRm_chance rfl
theorem d_MRm_chance_10 : decode MRm_chance.2.2.1 10 = .ok (.iload_n 2, 1) := lkT_ok tk_MRm_chance rfl
theorem d_MRm_chance_11 : decode MRm_chance.2.2.1 11 = .ok (.iconst 0, 1) := lkT_ok tk_MRm_chance rfl
theorem d_MRm_chance_12 : decode MRm_chance.2.2.1 12 = .ok (.iload_n 1, 1) := lkT_ok tk_MRm_chance rfl
theorem d_MRm_chance_13 : decode MRm_chance.2.2.1 13 = .ok (.invokestatic 107, 3) := lkT_ok tk_MRm_chance rfl
theorem d_MRm_chance_16 : decode MRm_chance.2.2.1 16 = .ok (.ifCond .ne 5, 3) := lkT_ok tk_MRm_chance rfl
theorem d_MRm_chance_19 : decode MRm_chance.2.2.1 19 = .ok (.iconst (-1), 1) := lkT_ok tk_MRm_chance rfl
theorem d_MRm_chance_20 : decode MRm_chance.2.2.1 20 = .ok (.ireturn, 1) := lkT_ok tk_MRm_chance rfl
theorem d_MRm_chance_21 : decode MRm_chance.2.2.1 21 = .ok (.iload_n 2, 1) := lkT_ok tk_MRm_chance rfl
theorem d_MRm_chance_22 : decode MRm_chance.2.2.1 22 = .ok (.iload_n 1, 1) := lkT_ok tk_MRm_chance rfl
theorem d_MRm_chance_23 : decode MRm_chance.2.2.1 23 = .ok (.iload_n 2, 1) := lkT_ok tk_MRm_chance rfl
theorem d_MRm_chance_24 : decode MRm_chance.2.2.1 24 = .ok (.isub, 1) := lkT_ok tk_MRm_chance rfl
theorem d_MRm_chance_25 : decode MRm_chance.2.2.1 25 = .ok (.if_icmp .le 7, 3) := lkT_ok tk_MRm_chance rfl
theorem d_MRm_chance_28 : decode MRm_chance.2.2.1 28 = .ok (.iload_n 2, 1) := lkT_ok tk_MRm_chance rfl
theorem d_MRm_chance_29 : decode MRm_chance.2.2.1 29 = .ok (.goto 6, 3) := lkT_ok tk_MRm_chance rfl
theorem d_MRm_chance_32 : decode MRm_chance.2.2.1 32 = .ok (.iload_n 1, 1) := lkT_ok tk_MRm_chance rfl
theorem d_MRm_chance_33 : decode MRm_chance.2.2.1 33 = .ok (.iload_n 2, 1) := lkT_ok tk_MRm_chance rfl
theorem d_MRm_chance_34 : decode MRm_chance.2.2.1 34 = .ok (.isub, 1) := lkT_ok tk_MRm_chance rfl
theorem d_MRm_chance_35 : decode MRm_chance.2.2.1 35 = .ok (.istore_n 3, 1) := lkT_ok tk_MRm_chance rfl
theorem d_MRm_chance_36 : decode MRm_chance.2.2.1 36 = .ok (.iconst 0, 1) := lkT_ok tk_MRm_chance rfl
theorem d_MRm_chance_37 : decode MRm_chance.2.2.1 37 = .ok (.istore 4, 2) := lkT_ok tk_MRm_chance rfl
theorem d_MRm_chance_39 : decode MRm_chance.2.2.1 39 = .ok (.iload 4, 2) := lkT_ok tk_MRm_chance rfl
theorem d_MRm_chance_41 : decode MRm_chance.2.2.1 41 = .ok (.bipush 40, 2) := lkT_ok tk_MRm_chance rfl
theorem d_MRm_chance_43 : decode MRm_chance.2.2.1 43 = .ok (.if_icmp .gt 26, 3) := lkT_ok tk_MRm_chance rfl
theorem d_MRm_chance_46 : decode MRm_chance.2.2.1 46 = .ok (.aload_n 0, 1) := lkT_ok tk_MRm_chance rfl
theorem d_MRm_chance_47 : decode MRm_chance.2.2.1 47 = .ok (.getfield 82, 3) := lkT_ok tk_MRm_chance rfl
theorem d_MRm_chance_50 : decode MRm_chance.2.2.1 50 = .ok (.iload 4, 2) := lkT_ok tk_MRm_chance rfl
theorem d_MRm_chance_52 : decode MRm_chance.2.2.1 52 = .ok (.iload 4, 2) := lkT_ok tk_MRm_chance rfl
theorem d_MRm_chance_54 : decode MRm_chance.2.2.1 54 = .ok (.ifCond .ne 7, 3) := lkT_ok tk_MRm_chance rfl
theorem d_MRm_chance_57 : decode MRm_chance.2.2.1 57 = .ok (.lconst 1, 1) := lkT_ok tk_MRm_chance rfl
theorem d_MRm_chance_58 : decode MRm_chance.2.2.1 58 = .ok (.goto 4, 3) := lkT_ok tk_MRm_chance rfl
theorem d_MRm_chance_61 : decode MRm_chance.2.2.1 61 = .ok (.lconst 0, 1) := lkT_ok tk_MRm_chance rfl
theorem d_MRm_chance_62 : decode MRm_chance.2.2.1 62 = .ok (.lastore, 1) := lkT_ok tk_MRm_chance rfl
theorem d_MRm_chance_63 : decode MRm_chance.2.2.1 63 = .ok (.iinc 4 1, 3) := lkT_ok tk_MRm_chance rfl
theorem d_MRm_chance_66 : decode MRm_chance.2.2.1 66 = .ok (.goto (-27), 3) := lkT_ok tk_MRm_chance rfl
theorem d_MRm_chance_69 : decode MRm_chance.2.2.1 69 = .ok (.iconst 0, 1) := lkT_ok tk_MRm_chance rfl
theorem d_MRm_chance_70 : decode MRm_chance.2.2.1 70 = .ok (.istore 4, 2) := lkT_ok tk_MRm_chance rfl
theorem d_MRm_chance_72 : decode MRm_chance.2.2.1 72 = .ok (.iload 4, 2) := lkT_ok tk_MRm_chance rfl
theorem d_MRm_chance_74 : decode MRm_chance.2.2.1 74 = .ok (.iload_n 1, 1) := lkT_ok tk_MRm_chance rfl
theorem d_MRm_chance_75 : decode MRm_chance.2.2.1 75 = .ok (.if_icmp .ge 42, 3) := lkT_ok tk_MRm_chance rfl
theorem d_MRm_chance_78 : decode MRm_chance.2.2.1 78 = .ok (.iload_n 1, 1) := lkT_ok tk_MRm_chance rfl
theorem d_MRm_chance_79 : decode MRm_chance.2.2.1 79 = .ok (.istore 5, 2) := lkT_ok tk_MRm_chance rfl
theorem d_MRm_chance_81 : decode MRm_chance.2.2.1 81 = .ok (.iload 5, 2) := lkT_ok tk_MRm_chance rfl
theorem d_MRm_chance_83 : decode MRm_chance.2.2.1 83 = .ok (.ifCond .le 28, 3) := lkT_ok tk_MRm_chance rfl
theorem d_MRm_chance_86 : decode MRm_chance.2.2.1 86 = .ok (.aload_n 0, 1) := lkT_ok tk_MRm_chance rfl
theorem d_MRm_chance_87 : decode MRm_chance.2.2.1 87 = .ok (.getfield 82, 3) := lkT_ok tk_MRm_chance rfl
theorem d_MRm_chance_90 : decode MRm_chance.2.2.1 90 = .ok (.iload 5, 2) := lkT_ok tk_MRm_chance rfl
theorem d_MRm_chance_92 : decode MRm_chance.2.2.1 92 = .ok (.dup2, 1) := lkT_ok tk_MRm_chance rfl
theorem d_MRm_chance_93 : decode MRm_chance.2.2.1 93 = .ok (.laload, 1) := lkT_ok tk_MRm_chance rfl
theorem d_MRm_chance_94 : decode MRm_chance.2.2.1 94 = .ok (.aload_n 0, 1) := lkT_ok tk_MRm_chance rfl
theorem d_MRm_chance_95 : decode MRm_chance.2.2.1 95 = .ok (.getfield 82, 3) := lkT_ok tk_MRm_chance rfl
theorem d_MRm_chance_98 : decode MRm_chance.2.2.1 98 = .ok (.iload 5, 2) := lkT_ok tk_MRm_chance rfl
theorem d_MRm_chance_100 : decode MRm_chance.2.2.1 100 = .ok (.iconst 1, 1) := lkT_ok tk_MRm_chance rfl
theorem d_MRm_chance_101 : decode MRm_chance.2.2.1 101 = .ok (.isub, 1) := lkT_ok tk_MRm_chance rfl
theorem d_MRm_chance_102 : decode MRm_chance.2.2.1 102 = .ok (.laload, 1) := lkT_ok tk_MRm_chance rfl
theorem d_MRm_chance_103 : decode MRm_chance.2.2.1 103 = .ok (.ladd, 1) := lkT_ok tk_MRm_chance rfl
theorem d_MRm_chance_104 : decode MRm_chance.2.2.1 104 = .ok (.lastore, 1) := lkT_ok tk_MRm_chance rfl
theorem d_MRm_chance_105 : decode MRm_chance.2.2.1 105 = .ok (.iinc 5 (-1), 3) := lkT_ok tk_MRm_chance rfl
theorem d_MRm_chance_108 : decode MRm_chance.2.2.1 108 = .ok (.goto (-27), 3) := lkT_ok tk_MRm_chance rfl
theorem d_MRm_chance_111 : decode MRm_chance.2.2.1 111 = .ok (.iinc 4 1, 3) := lkT_ok tk_MRm_chance rfl
theorem d_MRm_chance_114 : decode MRm_chance.2.2.1 114 = .ok (.goto (-42), 3) := lkT_ok tk_MRm_chance rfl
theorem d_MRm_chance_117 : decode MRm_chance.2.2.1 117 = .ok (.lconst 0, 1) := lkT_ok tk_MRm_chance rfl
theorem d_MRm_chance_118 : decode MRm_chance.2.2.1 118 = .ok (.lstore 4, 2) := lkT_ok tk_MRm_chance rfl
theorem d_MRm_chance_120 : decode MRm_chance.2.2.1 120 = .ok (.lconst 0, 1) := lkT_ok tk_MRm_chance rfl
theorem d_MRm_chance_121 : decode MRm_chance.2.2.1 121 = .ok (.lstore 6, 2) := lkT_ok tk_MRm_chance rfl
theorem d_MRm_chance_123 : decode MRm_chance.2.2.1 123 = .ok (.iconst 0, 1) := lkT_ok tk_MRm_chance rfl
theorem d_MRm_chance_124 : decode MRm_chance.2.2.1 124 = .ok (.istore 8, 2) := lkT_ok tk_MRm_chance rfl
theorem d_MRm_chance_126 : decode MRm_chance.2.2.1 126 = .ok (.iload 8, 2) := lkT_ok tk_MRm_chance rfl
theorem d_MRm_chance_128 : decode MRm_chance.2.2.1 128 = .ok (.iload_n 1, 1) := lkT_ok tk_MRm_chance rfl
theorem d_MRm_chance_129 : decode MRm_chance.2.2.1 129 = .ok (.if_icmp .gt 47, 3) := lkT_ok tk_MRm_chance rfl
theorem d_MRm_chance_132 : decode MRm_chance.2.2.1 132 = .ok (.lload 4, 2) := lkT_ok tk_MRm_chance rfl
theorem d_MRm_chance_134 : decode MRm_chance.2.2.1 134 = .ok (.aload_n 0, 1) := lkT_ok tk_MRm_chance rfl
theorem d_MRm_chance_135 : decode MRm_chance.2.2.1 135 = .ok (.getfield 82, 3) := lkT_ok tk_MRm_chance rfl
theorem d_MRm_chance_138 : decode MRm_chance.2.2.1 138 = .ok (.iload 8, 2) := lkT_ok tk_MRm_chance rfl
theorem d_MRm_chance_140 : decode MRm_chance.2.2.1 140 = .ok (.laload, 1) := lkT_ok tk_MRm_chance rfl
theorem d_MRm_chance_141 : decode MRm_chance.2.2.1 141 = .ok (.ladd, 1) := lkT_ok tk_MRm_chance rfl
theorem d_MRm_chance_142 : decode MRm_chance.2.2.1 142 = .ok (.lstore 4, 2) := lkT_ok tk_MRm_chance rfl
theorem d_MRm_chance_144 : decode MRm_chance.2.2.1 144 = .ok (.iload 8, 2) := lkT_ok tk_MRm_chance rfl
theorem d_MRm_chance_146 : decode MRm_chance.2.2.1 146 = .ok (.iload_n 3, 1) := lkT_ok tk_MRm_chance rfl
theorem d_MRm_chance_147 : decode MRm_chance.2.2.1 147 = .ok (.if_icmp .ge 11, 3) := lkT_ok tk_MRm_chance rfl
theorem d_MRm_chance_150 : decode MRm_chance.2.2.1 150 = .ok (.iload_n 1, 1) := lkT_ok tk_MRm_chance rfl
theorem d_MRm_chance_151 : decode MRm_chance.2.2.1 151 = .ok (.iload 8, 2) := lkT_ok tk_MRm_chance rfl
theorem d_MRm_chance_153 : decode MRm_chance.2.2.1 153 = .ok (.isub, 1) := lkT_ok tk_MRm_chance rfl
theorem d_MRm_chance_154 : decode MRm_chance.2.2.1 154 = .ok (.iload_n 3, 1) := lkT_ok tk_MRm_chance rfl
theorem d_MRm_chance_155 : decode MRm_chance.2.2.1 155 = .ok (.if_icmp .lt 15, 3) := lkT_ok tk_MRm_chance rfl
theorem d_MRm_chance_158 : decode MRm_chance.2.2.1 158 = .ok (.lload 6, 2) := lkT_ok tk_MRm_chance rfl
theorem d_MRm_chance_160 : decode MRm_chance.2.2.1 160 = .ok (.aload_n 0, 1) := lkT_ok tk_MRm_chance rfl
theorem d_MRm_chance_161 : decode MRm_chance.2.2.1 161 = .ok (.getfield 82, 3) := lkT_ok tk_MRm_chance rfl
theorem d_MRm_chance_164 : decode MRm_chance.2.2.1 164 = .ok (.iload 8, 2) := lkT_ok tk_MRm_chance rfl
theorem d_MRm_chance_166 : decode MRm_chance.2.2.1 166 = .ok (.laload, 1) := lkT_ok tk_MRm_chance rfl
theorem d_MRm_chance_167 : decode MRm_chance.2.2.1 167 = .ok (.ladd, 1) := lkT_ok tk_MRm_chance rfl
theorem d_MRm_chance_168 : decode MRm_chance.2.2.1 168 = .ok (.lstore 6, 2) := lkT_ok tk_MRm_chance rfl
theorem d_MRm_chance_170 : decode MRm_chance.2.2.1 170 = .ok (.iinc 8 1, 3) := lkT_ok tk_MRm_chance rfl
theorem d_MRm_chance_173 : decode MRm_chance.2.2.1 173 = .ok (.goto (-47), 3) := lkT_ok tk_MRm_chance rfl
theorem d_MRm_chance_176 : decode MRm_chance.2.2.1 176 = .ok (.lload 6, 2) := lkT_ok tk_MRm_chance rfl
theorem d_MRm_chance_178 : decode MRm_chance.2.2.1 178 = .ok (.ldc2_w 354, 3) := lkT_ok tk_MRm_chance rfl
theorem d_MRm_chance_181 : decode MRm_chance.2.2.1 181 = .ok (.lmul, 1) := lkT_ok tk_MRm_chance rfl
theorem d_MRm_chance_182 : decode MRm_chance.2.2.1 182 = .ok (.lload 4, 2) := lkT_ok tk_MRm_chance rfl
theorem d_MRm_chance_184 : decode MRm_chance.2.2.1 184 = .ok (.ldiv, 1) := lkT_ok tk_MRm_chance rfl
theorem d_MRm_chance_185 : decode MRm_chance.2.2.1 185 = .ok (.l2i, 1) := lkT_ok tk_MRm_chance rfl
theorem d_MRm_chance_186 : decode MRm_chance.2.2.1 186 = .ok (.ireturn, 1) := lkT_ok tk_MRm_chance rfl
theorem r_MRm_chance_0 {l0 l2 l3 l4 l5 l6 l7 l8 : Value} {x : Int32} : Rr X d MRm_chance 0 [l0, .int x, l2, l3, l4, l5, l6, l7, l8] st h = Rr X d MRm_chance 1 [l0, .int x, l2, l3, l4, l5, l6, l7, l8] (.int x :: st) h := Rr_nx d_MRm_chance_0 rfl
theorem r_MRm_chance_1 : Rr X d MRm_chance 1 L st h = Rr X d MRm_chance 2 L (.int (1) :: st) h := Rr_nx d_MRm_chance_1 rfl
theorem r_MRm_chance_2 : Rr X d MRm_chance 2 L st h = Rr X d MRm_chance 4 L (.int (40) :: st) h := Rr_nx d_MRm_chance_2 rfl
theorem r_MRm_chance_4 {y0 : Int32} {y1 : Int32} {y2 : Int32} (hc : ckS st = true) : Rr X (d + 1) MRm_chance 4 L (.int y2 :: .int y1 :: .int y0 :: st) h = (Rr X d MRm_in 0 [.int y0, .int y1, .int y2] [] h).bind fun q => Rr X (d + 1) MRm_chance 7 L (psh q.1 st) q.2 := R_is (av := [.int y2, .int y1, .int y0]) d_MRm_chance_4 (Or.inl fc_10_107) (ckS_le hc) rfl (Nat.le_of_ble_eq_true rfl) (Nat.le_of_ble_eq_true rfl)
theorem r_MRm_chance_7 {x : Int32} : Rr X d MRm_chance 7 L (.int x :: st) h = if x = 0 then Rr X d MRm_chance 19 L st h else Rr X d MRm_chance 10 L st h := R_if_eq d_MRm_chance_7 (by decide)
theorem r_MRm_chance_10 {l0 l1 l3 l4 l5 l6 l7 l8 : Value} {x : Int32} : Rr X d MRm_chance 10 [l0, l1, .int x, l3, l4, l5, l6, l7, l8] st h = Rr X d MRm_chance 11 [l0, l1, .int x, l3, l4, l5, l6, l7, l8] (.int x :: st) h := Rr_nx d_MRm_chance_10 rfl
theorem r_MRm_chance_11 : Rr X d MRm_chance 11 L st h = Rr X d MRm_chance 12 L (.int (0) :: st) h := Rr_nx d_MRm_chance_11 rfl
theorem r_MRm_chance_12 {l0 l2 l3 l4 l5 l6 l7 l8 : Value} {x : Int32} : Rr X d MRm_chance 12 [l0, .int x, l2, l3, l4, l5, l6, l7, l8] st h = Rr X d MRm_chance 13 [l0, .int x, l2, l3, l4, l5, l6, l7, l8] (.int x :: st) h := Rr_nx d_MRm_chance_12 rfl
theorem r_MRm_chance_13 {y0 : Int32} {y1 : Int32} {y2 : Int32} (hc : ckS st = true) : Rr X (d + 1) MRm_chance 13 L (.int y2 :: .int y1 :: .int y0 :: st) h = (Rr X d MRm_in 0 [.int y0, .int y1, .int y2] [] h).bind fun q => Rr X (d + 1) MRm_chance 16 L (psh q.1 st) q.2 := R_is (av := [.int y2, .int y1, .int y0]) d_MRm_chance_13 (Or.inl fc_10_107) (ckS_le hc) rfl (Nat.le_of_ble_eq_true rfl) (Nat.le_of_ble_eq_true rfl)
theorem r_MRm_chance_16 {x : Int32} : Rr X d MRm_chance 16 L (.int x :: st) h = if ¬ x = 0 then Rr X d MRm_chance 21 L st h else Rr X d MRm_chance 19 L st h := R_if_ne d_MRm_chance_16 (by decide)
theorem r_MRm_chance_19 : Rr X d MRm_chance 19 L st h = Rr X d MRm_chance 20 L (.int (-1) :: st) h := Rr_nx d_MRm_chance_19 rfl
theorem r_MRm_chance_20 {x : Int32} : Rr X d MRm_chance 20 L [.int x] h = some (some (.int x), h) := R_ir d_MRm_chance_20 rfl
theorem r_MRm_chance_21 {l0 l1 l3 l4 l5 l6 l7 l8 : Value} {x : Int32} : Rr X d MRm_chance 21 [l0, l1, .int x, l3, l4, l5, l6, l7, l8] st h = Rr X d MRm_chance 22 [l0, l1, .int x, l3, l4, l5, l6, l7, l8] (.int x :: st) h := Rr_nx d_MRm_chance_21 rfl
theorem r_MRm_chance_22 {l0 l2 l3 l4 l5 l6 l7 l8 : Value} {x : Int32} : Rr X d MRm_chance 22 [l0, .int x, l2, l3, l4, l5, l6, l7, l8] st h = Rr X d MRm_chance 23 [l0, .int x, l2, l3, l4, l5, l6, l7, l8] (.int x :: st) h := Rr_nx d_MRm_chance_22 rfl
theorem r_MRm_chance_23 {l0 l1 l3 l4 l5 l6 l7 l8 : Value} {x : Int32} : Rr X d MRm_chance 23 [l0, l1, .int x, l3, l4, l5, l6, l7, l8] st h = Rr X d MRm_chance 24 [l0, l1, .int x, l3, l4, l5, l6, l7, l8] (.int x :: st) h := Rr_nx d_MRm_chance_23 rfl
theorem r_MRm_chance_24 {x y : Int32} : Rr X d MRm_chance 24 L (.int y :: .int x :: st) h = Rr X d MRm_chance 25 L (.int (x - y) :: st) h := Rr_nx d_MRm_chance_24 rfl
theorem r_MRm_chance_25 {x y : Int32} : Rr X d MRm_chance 25 L (.int y :: .int x :: st) h = if x ≤ y then Rr X d MRm_chance 32 L st h else Rr X d MRm_chance 28 L st h := R_ic_le d_MRm_chance_25 (by decide)
theorem r_MRm_chance_28 {l0 l1 l3 l4 l5 l6 l7 l8 : Value} {x : Int32} : Rr X d MRm_chance 28 [l0, l1, .int x, l3, l4, l5, l6, l7, l8] st h = Rr X d MRm_chance 29 [l0, l1, .int x, l3, l4, l5, l6, l7, l8] (.int x :: st) h := Rr_nx d_MRm_chance_28 rfl
theorem r_MRm_chance_29 : Rr X d MRm_chance 29 L st h = Rr X d MRm_chance 35 L st h := R_goto d_MRm_chance_29 (by decide)
theorem r_MRm_chance_32 {l0 l2 l3 l4 l5 l6 l7 l8 : Value} {x : Int32} : Rr X d MRm_chance 32 [l0, .int x, l2, l3, l4, l5, l6, l7, l8] st h = Rr X d MRm_chance 33 [l0, .int x, l2, l3, l4, l5, l6, l7, l8] (.int x :: st) h := Rr_nx d_MRm_chance_32 rfl
theorem r_MRm_chance_33 {l0 l1 l3 l4 l5 l6 l7 l8 : Value} {x : Int32} : Rr X d MRm_chance 33 [l0, l1, .int x, l3, l4, l5, l6, l7, l8] st h = Rr X d MRm_chance 34 [l0, l1, .int x, l3, l4, l5, l6, l7, l8] (.int x :: st) h := Rr_nx d_MRm_chance_33 rfl
theorem r_MRm_chance_34 {x y : Int32} : Rr X d MRm_chance 34 L (.int y :: .int x :: st) h = Rr X d MRm_chance 35 L (.int (x - y) :: st) h := Rr_nx d_MRm_chance_34 rfl
theorem r_MRm_chance_35 {l0 l1 l2 l3 l4 l5 l6 l7 l8 : Value} {x : Int32} : Rr X d MRm_chance 35 [l0, l1, l2, l3, l4, l5, l6, l7, l8] (.int x :: st) h = Rr X d MRm_chance 36 (sL [l0, l1, l2, l3, l4, l5, l6, l7, l8] 3 (.int x)) st h := Rr_nx d_MRm_chance_35 rfl
theorem r_MRm_chance_36 : Rr X d MRm_chance 36 L st h = Rr X d MRm_chance 37 L (.int (0) :: st) h := Rr_nx d_MRm_chance_36 rfl
theorem r_MRm_chance_37 {l0 l1 l2 l3 l4 l5 l6 l7 l8 : Value} {x : Int32} : Rr X d MRm_chance 37 [l0, l1, l2, l3, l4, l5, l6, l7, l8] (.int x :: st) h = Rr X d MRm_chance 39 (sL [l0, l1, l2, l3, l4, l5, l6, l7, l8] 4 (.int x)) st h := Rr_nx d_MRm_chance_37 rfl
theorem r_MRm_chance_39 {l0 l1 l2 l3 l5 l6 l7 l8 : Value} {x : Int32} : Rr X d MRm_chance 39 [l0, l1, l2, l3, .int x, l5, l6, l7, l8] st h = Rr X d MRm_chance 41 [l0, l1, l2, l3, .int x, l5, l6, l7, l8] (.int x :: st) h := Rr_nx d_MRm_chance_39 rfl
theorem r_MRm_chance_41 : Rr X d MRm_chance 41 L st h = Rr X d MRm_chance 43 L (.int (40) :: st) h := Rr_nx d_MRm_chance_41 rfl
theorem r_MRm_chance_43 {x y : Int32} : Rr X d MRm_chance 43 L (.int y :: .int x :: st) h = if y < x then Rr X d MRm_chance 69 L st h else Rr X d MRm_chance 46 L st h := R_ic_gt d_MRm_chance_43 (by decide)
theorem r_MRm_chance_46 {l1 l2 l3 l4 l5 l6 l7 l8 : Value} {x : Nat} : Rr X d MRm_chance 46 [.ref x, l1, l2, l3, l4, l5, l6, l7, l8] st h = Rr X d MRm_chance 47 [.ref x, l1, l2, l3, l4, l5, l6, l7, l8] (.ref x :: st) h := Rr_nx d_MRm_chance_46 rfl
theorem ff_10_82 : fF 10 82 = some (10, 50, 1, 1) := rfl
theorem r_MRm_chance_47 {a : Nat} (hq : (qR a 10 50).isSome = true) : Rr X d MRm_chance 47 L (.ref a :: st) (Wd mu la ro et) = Rr X d MRm_chance 50 L (.ref (qRd a 10 50) :: st) (Wd mu la ro et) := R_gfR d_MRm_chance_47 ff_10_82 hq
theorem r_MRm_chance_50 {l0 l1 l2 l3 l5 l6 l7 l8 : Value} {x : Int32} : Rr X d MRm_chance 50 [l0, l1, l2, l3, .int x, l5, l6, l7, l8] st h = Rr X d MRm_chance 52 [l0, l1, l2, l3, .int x, l5, l6, l7, l8] (.int x :: st) h := Rr_nx d_MRm_chance_50 rfl
theorem r_MRm_chance_52 {l0 l1 l2 l3 l5 l6 l7 l8 : Value} {x : Int32} : Rr X d MRm_chance 52 [l0, l1, l2, l3, .int x, l5, l6, l7, l8] st h = Rr X d MRm_chance 54 [l0, l1, l2, l3, .int x, l5, l6, l7, l8] (.int x :: st) h := Rr_nx d_MRm_chance_52 rfl
theorem r_MRm_chance_54 {x : Int32} : Rr X d MRm_chance 54 L (.int x :: st) h = if ¬ x = 0 then Rr X d MRm_chance 61 L st h else Rr X d MRm_chance 57 L st h := R_if_ne d_MRm_chance_54 (by decide)
theorem r_MRm_chance_57 : Rr X d MRm_chance 57 L st h = Rr X d MRm_chance 58 L (.long 1 :: st) h := Rr_nx d_MRm_chance_57 rfl
theorem r_MRm_chance_58 : Rr X d MRm_chance 58 L st h = Rr X d MRm_chance 62 L st h := R_goto d_MRm_chance_58 (by decide)
theorem r_MRm_chance_61 : Rr X d MRm_chance 61 L st h = Rr X d MRm_chance 62 L (.long 0 :: st) h := Rr_nx d_MRm_chance_61 rfl
theorem r_MRm_chance_62 {a : Nat} {j : Int32} {x : Int64} (hq : (qJ a).isSome = true) : Rr X d MRm_chance 62 L (.long x :: .int j :: .ref a :: st) (Wd mu la ro et) = if j < 0 ∨ qJd a ≤ j.toNatClampNeg then none else Rr X d MRm_chance 63 L st (Wd mu (upJ la a j.toNatClampNeg x) ro et) := R_lasW d_MRm_chance_62 hq
theorem r_MRm_chance_63 {l0 l1 l2 l3 l5 l6 l7 l8 : Value} {x : Int32} : Rr X d MRm_chance 63 [l0, l1, l2, l3, .int x, l5, l6, l7, l8] st h = Rr X d MRm_chance 66 (sL [l0, l1, l2, l3, .int x, l5, l6, l7, l8] 4 (.int (x + (1)))) st h := Rr_nx d_MRm_chance_63 rfl
theorem r_MRm_chance_66 : Rr X d MRm_chance 66 L st h = Rr X d MRm_chance 39 L st h := R_goto d_MRm_chance_66 (by decide)
theorem r_MRm_chance_69 : Rr X d MRm_chance 69 L st h = Rr X d MRm_chance 70 L (.int (0) :: st) h := Rr_nx d_MRm_chance_69 rfl
theorem r_MRm_chance_70 {l0 l1 l2 l3 l4 l5 l6 l7 l8 : Value} {x : Int32} : Rr X d MRm_chance 70 [l0, l1, l2, l3, l4, l5, l6, l7, l8] (.int x :: st) h = Rr X d MRm_chance 72 (sL [l0, l1, l2, l3, l4, l5, l6, l7, l8] 4 (.int x)) st h := Rr_nx d_MRm_chance_70 rfl
theorem r_MRm_chance_72 {l0 l1 l2 l3 l5 l6 l7 l8 : Value} {x : Int32} : Rr X d MRm_chance 72 [l0, l1, l2, l3, .int x, l5, l6, l7, l8] st h = Rr X d MRm_chance 74 [l0, l1, l2, l3, .int x, l5, l6, l7, l8] (.int x :: st) h := Rr_nx d_MRm_chance_72 rfl
theorem r_MRm_chance_74 {l0 l2 l3 l4 l5 l6 l7 l8 : Value} {x : Int32} : Rr X d MRm_chance 74 [l0, .int x, l2, l3, l4, l5, l6, l7, l8] st h = Rr X d MRm_chance 75 [l0, .int x, l2, l3, l4, l5, l6, l7, l8] (.int x :: st) h := Rr_nx d_MRm_chance_74 rfl
theorem r_MRm_chance_75 {x y : Int32} : Rr X d MRm_chance 75 L (.int y :: .int x :: st) h = if y ≤ x then Rr X d MRm_chance 117 L st h else Rr X d MRm_chance 78 L st h := R_ic_ge d_MRm_chance_75 (by decide)
theorem r_MRm_chance_78 {l0 l2 l3 l4 l5 l6 l7 l8 : Value} {x : Int32} : Rr X d MRm_chance 78 [l0, .int x, l2, l3, l4, l5, l6, l7, l8] st h = Rr X d MRm_chance 79 [l0, .int x, l2, l3, l4, l5, l6, l7, l8] (.int x :: st) h := Rr_nx d_MRm_chance_78 rfl
theorem r_MRm_chance_79 {l0 l1 l2 l3 l4 l5 l6 l7 l8 : Value} {x : Int32} : Rr X d MRm_chance 79 [l0, l1, l2, l3, l4, l5, l6, l7, l8] (.int x :: st) h = Rr X d MRm_chance 81 (sL [l0, l1, l2, l3, l4, l5, l6, l7, l8] 5 (.int x)) st h := Rr_nx d_MRm_chance_79 rfl
theorem r_MRm_chance_81 {l0 l1 l2 l3 l4 l6 l7 l8 : Value} {x : Int32} : Rr X d MRm_chance 81 [l0, l1, l2, l3, l4, .int x, l6, l7, l8] st h = Rr X d MRm_chance 83 [l0, l1, l2, l3, l4, .int x, l6, l7, l8] (.int x :: st) h := Rr_nx d_MRm_chance_81 rfl
theorem r_MRm_chance_83 {x : Int32} : Rr X d MRm_chance 83 L (.int x :: st) h = if x ≤ 0 then Rr X d MRm_chance 111 L st h else Rr X d MRm_chance 86 L st h := R_if_le d_MRm_chance_83 (by decide)
theorem r_MRm_chance_86 {l1 l2 l3 l4 l5 l6 l7 l8 : Value} {x : Nat} : Rr X d MRm_chance 86 [.ref x, l1, l2, l3, l4, l5, l6, l7, l8] st h = Rr X d MRm_chance 87 [.ref x, l1, l2, l3, l4, l5, l6, l7, l8] (.ref x :: st) h := Rr_nx d_MRm_chance_86 rfl
theorem r_MRm_chance_87 {a : Nat} (hq : (qR a 10 50).isSome = true) : Rr X d MRm_chance 87 L (.ref a :: st) (Wd mu la ro et) = Rr X d MRm_chance 90 L (.ref (qRd a 10 50) :: st) (Wd mu la ro et) := R_gfR d_MRm_chance_87 ff_10_82 hq
theorem r_MRm_chance_90 {l0 l1 l2 l3 l4 l6 l7 l8 : Value} {x : Int32} : Rr X d MRm_chance 90 [l0, l1, l2, l3, l4, .int x, l6, l7, l8] st h = Rr X d MRm_chance 92 [l0, l1, l2, l3, l4, .int x, l6, l7, l8] (.int x :: st) h := Rr_nx d_MRm_chance_90 rfl
theorem r_MRm_chance_92 {x : Int32} {y : Nat} : Rr X d MRm_chance 92 L (.int x :: .ref y :: st) h = Rr X d MRm_chance 93 L (.int x :: .ref y :: .int x :: .ref y :: st) h := Rr_nx d_MRm_chance_92 rfl
theorem r_MRm_chance_93 {a : Nat} {j : Int32} (hq : (qJ a).isSome = true) : Rr X d MRm_chance 93 L (.int j :: .ref a :: st) (Wd mu la ro et) = if j < 0 ∨ qJd a ≤ j.toNatClampNeg then none else Rr X d MRm_chance 94 L (.long (la a j.toNatClampNeg) :: st) (Wd mu la ro et) := R_lalW d_MRm_chance_93 hq
theorem r_MRm_chance_94 {l1 l2 l3 l4 l5 l6 l7 l8 : Value} {x : Nat} : Rr X d MRm_chance 94 [.ref x, l1, l2, l3, l4, l5, l6, l7, l8] st h = Rr X d MRm_chance 95 [.ref x, l1, l2, l3, l4, l5, l6, l7, l8] (.ref x :: st) h := Rr_nx d_MRm_chance_94 rfl
theorem r_MRm_chance_95 {a : Nat} (hq : (qR a 10 50).isSome = true) : Rr X d MRm_chance 95 L (.ref a :: st) (Wd mu la ro et) = Rr X d MRm_chance 98 L (.ref (qRd a 10 50) :: st) (Wd mu la ro et) := R_gfR d_MRm_chance_95 ff_10_82 hq
theorem r_MRm_chance_98 {l0 l1 l2 l3 l4 l6 l7 l8 : Value} {x : Int32} : Rr X d MRm_chance 98 [l0, l1, l2, l3, l4, .int x, l6, l7, l8] st h = Rr X d MRm_chance 100 [l0, l1, l2, l3, l4, .int x, l6, l7, l8] (.int x :: st) h := Rr_nx d_MRm_chance_98 rfl
theorem r_MRm_chance_100 : Rr X d MRm_chance 100 L st h = Rr X d MRm_chance 101 L (.int (1) :: st) h := Rr_nx d_MRm_chance_100 rfl
theorem r_MRm_chance_101 {x y : Int32} : Rr X d MRm_chance 101 L (.int y :: .int x :: st) h = Rr X d MRm_chance 102 L (.int (x - y) :: st) h := Rr_nx d_MRm_chance_101 rfl
theorem r_MRm_chance_102 {a : Nat} {j : Int32} (hq : (qJ a).isSome = true) : Rr X d MRm_chance 102 L (.int j :: .ref a :: st) (Wd mu la ro et) = if j < 0 ∨ qJd a ≤ j.toNatClampNeg then none else Rr X d MRm_chance 103 L (.long (la a j.toNatClampNeg) :: st) (Wd mu la ro et) := R_lalW d_MRm_chance_102 hq
theorem r_MRm_chance_103 {x y : Int64} : Rr X d MRm_chance 103 L (.long y :: .long x :: st) h = Rr X d MRm_chance 104 L (.long (x + y) :: st) h := Rr_nx d_MRm_chance_103 rfl
theorem r_MRm_chance_104 {a : Nat} {j : Int32} {x : Int64} (hq : (qJ a).isSome = true) : Rr X d MRm_chance 104 L (.long x :: .int j :: .ref a :: st) (Wd mu la ro et) = if j < 0 ∨ qJd a ≤ j.toNatClampNeg then none else Rr X d MRm_chance 105 L st (Wd mu (upJ la a j.toNatClampNeg x) ro et) := R_lasW d_MRm_chance_104 hq
theorem r_MRm_chance_105 {l0 l1 l2 l3 l4 l6 l7 l8 : Value} {x : Int32} : Rr X d MRm_chance 105 [l0, l1, l2, l3, l4, .int x, l6, l7, l8] st h = Rr X d MRm_chance 108 (sL [l0, l1, l2, l3, l4, .int x, l6, l7, l8] 5 (.int (x + (-1)))) st h := Rr_nx d_MRm_chance_105 rfl
theorem r_MRm_chance_108 : Rr X d MRm_chance 108 L st h = Rr X d MRm_chance 81 L st h := R_goto d_MRm_chance_108 (by decide)
theorem r_MRm_chance_111 {l0 l1 l2 l3 l5 l6 l7 l8 : Value} {x : Int32} : Rr X d MRm_chance 111 [l0, l1, l2, l3, .int x, l5, l6, l7, l8] st h = Rr X d MRm_chance 114 (sL [l0, l1, l2, l3, .int x, l5, l6, l7, l8] 4 (.int (x + (1)))) st h := Rr_nx d_MRm_chance_111 rfl
theorem r_MRm_chance_114 : Rr X d MRm_chance 114 L st h = Rr X d MRm_chance 72 L st h := R_goto d_MRm_chance_114 (by decide)
theorem r_MRm_chance_117 : Rr X d MRm_chance 117 L st h = Rr X d MRm_chance 118 L (.long 0 :: st) h := Rr_nx d_MRm_chance_117 rfl
theorem r_MRm_chance_118 {l0 l1 l2 l3 l4 l5 l6 l7 l8 : Value} {x : Int64} : Rr X d MRm_chance 118 [l0, l1, l2, l3, l4, l5, l6, l7, l8] (.long x :: st) h = Rr X d MRm_chance 120 ((sL [l0, l1, l2, l3, l4, l5, l6, l7, l8] 4 (.long x)).set 5 mkU) st h := Rr_nx d_MRm_chance_118 rfl
theorem r_MRm_chance_120 : Rr X d MRm_chance 120 L st h = Rr X d MRm_chance 121 L (.long 0 :: st) h := Rr_nx d_MRm_chance_120 rfl
theorem r_MRm_chance_121 {l0 l1 l2 l3 l4 l5 l6 l7 l8 : Value} {x : Int64} : Rr X d MRm_chance 121 [l0, l1, l2, l3, l4, l5, l6, l7, l8] (.long x :: st) h = Rr X d MRm_chance 123 ((sL [l0, l1, l2, l3, l4, l5, l6, l7, l8] 6 (.long x)).set 7 mkU) st h := Rr_nx d_MRm_chance_121 rfl
theorem r_MRm_chance_123 : Rr X d MRm_chance 123 L st h = Rr X d MRm_chance 124 L (.int (0) :: st) h := Rr_nx d_MRm_chance_123 rfl
theorem r_MRm_chance_124 {l0 l1 l2 l3 l4 l5 l6 l7 l8 : Value} {x : Int32} : Rr X d MRm_chance 124 [l0, l1, l2, l3, l4, l5, l6, l7, l8] (.int x :: st) h = Rr X d MRm_chance 126 (sL [l0, l1, l2, l3, l4, l5, l6, l7, l8] 8 (.int x)) st h := Rr_nx d_MRm_chance_124 rfl
theorem r_MRm_chance_126 {l0 l1 l2 l3 l4 l5 l6 l7 : Value} {x : Int32} : Rr X d MRm_chance 126 [l0, l1, l2, l3, l4, l5, l6, l7, .int x] st h = Rr X d MRm_chance 128 [l0, l1, l2, l3, l4, l5, l6, l7, .int x] (.int x :: st) h := Rr_nx d_MRm_chance_126 rfl
theorem r_MRm_chance_128 {l0 l2 l3 l4 l5 l6 l7 l8 : Value} {x : Int32} : Rr X d MRm_chance 128 [l0, .int x, l2, l3, l4, l5, l6, l7, l8] st h = Rr X d MRm_chance 129 [l0, .int x, l2, l3, l4, l5, l6, l7, l8] (.int x :: st) h := Rr_nx d_MRm_chance_128 rfl
theorem r_MRm_chance_129 {x y : Int32} : Rr X d MRm_chance 129 L (.int y :: .int x :: st) h = if y < x then Rr X d MRm_chance 176 L st h else Rr X d MRm_chance 132 L st h := R_ic_gt d_MRm_chance_129 (by decide)
theorem r_MRm_chance_132 {l0 l1 l2 l3 l5 l6 l7 l8 : Value} {x : Int64} : Rr X d MRm_chance 132 [l0, l1, l2, l3, .long x, l5, l6, l7, l8] st h = Rr X d MRm_chance 134 [l0, l1, l2, l3, .long x, l5, l6, l7, l8] (.long x :: st) h := Rr_nx d_MRm_chance_132 rfl
theorem r_MRm_chance_134 {l1 l2 l3 l4 l5 l6 l7 l8 : Value} {x : Nat} : Rr X d MRm_chance 134 [.ref x, l1, l2, l3, l4, l5, l6, l7, l8] st h = Rr X d MRm_chance 135 [.ref x, l1, l2, l3, l4, l5, l6, l7, l8] (.ref x :: st) h := Rr_nx d_MRm_chance_134 rfl
theorem r_MRm_chance_135 {a : Nat} (hq : (qR a 10 50).isSome = true) : Rr X d MRm_chance 135 L (.ref a :: st) (Wd mu la ro et) = Rr X d MRm_chance 138 L (.ref (qRd a 10 50) :: st) (Wd mu la ro et) := R_gfR d_MRm_chance_135 ff_10_82 hq
theorem r_MRm_chance_138 {l0 l1 l2 l3 l4 l5 l6 l7 : Value} {x : Int32} : Rr X d MRm_chance 138 [l0, l1, l2, l3, l4, l5, l6, l7, .int x] st h = Rr X d MRm_chance 140 [l0, l1, l2, l3, l4, l5, l6, l7, .int x] (.int x :: st) h := Rr_nx d_MRm_chance_138 rfl
theorem r_MRm_chance_140 {a : Nat} {j : Int32} (hq : (qJ a).isSome = true) : Rr X d MRm_chance 140 L (.int j :: .ref a :: st) (Wd mu la ro et) = if j < 0 ∨ qJd a ≤ j.toNatClampNeg then none else Rr X d MRm_chance 141 L (.long (la a j.toNatClampNeg) :: st) (Wd mu la ro et) := R_lalW d_MRm_chance_140 hq
theorem r_MRm_chance_141 {x y : Int64} : Rr X d MRm_chance 141 L (.long y :: .long x :: st) h = Rr X d MRm_chance 142 L (.long (x + y) :: st) h := Rr_nx d_MRm_chance_141 rfl
theorem r_MRm_chance_142 {l0 l1 l2 l3 l4 l5 l6 l7 l8 : Value} {x : Int64} : Rr X d MRm_chance 142 [l0, l1, l2, l3, l4, l5, l6, l7, l8] (.long x :: st) h = Rr X d MRm_chance 144 ((sL [l0, l1, l2, l3, l4, l5, l6, l7, l8] 4 (.long x)).set 5 mkU) st h := Rr_nx d_MRm_chance_142 rfl
theorem r_MRm_chance_144 {l0 l1 l2 l3 l4 l5 l6 l7 : Value} {x : Int32} : Rr X d MRm_chance 144 [l0, l1, l2, l3, l4, l5, l6, l7, .int x] st h = Rr X d MRm_chance 146 [l0, l1, l2, l3, l4, l5, l6, l7, .int x] (.int x :: st) h := Rr_nx d_MRm_chance_144 rfl
theorem r_MRm_chance_146 {l0 l1 l2 l4 l5 l6 l7 l8 : Value} {x : Int32} : Rr X d MRm_chance 146 [l0, l1, l2, .int x, l4, l5, l6, l7, l8] st h = Rr X d MRm_chance 147 [l0, l1, l2, .int x, l4, l5, l6, l7, l8] (.int x :: st) h := Rr_nx d_MRm_chance_146 rfl
theorem r_MRm_chance_147 {x y : Int32} : Rr X d MRm_chance 147 L (.int y :: .int x :: st) h = if y ≤ x then Rr X d MRm_chance 158 L st h else Rr X d MRm_chance 150 L st h := R_ic_ge d_MRm_chance_147 (by decide)
theorem r_MRm_chance_150 {l0 l2 l3 l4 l5 l6 l7 l8 : Value} {x : Int32} : Rr X d MRm_chance 150 [l0, .int x, l2, l3, l4, l5, l6, l7, l8] st h = Rr X d MRm_chance 151 [l0, .int x, l2, l3, l4, l5, l6, l7, l8] (.int x :: st) h := Rr_nx d_MRm_chance_150 rfl
theorem r_MRm_chance_151 {l0 l1 l2 l3 l4 l5 l6 l7 : Value} {x : Int32} : Rr X d MRm_chance 151 [l0, l1, l2, l3, l4, l5, l6, l7, .int x] st h = Rr X d MRm_chance 153 [l0, l1, l2, l3, l4, l5, l6, l7, .int x] (.int x :: st) h := Rr_nx d_MRm_chance_151 rfl
theorem r_MRm_chance_153 {x y : Int32} : Rr X d MRm_chance 153 L (.int y :: .int x :: st) h = Rr X d MRm_chance 154 L (.int (x - y) :: st) h := Rr_nx d_MRm_chance_153 rfl
theorem r_MRm_chance_154 {l0 l1 l2 l4 l5 l6 l7 l8 : Value} {x : Int32} : Rr X d MRm_chance 154 [l0, l1, l2, .int x, l4, l5, l6, l7, l8] st h = Rr X d MRm_chance 155 [l0, l1, l2, .int x, l4, l5, l6, l7, l8] (.int x :: st) h := Rr_nx d_MRm_chance_154 rfl
theorem r_MRm_chance_155 {x y : Int32} : Rr X d MRm_chance 155 L (.int y :: .int x :: st) h = if x < y then Rr X d MRm_chance 170 L st h else Rr X d MRm_chance 158 L st h := R_ic_lt d_MRm_chance_155 (by decide)
theorem r_MRm_chance_158 {l0 l1 l2 l3 l4 l5 l7 l8 : Value} {x : Int64} : Rr X d MRm_chance 158 [l0, l1, l2, l3, l4, l5, .long x, l7, l8] st h = Rr X d MRm_chance 160 [l0, l1, l2, l3, l4, l5, .long x, l7, l8] (.long x :: st) h := Rr_nx d_MRm_chance_158 rfl
theorem r_MRm_chance_160 {l1 l2 l3 l4 l5 l6 l7 l8 : Value} {x : Nat} : Rr X d MRm_chance 160 [.ref x, l1, l2, l3, l4, l5, l6, l7, l8] st h = Rr X d MRm_chance 161 [.ref x, l1, l2, l3, l4, l5, l6, l7, l8] (.ref x :: st) h := Rr_nx d_MRm_chance_160 rfl
theorem r_MRm_chance_161 {a : Nat} (hq : (qR a 10 50).isSome = true) : Rr X d MRm_chance 161 L (.ref a :: st) (Wd mu la ro et) = Rr X d MRm_chance 164 L (.ref (qRd a 10 50) :: st) (Wd mu la ro et) := R_gfR d_MRm_chance_161 ff_10_82 hq
theorem r_MRm_chance_164 {l0 l1 l2 l3 l4 l5 l6 l7 : Value} {x : Int32} : Rr X d MRm_chance 164 [l0, l1, l2, l3, l4, l5, l6, l7, .int x] st h = Rr X d MRm_chance 166 [l0, l1, l2, l3, l4, l5, l6, l7, .int x] (.int x :: st) h := Rr_nx d_MRm_chance_164 rfl
theorem r_MRm_chance_166 {a : Nat} {j : Int32} (hq : (qJ a).isSome = true) : Rr X d MRm_chance 166 L (.int j :: .ref a :: st) (Wd mu la ro et) = if j < 0 ∨ qJd a ≤ j.toNatClampNeg then none else Rr X d MRm_chance 167 L (.long (la a j.toNatClampNeg) :: st) (Wd mu la ro et) := R_lalW d_MRm_chance_166 hq
theorem r_MRm_chance_167 {x y : Int64} : Rr X d MRm_chance 167 L (.long y :: .long x :: st) h = Rr X d MRm_chance 168 L (.long (x + y) :: st) h := Rr_nx d_MRm_chance_167 rfl
theorem r_MRm_chance_168 {l0 l1 l2 l3 l4 l5 l6 l7 l8 : Value} {x : Int64} : Rr X d MRm_chance 168 [l0, l1, l2, l3, l4, l5, l6, l7, l8] (.long x :: st) h = Rr X d MRm_chance 170 ((sL [l0, l1, l2, l3, l4, l5, l6, l7, l8] 6 (.long x)).set 7 mkU) st h := Rr_nx d_MRm_chance_168 rfl
theorem r_MRm_chance_170 {l0 l1 l2 l3 l4 l5 l6 l7 : Value} {x : Int32} : Rr X d MRm_chance 170 [l0, l1, l2, l3, l4, l5, l6, l7, .int x] st h = Rr X d MRm_chance 173 (sL [l0, l1, l2, l3, l4, l5, l6, l7, .int x] 8 (.int (x + (1)))) st h := Rr_nx d_MRm_chance_170 rfl
theorem r_MRm_chance_173 : Rr X d MRm_chance 173 L st h = Rr X d MRm_chance 126 L st h := R_goto d_MRm_chance_173 (by decide)
theorem r_MRm_chance_176 {l0 l1 l2 l3 l4 l5 l7 l8 : Value} {x : Int64} : Rr X d MRm_chance 176 [l0, l1, l2, l3, l4, l5, .long x, l7, l8] st h = Rr X d MRm_chance 178 [l0, l1, l2, l3, l4, l5, .long x, l7, l8] (.long x :: st) h := Rr_nx d_MRm_chance_176 rfl
theorem r_MRm_chance_178 : Rr X d MRm_chance 178 L st h = Rr X d MRm_chance 181 L (.long (1000) :: st) h := Rr_nx d_MRm_chance_178 rfl
theorem r_MRm_chance_181 {x y : Int64} : Rr X d MRm_chance 181 L (.long y :: .long x :: st) h = Rr X d MRm_chance 182 L (.long (x * y) :: st) h := Rr_nx d_MRm_chance_181 rfl
theorem r_MRm_chance_182 {l0 l1 l2 l3 l5 l6 l7 l8 : Value} {x : Int64} : Rr X d MRm_chance 182 [l0, l1, l2, l3, .long x, l5, l6, l7, l8] st h = Rr X d MRm_chance 184 [l0, l1, l2, l3, .long x, l5, l6, l7, l8] (.long x :: st) h := Rr_nx d_MRm_chance_182 rfl
theorem r_MRm_chance_184 {x y : Int64} : Rr X d MRm_chance 184 L (.long y :: .long x :: st) h = if y = 0 then none else Rr X d MRm_chance 185 L (.long (x / y) :: st) h := R_ldv d_MRm_chance_184
theorem r_MRm_chance_185 {x : Int64} : Rr X d MRm_chance 185 L (.long x :: st) h = Rr X d MRm_chance 186 L (.int x.toInt32 :: st) h := Rr_nx d_MRm_chance_185 rfl
theorem r_MRm_chance_186 {x : Int32} : Rr X d MRm_chance 186 L [.int x] h = some (some (.int x), h) := R_ir d_MRm_chance_186 rfl
theorem d_MRm_shift_0 : decode MRm_shift.2.2.1 0 = .ok (.iload_n 1, 1) := lkT_ok tk_MRm_shift rfl
theorem d_MRm_shift_1 : decode MRm_shift.2.2.1 1 = .ok (.invokestatic 348, 3) := lkT_ok tk_MRm_shift rfl
theorem d_MRm_shift_4 : decode MRm_shift.2.2.1 4 = .ok (.ifCond .eq 10, 3) := lkT_ok tk_MRm_shift rfl
theorem d_MRm_shift_7 : decode MRm_shift.2.2.1 7 = .ok (.iload_n 3, 1) := lkT_ok tk_MRm_shift rfl
theorem d_MRm_shift_8 : decode MRm_shift.2.2.1 8 = .ok (.invokestatic 348, 3) := lkT_ok tk_MRm_shift rfl
theorem d_MRm_shift_11 : decode MRm_shift.2.2.1 11 = .ok (.ifCond .ne 5, 3) := lkT_ok tk_MRm_shift rfl
theorem d_MRm_shift_14 : decode MRm_shift.2.2.1 14 = .ok (.iconst (-1), 1) := lkT_ok tk_MRm_shift rfl
theorem d_MRm_shift_15 : decode MRm_shift.2.2.1 15 = .ok (.ireturn, 1) := lkT_ok tk_MRm_shift rfl
theorem d_MRm_shift_16 : decode MRm_shift.2.2.1 16 = .ok (.aload_n 0, 1) := lkT_ok tk_MRm_shift rfl
theorem d_MRm_shift_17 : decode MRm_shift.2.2.1 17 = .ok (.getfield 92, 3) := lkT_ok tk_MRm_shift rfl
theorem d_MRm_shift_20 : decode MRm_shift.2.2.1 20 = .ok (.iload_n 1, 1) := lkT_ok tk_MRm_shift rfl
theorem d_MRm_shift_21 : decode MRm_shift.2.2.1 21 = .ok (.iaload, 1) := lkT_ok tk_MRm_shift rfl
theorem d_MRm_shift_22 : decode MRm_shift.2.2.1 22 = .ok (.iconst (-1), 1) := lkT_ok tk_MRm_shift rfl
theorem d_MRm_shift_23 : decode MRm_shift.2.2.1 23 = .ok (.if_icmp .eq 13, 3) := lkT_ok tk_MRm_shift rfl
theorem d_MRm_shift_26 : decode MRm_shift.2.2.1 26 = .ok (.aload_n 0, 1) := lkT_ok tk_MRm_shift rfl
theorem d_MRm_shift_27 : decode MRm_shift.2.2.1 27 = .ok (.getfield 92, 3) := lkT_ok tk_MRm_shift rfl
theorem d_MRm_shift_30 : decode MRm_shift.2.2.1 30 = .ok (.iload_n 3, 1) := lkT_ok tk_MRm_shift rfl
theorem d_MRm_shift_31 : decode MRm_shift.2.2.1 31 = .ok (.iaload, 1) := lkT_ok tk_MRm_shift rfl
theorem d_MRm_shift_32 : decode MRm_shift.2.2.1 32 = .ok (.iconst (-1), 1) := lkT_ok tk_MRm_shift rfl
theorem d_MRm_shift_33 : decode MRm_shift.2.2.1 33 = .ok (.if_icmp .ne 6, 3) := lkT_ok tk_MRm_shift rfl
theorem d_MRm_shift_36 : decode MRm_shift.2.2.1 36 = .ok (.bipush (-11), 2) := lkT_ok tk_MRm_shift rfl
theorem d_MRm_shift_38 : decode MRm_shift.2.2.1 38 = .ok (.ireturn, 1) := lkT_ok tk_MRm_shift rfl
theorem d_MRm_shift_39 : decode MRm_shift.2.2.1 39 = .ok (.aload_n 0, 1) := lkT_ok tk_MRm_shift rfl
theorem d_MRm_shift_40 : decode MRm_shift.2.2.1 40 = .ok (.getfield 92, 3) := lkT_ok tk_MRm_shift rfl
theorem d_MRm_shift_43 : decode MRm_shift.2.2.1 43 = .ok (.iload_n 1, 1) := lkT_ok tk_MRm_shift rfl
theorem d_MRm_shift_44 : decode MRm_shift.2.2.1 44 = .ok (.iaload, 1) := lkT_ok tk_MRm_shift rfl
theorem d_MRm_shift_45 : decode MRm_shift.2.2.1 45 = .ok (.ifCond .ge 18, 3) := lkT_ok tk_MRm_shift rfl
theorem d_MRm_shift_48 : decode MRm_shift.2.2.1 48 = .ok (.aload_n 0, 1) := lkT_ok tk_MRm_shift rfl
theorem d_MRm_shift_49 : decode MRm_shift.2.2.1 49 = .ok (.getfield 92, 3) := lkT_ok tk_MRm_shift rfl
theorem d_MRm_shift_52 : decode MRm_shift.2.2.1 52 = .ok (.iload_n 1, 1) := lkT_ok tk_MRm_shift rfl
theorem d_MRm_shift_53 : decode MRm_shift.2.2.1 53 = .ok (.iaload, 1) := lkT_ok tk_MRm_shift rfl
theorem d_MRm_shift_54 : decode MRm_shift.2.2.1 54 = .ok (.aload_n 0, 1) := lkT_ok tk_MRm_shift rfl
theorem d_MRm_shift_55 : decode MRm_shift.2.2.1 55 = .ok (.getfield 92, 3) := lkT_ok tk_MRm_shift rfl
theorem d_MRm_shift_58 : decode MRm_shift.2.2.1 58 = .ok (.iload_n 3, 1) := lkT_ok tk_MRm_shift rfl
theorem d_MRm_shift_59 : decode MRm_shift.2.2.1 59 = .ok (.iaload, 1) := lkT_ok tk_MRm_shift rfl
theorem d_MRm_shift_60 : decode MRm_shift.2.2.1 60 = .ok (.if_icmp .eq 6, 3) := lkT_ok tk_MRm_shift rfl
theorem d_MRm_shift_63 : decode MRm_shift.2.2.1 63 = .ok (.bipush (-12), 2) := lkT_ok tk_MRm_shift rfl
theorem d_MRm_shift_65 : decode MRm_shift.2.2.1 65 = .ok (.ireturn, 1) := lkT_ok tk_MRm_shift rfl
theorem d_MRm_shift_66 : decode MRm_shift.2.2.1 66 = .ok (.iload 5, 2) := lkT_ok tk_MRm_shift rfl
theorem d_MRm_shift_68 : decode MRm_shift.2.2.1 68 = .ok (.ifCond .lt 39, 3) := lkT_ok tk_MRm_shift rfl
theorem d_MRm_shift_71 : decode MRm_shift.2.2.1 71 = .ok (.iload_n 2, 1) := lkT_ok tk_MRm_shift rfl
theorem d_MRm_shift_72 : decode MRm_shift.2.2.1 72 = .ok (.ifCond .lt 35, 3) := lkT_ok tk_MRm_shift rfl
theorem d_MRm_shift_75 : decode MRm_shift.2.2.1 75 = .ok (.iload 4, 2) := lkT_ok tk_MRm_shift rfl
theorem d_MRm_shift_77 : decode MRm_shift.2.2.1 77 = .ok (.ifCond .lt 30, 3) := lkT_ok tk_MRm_shift rfl
theorem d_MRm_shift_80 : decode MRm_shift.2.2.1 80 = .ok (.iload_n 2, 1) := lkT_ok tk_MRm_shift rfl
theorem d_MRm_shift_81 : decode MRm_shift.2.2.1 81 = .ok (.aload_n 0, 1) := lkT_ok tk_MRm_shift rfl
theorem d_MRm_shift_82 : decode MRm_shift.2.2.1 82 = .ok (.getfield 95, 3) := lkT_ok tk_MRm_shift rfl
theorem d_MRm_shift_85 : decode MRm_shift.2.2.1 85 = .ok (.iload_n 1, 1) := lkT_ok tk_MRm_shift rfl
theorem d_MRm_shift_86 : decode MRm_shift.2.2.1 86 = .ok (.iaload, 1) := lkT_ok tk_MRm_shift rfl
theorem d_MRm_shift_87 : decode MRm_shift.2.2.1 87 = .ok (.iload 5, 2) := lkT_ok tk_MRm_shift rfl
theorem d_MRm_shift_89 : decode MRm_shift.2.2.1 89 = .ok (.isub, 1) := lkT_ok tk_MRm_shift rfl
theorem d_MRm_shift_90 : decode MRm_shift.2.2.1 90 = .ok (.if_icmp .gt 17, 3) := lkT_ok tk_MRm_shift rfl
theorem d_MRm_shift_93 : decode MRm_shift.2.2.1 93 = .ok (.iload 4, 2) := lkT_ok tk_MRm_shift rfl
theorem d_MRm_shift_95 : decode MRm_shift.2.2.1 95 = .ok (.aload_n 0, 1) := lkT_ok tk_MRm_shift rfl
theorem d_MRm_shift_96 : decode MRm_shift.2.2.1 96 = .ok (.getfield 95, 3) := lkT_ok tk_MRm_shift rfl
theorem d_MRm_shift_99 : decode MRm_shift.2.2.1 99 = .ok (.iload_n 3, 1) := lkT_ok tk_MRm_shift rfl
theorem d_MRm_shift_100 : decode MRm_shift.2.2.1 100 = .ok (.iaload, 1) := lkT_ok tk_MRm_shift rfl
theorem d_MRm_shift_101 : decode MRm_shift.2.2.1 101 = .ok (.iload 5, 2) := lkT_ok tk_MRm_shift rfl
theorem d_MRm_shift_103 : decode MRm_shift.2.2.1 103 = .ok (.isub, 1) := lkT_ok tk_MRm_shift rfl
theorem d_MRm_shift_104 : decode MRm_shift.2.2.1 104 = .ok (.if_icmp .le 6, 3) := lkT_ok tk_MRm_shift rfl
theorem d_MRm_shift_107 : decode MRm_shift.2.2.1 107 = .ok (.bipush (-13), 2) := lkT_ok tk_MRm_shift rfl
theorem d_MRm_shift_109 : decode MRm_shift.2.2.1 109 = .ok (.ireturn, 1) := lkT_ok tk_MRm_shift rfl
theorem d_MRm_shift_110 : decode MRm_shift.2.2.1 110 = .ok (.iconst 0, 1) := lkT_ok tk_MRm_shift rfl
theorem d_MRm_shift_111 : decode MRm_shift.2.2.1 111 = .ok (.istore 6, 2) := lkT_ok tk_MRm_shift rfl
theorem d_MRm_shift_113 : decode MRm_shift.2.2.1 113 = .ok (.iload 6, 2) := lkT_ok tk_MRm_shift rfl
theorem d_MRm_shift_115 : decode MRm_shift.2.2.1 115 = .ok (.iload 5, 2) := lkT_ok tk_MRm_shift rfl
theorem d_MRm_shift_117 : decode MRm_shift.2.2.1 117 = .ok (.if_icmp .ge 30, 3) := lkT_ok tk_MRm_shift rfl
theorem d_MRm_shift_120 : decode MRm_shift.2.2.1 120 = .ok (.aload_n 0, 1) := lkT_ok tk_MRm_shift rfl
theorem d_MRm_shift_121 : decode MRm_shift.2.2.1 121 = .ok (.getfield 101, 3) := lkT_ok tk_MRm_shift rfl
theorem d_MRm_shift_124 : decode MRm_shift.2.2.1 124 = .ok (.iload 6, 2) := lkT_ok tk_MRm_shift rfl
theorem d_MRm_shift_126 : decode MRm_shift.2.2.1 126 = .ok (.aload_n 0, 1) := lkT_ok tk_MRm_shift rfl
theorem d_MRm_shift_127 : decode MRm_shift.2.2.1 127 = .ok (.getfield 98, 3) := lkT_ok tk_MRm_shift rfl
theorem d_MRm_shift_130 : decode MRm_shift.2.2.1 130 = .ok (.bipush 60, 2) := lkT_ok tk_MRm_shift rfl
theorem d_MRm_shift_132 : decode MRm_shift.2.2.1 132 = .ok (.iload_n 1, 1) := lkT_ok tk_MRm_shift rfl
theorem d_MRm_shift_133 : decode MRm_shift.2.2.1 133 = .ok (.imul, 1) := lkT_ok tk_MRm_shift rfl
theorem d_MRm_shift_134 : decode MRm_shift.2.2.1 134 = .ok (.iload_n 2, 1) := lkT_ok tk_MRm_shift rfl
theorem d_MRm_shift_135 : decode MRm_shift.2.2.1 135 = .ok (.iadd, 1) := lkT_ok tk_MRm_shift rfl
theorem d_MRm_shift_136 : decode MRm_shift.2.2.1 136 = .ok (.iload 6, 2) := lkT_ok tk_MRm_shift rfl
theorem d_MRm_shift_138 : decode MRm_shift.2.2.1 138 = .ok (.iadd, 1) := lkT_ok tk_MRm_shift rfl
theorem d_MRm_shift_139 : decode MRm_shift.2.2.1 139 = .ok (.laload, 1) := lkT_ok tk_MRm_shift rfl
theorem d_MRm_shift_140 : decode MRm_shift.2.2.1 140 = .ok (.lastore, 1) := lkT_ok tk_MRm_shift rfl
theorem d_MRm_shift_141 : decode MRm_shift.2.2.1 141 = .ok (.iinc 6 1, 3) := lkT_ok tk_MRm_shift rfl
theorem d_MRm_shift_144 : decode MRm_shift.2.2.1 144 = .ok (.goto (-31), 3) := lkT_ok tk_MRm_shift rfl
theorem d_MRm_shift_147 : decode MRm_shift.2.2.1 147 = .ok (.iconst 0, 1) := lkT_ok tk_MRm_shift rfl
theorem d_MRm_shift_148 : decode MRm_shift.2.2.1 148 = .ok (.istore 6, 2) := lkT_ok tk_MRm_shift rfl
theorem d_MRm_shift_150 : decode MRm_shift.2.2.1 150 = .ok (.iload 6, 2) := lkT_ok tk_MRm_shift rfl
theorem d_MRm_shift_152 : decode MRm_shift.2.2.1 152 = .ok (.iload 5, 2) := lkT_ok tk_MRm_shift rfl
theorem d_MRm_shift_154 : decode MRm_shift.2.2.1 154 = .ok (.if_icmp .ge 31, 3) := lkT_ok tk_MRm_shift rfl
theorem d_MRm_shift_157 : decode MRm_shift.2.2.1 157 = .ok (.aload_n 0, 1) := lkT_ok tk_MRm_shift rfl
theorem d_MRm_shift_158 : decode MRm_shift.2.2.1 158 = .ok (.getfield 98, 3) := lkT_ok tk_MRm_shift rfl
theorem d_MRm_shift_161 : decode MRm_shift.2.2.1 161 = .ok (.bipush 60, 2) := lkT_ok tk_MRm_shift rfl
theorem d_MRm_shift_163 : decode MRm_shift.2.2.1 163 = .ok (.iload_n 3, 1) := lkT_ok tk_MRm_shift rfl
theorem d_MRm_shift_164 : decode MRm_shift.2.2.1 164 = .ok (.imul, 1) := lkT_ok tk_MRm_shift rfl
theorem d_MRm_shift_165 : decode MRm_shift.2.2.1 165 = .ok (.iload 4, 2) := lkT_ok tk_MRm_shift rfl
theorem d_MRm_shift_167 : decode MRm_shift.2.2.1 167 = .ok (.iadd, 1) := lkT_ok tk_MRm_shift rfl
theorem d_MRm_shift_168 : decode MRm_shift.2.2.1 168 = .ok (.iload 6, 2) := lkT_ok tk_MRm_shift rfl
theorem d_MRm_shift_170 : decode MRm_shift.2.2.1 170 = .ok (.iadd, 1) := lkT_ok tk_MRm_shift rfl
theorem d_MRm_shift_171 : decode MRm_shift.2.2.1 171 = .ok (.aload_n 0, 1) := lkT_ok tk_MRm_shift rfl
theorem d_MRm_shift_172 : decode MRm_shift.2.2.1 172 = .ok (.getfield 101, 3) := lkT_ok tk_MRm_shift rfl
theorem d_MRm_shift_175 : decode MRm_shift.2.2.1 175 = .ok (.iload 6, 2) := lkT_ok tk_MRm_shift rfl
theorem d_MRm_shift_177 : decode MRm_shift.2.2.1 177 = .ok (.laload, 1) := lkT_ok tk_MRm_shift rfl
theorem d_MRm_shift_178 : decode MRm_shift.2.2.1 178 = .ok (.lastore, 1) := lkT_ok tk_MRm_shift rfl
theorem d_MRm_shift_179 : decode MRm_shift.2.2.1 179 = .ok (.iinc 6 1, 3) := lkT_ok tk_MRm_shift rfl
theorem d_MRm_shift_182 : decode MRm_shift.2.2.1 182 = .ok (.goto (-32), 3) := lkT_ok tk_MRm_shift rfl
theorem d_MRm_shift_185 : decode MRm_shift.2.2.1 185 = .ok (.iload 5, 2) := lkT_ok tk_MRm_shift rfl
theorem d_MRm_shift_187 : decode MRm_shift.2.2.1 187 = .ok (.ireturn, 1) := lkT_ok tk_MRm_shift rfl
theorem r_MRm_shift_0 {l0 l2 l3 l4 l5 l6 : Value} {x : Int32} : Rr X d MRm_shift 0 [l0, .int x, l2, l3, l4, l5, l6] st h = Rr X d MRm_shift 1 [l0, .int x, l2, l3, l4, l5, l6] (.int x :: st) h := Rr_nx d_MRm_shift_0 rfl
theorem fc_10_348 : fC 10 348 = some (1, 0, 1, MRm_isShelf) := rfl
theorem r_MRm_shift_1 {y0 : Int32} (hc : ckS st = true) : Rr X (d + 1) MRm_shift 1 L (.int y0 :: st) h = (Rr X d MRm_isShelf 0 [.int y0] [] h).bind fun q => Rr X (d + 1) MRm_shift 4 L (psh q.1 st) q.2 := R_is (av := [.int y0]) d_MRm_shift_1 (Or.inl fc_10_348) (ckS_le hc) rfl (Nat.le_of_ble_eq_true rfl) (Nat.le_of_ble_eq_true rfl)
theorem r_MRm_shift_4 {x : Int32} : Rr X d MRm_shift 4 L (.int x :: st) h = if x = 0 then Rr X d MRm_shift 14 L st h else Rr X d MRm_shift 7 L st h := R_if_eq d_MRm_shift_4 (by decide)
theorem r_MRm_shift_7 {l0 l1 l2 l4 l5 l6 : Value} {x : Int32} : Rr X d MRm_shift 7 [l0, l1, l2, .int x, l4, l5, l6] st h = Rr X d MRm_shift 8 [l0, l1, l2, .int x, l4, l5, l6] (.int x :: st) h := Rr_nx d_MRm_shift_7 rfl
theorem r_MRm_shift_8 {y0 : Int32} (hc : ckS st = true) : Rr X (d + 1) MRm_shift 8 L (.int y0 :: st) h = (Rr X d MRm_isShelf 0 [.int y0] [] h).bind fun q => Rr X (d + 1) MRm_shift 11 L (psh q.1 st) q.2 := R_is (av := [.int y0]) d_MRm_shift_8 (Or.inl fc_10_348) (ckS_le hc) rfl (Nat.le_of_ble_eq_true rfl) (Nat.le_of_ble_eq_true rfl)
theorem r_MRm_shift_11 {x : Int32} : Rr X d MRm_shift 11 L (.int x :: st) h = if ¬ x = 0 then Rr X d MRm_shift 16 L st h else Rr X d MRm_shift 14 L st h := R_if_ne d_MRm_shift_11 (by decide)
theorem r_MRm_shift_14 : Rr X d MRm_shift 14 L st h = Rr X d MRm_shift 15 L (.int (-1) :: st) h := Rr_nx d_MRm_shift_14 rfl
theorem r_MRm_shift_15 {x : Int32} : Rr X d MRm_shift 15 L [.int x] h = some (some (.int x), h) := R_ir d_MRm_shift_15 rfl
theorem r_MRm_shift_16 {l1 l2 l3 l4 l5 l6 : Value} {x : Nat} : Rr X d MRm_shift 16 [.ref x, l1, l2, l3, l4, l5, l6] st h = Rr X d MRm_shift 17 [.ref x, l1, l2, l3, l4, l5, l6] (.ref x :: st) h := Rr_nx d_MRm_shift_16 rfl
theorem ff_10_92 : fF 10 92 = some (10, 55, 1, 1) := rfl
theorem r_MRm_shift_17 {a : Nat} (hq : (qR a 10 55).isSome = true) : Rr X d MRm_shift 17 L (.ref a :: st) (Wd mu la ro et) = Rr X d MRm_shift 20 L (.ref (qRd a 10 55) :: st) (Wd mu la ro et) := R_gfR d_MRm_shift_17 ff_10_92 hq
theorem r_MRm_shift_20 {l0 l2 l3 l4 l5 l6 : Value} {x : Int32} : Rr X d MRm_shift 20 [l0, .int x, l2, l3, l4, l5, l6] st h = Rr X d MRm_shift 21 [l0, .int x, l2, l3, l4, l5, l6] (.int x :: st) h := Rr_nx d_MRm_shift_20 rfl
theorem r_MRm_shift_21 {a : Nat} {j : Int32} (hq : (qA a 0).isSome = true) : Rr X d MRm_shift 21 L (.int j :: .ref a :: st) (Wd mu la ro et) = if j < 0 ∨ qAd a 0 ≤ j.toNatClampNeg then none else Rr X d MRm_shift 22 L (.int (mu a j.toNatClampNeg) :: st) (Wd mu la ro et) := R_ialW d_MRm_shift_21 hq
theorem r_MRm_shift_22 : Rr X d MRm_shift 22 L st h = Rr X d MRm_shift 23 L (.int (-1) :: st) h := Rr_nx d_MRm_shift_22 rfl
theorem r_MRm_shift_23 {x y : Int32} : Rr X d MRm_shift 23 L (.int y :: .int x :: st) h = if x = y then Rr X d MRm_shift 36 L st h else Rr X d MRm_shift 26 L st h := R_ic_eq d_MRm_shift_23 (by decide)
theorem r_MRm_shift_26 {l1 l2 l3 l4 l5 l6 : Value} {x : Nat} : Rr X d MRm_shift 26 [.ref x, l1, l2, l3, l4, l5, l6] st h = Rr X d MRm_shift 27 [.ref x, l1, l2, l3, l4, l5, l6] (.ref x :: st) h := Rr_nx d_MRm_shift_26 rfl
theorem r_MRm_shift_27 {a : Nat} (hq : (qR a 10 55).isSome = true) : Rr X d MRm_shift 27 L (.ref a :: st) (Wd mu la ro et) = Rr X d MRm_shift 30 L (.ref (qRd a 10 55) :: st) (Wd mu la ro et) := R_gfR d_MRm_shift_27 ff_10_92 hq
theorem r_MRm_shift_30 {l0 l1 l2 l4 l5 l6 : Value} {x : Int32} : Rr X d MRm_shift 30 [l0, l1, l2, .int x, l4, l5, l6] st h = Rr X d MRm_shift 31 [l0, l1, l2, .int x, l4, l5, l6] (.int x :: st) h := Rr_nx d_MRm_shift_30 rfl
theorem r_MRm_shift_31 {a : Nat} {j : Int32} (hq : (qA a 0).isSome = true) : Rr X d MRm_shift 31 L (.int j :: .ref a :: st) (Wd mu la ro et) = if j < 0 ∨ qAd a 0 ≤ j.toNatClampNeg then none else Rr X d MRm_shift 32 L (.int (mu a j.toNatClampNeg) :: st) (Wd mu la ro et) := R_ialW d_MRm_shift_31 hq
theorem r_MRm_shift_32 : Rr X d MRm_shift 32 L st h = Rr X d MRm_shift 33 L (.int (-1) :: st) h := Rr_nx d_MRm_shift_32 rfl
theorem r_MRm_shift_33 {x y : Int32} : Rr X d MRm_shift 33 L (.int y :: .int x :: st) h = if ¬ x = y then Rr X d MRm_shift 39 L st h else Rr X d MRm_shift 36 L st h := R_ic_ne d_MRm_shift_33 (by decide)
theorem r_MRm_shift_36 : Rr X d MRm_shift 36 L st h = Rr X d MRm_shift 38 L (.int (-11) :: st) h := Rr_nx d_MRm_shift_36 rfl
theorem r_MRm_shift_38 {x : Int32} : Rr X d MRm_shift 38 L [.int x] h = some (some (.int x), h) := R_ir d_MRm_shift_38 rfl
theorem r_MRm_shift_39 {l1 l2 l3 l4 l5 l6 : Value} {x : Nat} : Rr X d MRm_shift 39 [.ref x, l1, l2, l3, l4, l5, l6] st h = Rr X d MRm_shift 40 [.ref x, l1, l2, l3, l4, l5, l6] (.ref x :: st) h := Rr_nx d_MRm_shift_39 rfl
theorem r_MRm_shift_40 {a : Nat} (hq : (qR a 10 55).isSome = true) : Rr X d MRm_shift 40 L (.ref a :: st) (Wd mu la ro et) = Rr X d MRm_shift 43 L (.ref (qRd a 10 55) :: st) (Wd mu la ro et) := R_gfR d_MRm_shift_40 ff_10_92 hq
theorem r_MRm_shift_43 {l0 l2 l3 l4 l5 l6 : Value} {x : Int32} : Rr X d MRm_shift 43 [l0, .int x, l2, l3, l4, l5, l6] st h = Rr X d MRm_shift 44 [l0, .int x, l2, l3, l4, l5, l6] (.int x :: st) h := Rr_nx d_MRm_shift_43 rfl
theorem r_MRm_shift_44 {a : Nat} {j : Int32} (hq : (qA a 0).isSome = true) : Rr X d MRm_shift 44 L (.int j :: .ref a :: st) (Wd mu la ro et) = if j < 0 ∨ qAd a 0 ≤ j.toNatClampNeg then none else Rr X d MRm_shift 45 L (.int (mu a j.toNatClampNeg) :: st) (Wd mu la ro et) := R_ialW d_MRm_shift_44 hq
theorem r_MRm_shift_45 {x : Int32} : Rr X d MRm_shift 45 L (.int x :: st) h = if 0 ≤ x then Rr X d MRm_shift 63 L st h else Rr X d MRm_shift 48 L st h := R_if_ge d_MRm_shift_45 (by decide)
theorem r_MRm_shift_48 {l1 l2 l3 l4 l5 l6 : Value} {x : Nat} : Rr X d MRm_shift 48 [.ref x, l1, l2, l3, l4, l5, l6] st h = Rr X d MRm_shift 49 [.ref x, l1, l2, l3, l4, l5, l6] (.ref x :: st) h := Rr_nx d_MRm_shift_48 rfl
theorem r_MRm_shift_49 {a : Nat} (hq : (qR a 10 55).isSome = true) : Rr X d MRm_shift 49 L (.ref a :: st) (Wd mu la ro et) = Rr X d MRm_shift 52 L (.ref (qRd a 10 55) :: st) (Wd mu la ro et) := R_gfR d_MRm_shift_49 ff_10_92 hq
theorem r_MRm_shift_52 {l0 l2 l3 l4 l5 l6 : Value} {x : Int32} : Rr X d MRm_shift 52 [l0, .int x, l2, l3, l4, l5, l6] st h = Rr X d MRm_shift 53 [l0, .int x, l2, l3, l4, l5, l6] (.int x :: st) h := Rr_nx d_MRm_shift_52 rfl
theorem r_MRm_shift_53 {a : Nat} {j : Int32} (hq : (qA a 0).isSome = true) : Rr X d MRm_shift 53 L (.int j :: .ref a :: st) (Wd mu la ro et) = if j < 0 ∨ qAd a 0 ≤ j.toNatClampNeg then none else Rr X d MRm_shift 54 L (.int (mu a j.toNatClampNeg) :: st) (Wd mu la ro et) := R_ialW d_MRm_shift_53 hq
theorem r_MRm_shift_54 {l1 l2 l3 l4 l5 l6 : Value} {x : Nat} : Rr X d MRm_shift 54 [.ref x, l1, l2, l3, l4, l5, l6] st h = Rr X d MRm_shift 55 [.ref x, l1, l2, l3, l4, l5, l6] (.ref x :: st) h := Rr_nx d_MRm_shift_54 rfl
theorem r_MRm_shift_55 {a : Nat} (hq : (qR a 10 55).isSome = true) : Rr X d MRm_shift 55 L (.ref a :: st) (Wd mu la ro et) = Rr X d MRm_shift 58 L (.ref (qRd a 10 55) :: st) (Wd mu la ro et) := R_gfR d_MRm_shift_55 ff_10_92 hq
theorem r_MRm_shift_58 {l0 l1 l2 l4 l5 l6 : Value} {x : Int32} : Rr X d MRm_shift 58 [l0, l1, l2, .int x, l4, l5, l6] st h = Rr X d MRm_shift 59 [l0, l1, l2, .int x, l4, l5, l6] (.int x :: st) h := Rr_nx d_MRm_shift_58 rfl
theorem r_MRm_shift_59 {a : Nat} {j : Int32} (hq : (qA a 0).isSome = true) : Rr X d MRm_shift 59 L (.int j :: .ref a :: st) (Wd mu la ro et) = if j < 0 ∨ qAd a 0 ≤ j.toNatClampNeg then none else Rr X d MRm_shift 60 L (.int (mu a j.toNatClampNeg) :: st) (Wd mu la ro et) := R_ialW d_MRm_shift_59 hq
theorem r_MRm_shift_60 {x y : Int32} : Rr X d MRm_shift 60 L (.int y :: .int x :: st) h = if x = y then Rr X d MRm_shift 66 L st h else Rr X d MRm_shift 63 L st h := R_ic_eq d_MRm_shift_60 (by decide)
theorem r_MRm_shift_63 : Rr X d MRm_shift 63 L st h = Rr X d MRm_shift 65 L (.int (-12) :: st) h := Rr_nx d_MRm_shift_63 rfl
theorem r_MRm_shift_65 {x : Int32} : Rr X d MRm_shift 65 L [.int x] h = some (some (.int x), h) := R_ir d_MRm_shift_65 rfl
theorem r_MRm_shift_66 {l0 l1 l2 l3 l4 l6 : Value} {x : Int32} : Rr X d MRm_shift 66 [l0, l1, l2, l3, l4, .int x, l6] st h = Rr X d MRm_shift 68 [l0, l1, l2, l3, l4, .int x, l6] (.int x :: st) h := Rr_nx d_MRm_shift_66 rfl
theorem r_MRm_shift_68 {x : Int32} : Rr X d MRm_shift 68 L (.int x :: st) h = if x < 0 then Rr X d MRm_shift 107 L st h else Rr X d MRm_shift 71 L st h := R_if_lt d_MRm_shift_68 (by decide)
theorem r_MRm_shift_71 {l0 l1 l3 l4 l5 l6 : Value} {x : Int32} : Rr X d MRm_shift 71 [l0, l1, .int x, l3, l4, l5, l6] st h = Rr X d MRm_shift 72 [l0, l1, .int x, l3, l4, l5, l6] (.int x :: st) h := Rr_nx d_MRm_shift_71 rfl
theorem r_MRm_shift_72 {x : Int32} : Rr X d MRm_shift 72 L (.int x :: st) h = if x < 0 then Rr X d MRm_shift 107 L st h else Rr X d MRm_shift 75 L st h := R_if_lt d_MRm_shift_72 (by decide)
theorem r_MRm_shift_75 {l0 l1 l2 l3 l5 l6 : Value} {x : Int32} : Rr X d MRm_shift 75 [l0, l1, l2, l3, .int x, l5, l6] st h = Rr X d MRm_shift 77 [l0, l1, l2, l3, .int x, l5, l6] (.int x :: st) h := Rr_nx d_MRm_shift_75 rfl
theorem r_MRm_shift_77 {x : Int32} : Rr X d MRm_shift 77 L (.int x :: st) h = if x < 0 then Rr X d MRm_shift 107 L st h else Rr X d MRm_shift 80 L st h := R_if_lt d_MRm_shift_77 (by decide)
theorem r_MRm_shift_80 {l0 l1 l3 l4 l5 l6 : Value} {x : Int32} : Rr X d MRm_shift 80 [l0, l1, .int x, l3, l4, l5, l6] st h = Rr X d MRm_shift 81 [l0, l1, .int x, l3, l4, l5, l6] (.int x :: st) h := Rr_nx d_MRm_shift_80 rfl
theorem r_MRm_shift_81 {l1 l2 l3 l4 l5 l6 : Value} {x : Nat} : Rr X d MRm_shift 81 [.ref x, l1, l2, l3, l4, l5, l6] st h = Rr X d MRm_shift 82 [.ref x, l1, l2, l3, l4, l5, l6] (.ref x :: st) h := Rr_nx d_MRm_shift_81 rfl
theorem ff_10_95 : fF 10 95 = some (10, 56, 1, 1) := rfl
theorem r_MRm_shift_82 {a : Nat} (hq : (qR a 10 56).isSome = true) : Rr X d MRm_shift 82 L (.ref a :: st) (Wd mu la ro et) = Rr X d MRm_shift 85 L (.ref (qRd a 10 56) :: st) (Wd mu la ro et) := R_gfR d_MRm_shift_82 ff_10_95 hq
theorem r_MRm_shift_85 {l0 l2 l3 l4 l5 l6 : Value} {x : Int32} : Rr X d MRm_shift 85 [l0, .int x, l2, l3, l4, l5, l6] st h = Rr X d MRm_shift 86 [l0, .int x, l2, l3, l4, l5, l6] (.int x :: st) h := Rr_nx d_MRm_shift_85 rfl
theorem r_MRm_shift_86 {a : Nat} {j : Int32} (hq : (qA a 0).isSome = true) : Rr X d MRm_shift 86 L (.int j :: .ref a :: st) (Wd mu la ro et) = if j < 0 ∨ qAd a 0 ≤ j.toNatClampNeg then none else Rr X d MRm_shift 87 L (.int (mu a j.toNatClampNeg) :: st) (Wd mu la ro et) := R_ialW d_MRm_shift_86 hq
theorem r_MRm_shift_87 {l0 l1 l2 l3 l4 l6 : Value} {x : Int32} : Rr X d MRm_shift 87 [l0, l1, l2, l3, l4, .int x, l6] st h = Rr X d MRm_shift 89 [l0, l1, l2, l3, l4, .int x, l6] (.int x :: st) h := Rr_nx d_MRm_shift_87 rfl
theorem r_MRm_shift_89 {x y : Int32} : Rr X d MRm_shift 89 L (.int y :: .int x :: st) h = Rr X d MRm_shift 90 L (.int (x - y) :: st) h := Rr_nx d_MRm_shift_89 rfl
theorem r_MRm_shift_90 {x y : Int32} : Rr X d MRm_shift 90 L (.int y :: .int x :: st) h = if y < x then Rr X d MRm_shift 107 L st h else Rr X d MRm_shift 93 L st h := R_ic_gt d_MRm_shift_90 (by decide)
theorem r_MRm_shift_93 {l0 l1 l2 l3 l5 l6 : Value} {x : Int32} : Rr X d MRm_shift 93 [l0, l1, l2, l3, .int x, l5, l6] st h = Rr X d MRm_shift 95 [l0, l1, l2, l3, .int x, l5, l6] (.int x :: st) h := Rr_nx d_MRm_shift_93 rfl
theorem r_MRm_shift_95 {l1 l2 l3 l4 l5 l6 : Value} {x : Nat} : Rr X d MRm_shift 95 [.ref x, l1, l2, l3, l4, l5, l6] st h = Rr X d MRm_shift 96 [.ref x, l1, l2, l3, l4, l5, l6] (.ref x :: st) h := Rr_nx d_MRm_shift_95 rfl
theorem r_MRm_shift_96 {a : Nat} (hq : (qR a 10 56).isSome = true) : Rr X d MRm_shift 96 L (.ref a :: st) (Wd mu la ro et) = Rr X d MRm_shift 99 L (.ref (qRd a 10 56) :: st) (Wd mu la ro et) := R_gfR d_MRm_shift_96 ff_10_95 hq
theorem r_MRm_shift_99 {l0 l1 l2 l4 l5 l6 : Value} {x : Int32} : Rr X d MRm_shift 99 [l0, l1, l2, .int x, l4, l5, l6] st h = Rr X d MRm_shift 100 [l0, l1, l2, .int x, l4, l5, l6] (.int x :: st) h := Rr_nx d_MRm_shift_99 rfl
theorem r_MRm_shift_100 {a : Nat} {j : Int32} (hq : (qA a 0).isSome = true) : Rr X d MRm_shift 100 L (.int j :: .ref a :: st) (Wd mu la ro et) = if j < 0 ∨ qAd a 0 ≤ j.toNatClampNeg then none else Rr X d MRm_shift 101 L (.int (mu a j.toNatClampNeg) :: st) (Wd mu la ro et) := R_ialW d_MRm_shift_100 hq
theorem r_MRm_shift_101 {l0 l1 l2 l3 l4 l6 : Value} {x : Int32} : Rr X d MRm_shift 101 [l0, l1, l2, l3, l4, .int x, l6] st h = Rr X d MRm_shift 103 [l0, l1, l2, l3, l4, .int x, l6] (.int x :: st) h := Rr_nx d_MRm_shift_101 rfl
theorem r_MRm_shift_103 {x y : Int32} : Rr X d MRm_shift 103 L (.int y :: .int x :: st) h = Rr X d MRm_shift 104 L (.int (x - y) :: st) h := Rr_nx d_MRm_shift_103 rfl
theorem r_MRm_shift_104 {x y : Int32} : Rr X d MRm_shift 104 L (.int y :: .int x :: st) h = if x ≤ y then Rr X d MRm_shift 110 L st h else Rr X d MRm_shift 107 L st h := R_ic_le d_MRm_shift_104 (by decide)
theorem r_MRm_shift_107 : Rr X d MRm_shift 107 L st h = Rr X d MRm_shift 109 L (.int (-13) :: st) h := Rr_nx d_MRm_shift_107 rfl
theorem r_MRm_shift_109 {x : Int32} : Rr X d MRm_shift 109 L [.int x] h = some (some (.int x), h) := R_ir d_MRm_shift_109 rfl
theorem r_MRm_shift_110 : Rr X d MRm_shift 110 L st h = Rr X d MRm_shift 111 L (.int (0) :: st) h := Rr_nx d_MRm_shift_110 rfl
theorem r_MRm_shift_111 {l0 l1 l2 l3 l4 l5 l6 : Value} {x : Int32} : Rr X d MRm_shift 111 [l0, l1, l2, l3, l4, l5, l6] (.int x :: st) h = Rr X d MRm_shift 113 (sL [l0, l1, l2, l3, l4, l5, l6] 6 (.int x)) st h := Rr_nx d_MRm_shift_111 rfl
theorem r_MRm_shift_113 {l0 l1 l2 l3 l4 l5 : Value} {x : Int32} : Rr X d MRm_shift 113 [l0, l1, l2, l3, l4, l5, .int x] st h = Rr X d MRm_shift 115 [l0, l1, l2, l3, l4, l5, .int x] (.int x :: st) h := Rr_nx d_MRm_shift_113 rfl
theorem r_MRm_shift_115 {l0 l1 l2 l3 l4 l6 : Value} {x : Int32} : Rr X d MRm_shift 115 [l0, l1, l2, l3, l4, .int x, l6] st h = Rr X d MRm_shift 117 [l0, l1, l2, l3, l4, .int x, l6] (.int x :: st) h := Rr_nx d_MRm_shift_115 rfl
theorem r_MRm_shift_117 {x y : Int32} : Rr X d MRm_shift 117 L (.int y :: .int x :: st) h = if y ≤ x then Rr X d MRm_shift 147 L st h else Rr X d MRm_shift 120 L st h := R_ic_ge d_MRm_shift_117 (by decide)
theorem r_MRm_shift_120 {l1 l2 l3 l4 l5 l6 : Value} {x : Nat} : Rr X d MRm_shift 120 [.ref x, l1, l2, l3, l4, l5, l6] st h = Rr X d MRm_shift 121 [.ref x, l1, l2, l3, l4, l5, l6] (.ref x :: st) h := Rr_nx d_MRm_shift_120 rfl
theorem ff_10_101 : fF 10 101 = some (10, 58, 1, 1) := rfl
theorem r_MRm_shift_121 {a : Nat} (hq : (qR a 10 58).isSome = true) : Rr X d MRm_shift 121 L (.ref a :: st) (Wd mu la ro et) = Rr X d MRm_shift 124 L (.ref (qRd a 10 58) :: st) (Wd mu la ro et) := R_gfR d_MRm_shift_121 ff_10_101 hq
theorem r_MRm_shift_124 {l0 l1 l2 l3 l4 l5 : Value} {x : Int32} : Rr X d MRm_shift 124 [l0, l1, l2, l3, l4, l5, .int x] st h = Rr X d MRm_shift 126 [l0, l1, l2, l3, l4, l5, .int x] (.int x :: st) h := Rr_nx d_MRm_shift_124 rfl
theorem r_MRm_shift_126 {l1 l2 l3 l4 l5 l6 : Value} {x : Nat} : Rr X d MRm_shift 126 [.ref x, l1, l2, l3, l4, l5, l6] st h = Rr X d MRm_shift 127 [.ref x, l1, l2, l3, l4, l5, l6] (.ref x :: st) h := Rr_nx d_MRm_shift_126 rfl
theorem ff_10_98 : fF 10 98 = some (10, 57, 1, 1) := rfl
theorem r_MRm_shift_127 {a : Nat} (hq : (qR a 10 57).isSome = true) : Rr X d MRm_shift 127 L (.ref a :: st) (Wd mu la ro et) = Rr X d MRm_shift 130 L (.ref (qRd a 10 57) :: st) (Wd mu la ro et) := R_gfR d_MRm_shift_127 ff_10_98 hq
theorem r_MRm_shift_130 : Rr X d MRm_shift 130 L st h = Rr X d MRm_shift 132 L (.int (60) :: st) h := Rr_nx d_MRm_shift_130 rfl
theorem r_MRm_shift_132 {l0 l2 l3 l4 l5 l6 : Value} {x : Int32} : Rr X d MRm_shift 132 [l0, .int x, l2, l3, l4, l5, l6] st h = Rr X d MRm_shift 133 [l0, .int x, l2, l3, l4, l5, l6] (.int x :: st) h := Rr_nx d_MRm_shift_132 rfl
theorem r_MRm_shift_133 {x y : Int32} : Rr X d MRm_shift 133 L (.int y :: .int x :: st) h = Rr X d MRm_shift 134 L (.int (x * y) :: st) h := Rr_nx d_MRm_shift_133 rfl
theorem r_MRm_shift_134 {l0 l1 l3 l4 l5 l6 : Value} {x : Int32} : Rr X d MRm_shift 134 [l0, l1, .int x, l3, l4, l5, l6] st h = Rr X d MRm_shift 135 [l0, l1, .int x, l3, l4, l5, l6] (.int x :: st) h := Rr_nx d_MRm_shift_134 rfl
theorem r_MRm_shift_135 {x y : Int32} : Rr X d MRm_shift 135 L (.int y :: .int x :: st) h = Rr X d MRm_shift 136 L (.int (x + y) :: st) h := Rr_nx d_MRm_shift_135 rfl
theorem r_MRm_shift_136 {l0 l1 l2 l3 l4 l5 : Value} {x : Int32} : Rr X d MRm_shift 136 [l0, l1, l2, l3, l4, l5, .int x] st h = Rr X d MRm_shift 138 [l0, l1, l2, l3, l4, l5, .int x] (.int x :: st) h := Rr_nx d_MRm_shift_136 rfl
theorem r_MRm_shift_138 {x y : Int32} : Rr X d MRm_shift 138 L (.int y :: .int x :: st) h = Rr X d MRm_shift 139 L (.int (x + y) :: st) h := Rr_nx d_MRm_shift_138 rfl
theorem r_MRm_shift_139 {a : Nat} {j : Int32} (hq : (qJ a).isSome = true) : Rr X d MRm_shift 139 L (.int j :: .ref a :: st) (Wd mu la ro et) = if j < 0 ∨ qJd a ≤ j.toNatClampNeg then none else Rr X d MRm_shift 140 L (.long (la a j.toNatClampNeg) :: st) (Wd mu la ro et) := R_lalW d_MRm_shift_139 hq
theorem r_MRm_shift_140 {a : Nat} {j : Int32} {x : Int64} (hq : (qJ a).isSome = true) : Rr X d MRm_shift 140 L (.long x :: .int j :: .ref a :: st) (Wd mu la ro et) = if j < 0 ∨ qJd a ≤ j.toNatClampNeg then none else Rr X d MRm_shift 141 L st (Wd mu (upJ la a j.toNatClampNeg x) ro et) := R_lasW d_MRm_shift_140 hq
theorem r_MRm_shift_141 {l0 l1 l2 l3 l4 l5 : Value} {x : Int32} : Rr X d MRm_shift 141 [l0, l1, l2, l3, l4, l5, .int x] st h = Rr X d MRm_shift 144 (sL [l0, l1, l2, l3, l4, l5, .int x] 6 (.int (x + (1)))) st h := Rr_nx d_MRm_shift_141 rfl
theorem r_MRm_shift_144 : Rr X d MRm_shift 144 L st h = Rr X d MRm_shift 113 L st h := R_goto d_MRm_shift_144 (by decide)
theorem r_MRm_shift_147 : Rr X d MRm_shift 147 L st h = Rr X d MRm_shift 148 L (.int (0) :: st) h := Rr_nx d_MRm_shift_147 rfl
theorem r_MRm_shift_148 {l0 l1 l2 l3 l4 l5 l6 : Value} {x : Int32} : Rr X d MRm_shift 148 [l0, l1, l2, l3, l4, l5, l6] (.int x :: st) h = Rr X d MRm_shift 150 (sL [l0, l1, l2, l3, l4, l5, l6] 6 (.int x)) st h := Rr_nx d_MRm_shift_148 rfl
theorem r_MRm_shift_150 {l0 l1 l2 l3 l4 l5 : Value} {x : Int32} : Rr X d MRm_shift 150 [l0, l1, l2, l3, l4, l5, .int x] st h = Rr X d MRm_shift 152 [l0, l1, l2, l3, l4, l5, .int x] (.int x :: st) h := Rr_nx d_MRm_shift_150 rfl
theorem r_MRm_shift_152 {l0 l1 l2 l3 l4 l6 : Value} {x : Int32} : Rr X d MRm_shift 152 [l0, l1, l2, l3, l4, .int x, l6] st h = Rr X d MRm_shift 154 [l0, l1, l2, l3, l4, .int x, l6] (.int x :: st) h := Rr_nx d_MRm_shift_152 rfl
theorem r_MRm_shift_154 {x y : Int32} : Rr X d MRm_shift 154 L (.int y :: .int x :: st) h = if y ≤ x then Rr X d MRm_shift 185 L st h else Rr X d MRm_shift 157 L st h := R_ic_ge d_MRm_shift_154 (by decide)
theorem r_MRm_shift_157 {l1 l2 l3 l4 l5 l6 : Value} {x : Nat} : Rr X d MRm_shift 157 [.ref x, l1, l2, l3, l4, l5, l6] st h = Rr X d MRm_shift 158 [.ref x, l1, l2, l3, l4, l5, l6] (.ref x :: st) h := Rr_nx d_MRm_shift_157 rfl
theorem r_MRm_shift_158 {a : Nat} (hq : (qR a 10 57).isSome = true) : Rr X d MRm_shift 158 L (.ref a :: st) (Wd mu la ro et) = Rr X d MRm_shift 161 L (.ref (qRd a 10 57) :: st) (Wd mu la ro et) := R_gfR d_MRm_shift_158 ff_10_98 hq
theorem r_MRm_shift_161 : Rr X d MRm_shift 161 L st h = Rr X d MRm_shift 163 L (.int (60) :: st) h := Rr_nx d_MRm_shift_161 rfl
theorem r_MRm_shift_163 {l0 l1 l2 l4 l5 l6 : Value} {x : Int32} : Rr X d MRm_shift 163 [l0, l1, l2, .int x, l4, l5, l6] st h = Rr X d MRm_shift 164 [l0, l1, l2, .int x, l4, l5, l6] (.int x :: st) h := Rr_nx d_MRm_shift_163 rfl
theorem r_MRm_shift_164 {x y : Int32} : Rr X d MRm_shift 164 L (.int y :: .int x :: st) h = Rr X d MRm_shift 165 L (.int (x * y) :: st) h := Rr_nx d_MRm_shift_164 rfl
theorem r_MRm_shift_165 {l0 l1 l2 l3 l5 l6 : Value} {x : Int32} : Rr X d MRm_shift 165 [l0, l1, l2, l3, .int x, l5, l6] st h = Rr X d MRm_shift 167 [l0, l1, l2, l3, .int x, l5, l6] (.int x :: st) h := Rr_nx d_MRm_shift_165 rfl
theorem r_MRm_shift_167 {x y : Int32} : Rr X d MRm_shift 167 L (.int y :: .int x :: st) h = Rr X d MRm_shift 168 L (.int (x + y) :: st) h := Rr_nx d_MRm_shift_167 rfl
theorem r_MRm_shift_168 {l0 l1 l2 l3 l4 l5 : Value} {x : Int32} : Rr X d MRm_shift 168 [l0, l1, l2, l3, l4, l5, .int x] st h = Rr X d MRm_shift 170 [l0, l1, l2, l3, l4, l5, .int x] (.int x :: st) h := Rr_nx d_MRm_shift_168 rfl
theorem r_MRm_shift_170 {x y : Int32} : Rr X d MRm_shift 170 L (.int y :: .int x :: st) h = Rr X d MRm_shift 171 L (.int (x + y) :: st) h := Rr_nx d_MRm_shift_170 rfl
theorem r_MRm_shift_171 {l1 l2 l3 l4 l5 l6 : Value} {x : Nat} : Rr X d MRm_shift 171 [.ref x, l1, l2, l3, l4, l5, l6] st h = Rr X d MRm_shift 172 [.ref x, l1, l2, l3, l4, l5, l6] (.ref x :: st) h := Rr_nx d_MRm_shift_171 rfl
theorem r_MRm_shift_172 {a : Nat} (hq : (qR a 10 58).isSome = true) : Rr X d MRm_shift 172 L (.ref a :: st) (Wd mu la ro et) = Rr X d MRm_shift 175 L (.ref (qRd a 10 58) :: st) (Wd mu la ro et) := R_gfR d_MRm_shift_172 ff_10_101 hq
theorem r_MRm_shift_175 {l0 l1 l2 l3 l4 l5 : Value} {x : Int32} : Rr X d MRm_shift 175 [l0, l1, l2, l3, l4, l5, .int x] st h = Rr X d MRm_shift 177 [l0, l1, l2, l3, l4, l5, .int x] (.int x :: st) h := Rr_nx d_MRm_shift_175 rfl
theorem r_MRm_shift_177 {a : Nat} {j : Int32} (hq : (qJ a).isSome = true) : Rr X d MRm_shift 177 L (.int j :: .ref a :: st) (Wd mu la ro et) = if j < 0 ∨ qJd a ≤ j.toNatClampNeg then none else Rr X d MRm_shift 178 L (.long (la a j.toNatClampNeg) :: st) (Wd mu la ro et) := R_lalW d_MRm_shift_177 hq
theorem r_MRm_shift_178 {a : Nat} {j : Int32} {x : Int64} (hq : (qJ a).isSome = true) : Rr X d MRm_shift 178 L (.long x :: .int j :: .ref a :: st) (Wd mu la ro et) = if j < 0 ∨ qJd a ≤ j.toNatClampNeg then none else Rr X d MRm_shift 179 L st (Wd mu (upJ la a j.toNatClampNeg x) ro et) := R_lasW d_MRm_shift_178 hq
theorem r_MRm_shift_179 {l0 l1 l2 l3 l4 l5 : Value} {x : Int32} : Rr X d MRm_shift 179 [l0, l1, l2, l3, l4, l5, .int x] st h = Rr X d MRm_shift 182 (sL [l0, l1, l2, l3, l4, l5, .int x] 6 (.int (x + (1)))) st h := Rr_nx d_MRm_shift_179 rfl
theorem r_MRm_shift_182 : Rr X d MRm_shift 182 L st h = Rr X d MRm_shift 150 L st h := R_goto d_MRm_shift_182 (by decide)
theorem r_MRm_shift_185 {l0 l1 l2 l3 l4 l6 : Value} {x : Int32} : Rr X d MRm_shift 185 [l0, l1, l2, l3, l4, .int x, l6] st h = Rr X d MRm_shift 187 [l0, l1, l2, l3, l4, .int x, l6] (.int x :: st) h := Rr_nx d_MRm_shift_185 rfl
theorem r_MRm_shift_187 {x : Int32} : Rr X d MRm_shift 187 L [.int x] h = some (some (.int x), h) := R_ir d_MRm_shift_187 rfl
theorem d_MRm_valueAt_0 : decode MRm_valueAt.2.2.1 0 = .ok (.iload_n 1, 1) := lkT_ok tk_MRm_valueAt rfl
theorem d_MRm_valueAt_1 : decode MRm_valueAt.2.2.1 1 = .ok (.ifCond .ne 12, 3) := lkT_ok tk_MRm_valueAt rfl
theorem d_MRm_valueAt_4 : decode MRm_valueAt.2.2.1 4 = .ok (.aload_n 0, 1) := lkT_ok tk_MRm_valueAt rfl
theorem d_MRm_valueAt_5 : decode MRm_valueAt.2.2.1 5 = .ok (.getfield 26, 3) := lkT_ok tk_MRm_valueAt rfl
theorem d_MRm_valueAt_8 : decode MRm_valueAt.2.2.1 8 = .ok (.iload_n 2, 1) := lkT_ok tk_MRm_valueAt rfl
theorem d_MRm_valueAt_9 : decode MRm_valueAt.2.2.1 9 = .ok (.iaload, 1) := lkT_ok tk_MRm_valueAt rfl
theorem d_MRm_valueAt_10 : decode MRm_valueAt.2.2.1 10 = .ok (.goto 9, 3) := lkT_ok tk_MRm_valueAt rfl
theorem d_MRm_valueAt_13 : decode MRm_valueAt.2.2.1 13 = .ok (.aload_n 0, 1) := lkT_ok tk_MRm_valueAt rfl
theorem d_MRm_valueAt_14 : decode MRm_valueAt.2.2.1 14 = .ok (.getfield 17, 3) := lkT_ok tk_MRm_valueAt rfl
theorem d_MRm_valueAt_17 : decode MRm_valueAt.2.2.1 17 = .ok (.iload_n 2, 1) := lkT_ok tk_MRm_valueAt rfl
theorem d_MRm_valueAt_18 : decode MRm_valueAt.2.2.1 18 = .ok (.iaload, 1) := lkT_ok tk_MRm_valueAt rfl
theorem d_MRm_valueAt_19 : decode MRm_valueAt.2.2.1 19 = .ok (.ireturn, 1) := lkT_ok tk_MRm_valueAt rfl
theorem r_MRm_valueAt_0 {l0 l2 : Value} {x : Int32} : Rr X d MRm_valueAt 0 [l0, .int x, l2] st h = Rr X d MRm_valueAt 1 [l0, .int x, l2] (.int x :: st) h := Rr_nx d_MRm_valueAt_0 rfl
theorem r_MRm_valueAt_1 {x : Int32} : Rr X d MRm_valueAt 1 L (.int x :: st) h = if ¬ x = 0 then Rr X d MRm_valueAt 13 L st h else Rr X d MRm_valueAt 4 L st h := R_if_ne d_MRm_valueAt_1 (by decide)
theorem r_MRm_valueAt_4 {l1 l2 : Value} {x : Nat} : Rr X d MRm_valueAt 4 [.ref x, l1, l2] st h = Rr X d MRm_valueAt 5 [.ref x, l1, l2] (.ref x :: st) h := Rr_nx d_MRm_valueAt_4 rfl
theorem ff_10_26 : fF 10 26 = some (10, 8, 1, 1) := rfl
theorem r_MRm_valueAt_5 {a : Nat} (hq : (qR a 10 8).isSome = true) : Rr X d MRm_valueAt 5 L (.ref a :: st) (Wd mu la ro et) = Rr X d MRm_valueAt 8 L (.ref (qRd a 10 8) :: st) (Wd mu la ro et) := R_gfR d_MRm_valueAt_5 ff_10_26 hq
theorem r_MRm_valueAt_8 {l0 l1 : Value} {x : Int32} : Rr X d MRm_valueAt 8 [l0, l1, .int x] st h = Rr X d MRm_valueAt 9 [l0, l1, .int x] (.int x :: st) h := Rr_nx d_MRm_valueAt_8 rfl
theorem r_MRm_valueAt_9 {a : Nat} {j : Int32} (hq : (qA a 0).isSome = true) : Rr X d MRm_valueAt 9 L (.int j :: .ref a :: st) (Wd mu la ro et) = if j < 0 ∨ qAd a 0 ≤ j.toNatClampNeg then none else Rr X d MRm_valueAt 10 L (.int (mu a j.toNatClampNeg) :: st) (Wd mu la ro et) := R_ialW d_MRm_valueAt_9 hq
theorem r_MRm_valueAt_10 : Rr X d MRm_valueAt 10 L st h = Rr X d MRm_valueAt 19 L st h := R_goto d_MRm_valueAt_10 (by decide)
theorem r_MRm_valueAt_13 {l1 l2 : Value} {x : Nat} : Rr X d MRm_valueAt 13 [.ref x, l1, l2] st h = Rr X d MRm_valueAt 14 [.ref x, l1, l2] (.ref x :: st) h := Rr_nx d_MRm_valueAt_13 rfl
theorem ff_10_17 : fF 10 17 = some (10, 5, 1, 1) := rfl
theorem r_MRm_valueAt_14 {a : Nat} (hq : (qR a 10 5).isSome = true) : Rr X d MRm_valueAt 14 L (.ref a :: st) (Wd mu la ro et) = Rr X d MRm_valueAt 17 L (.ref (qRd a 10 5) :: st) (Wd mu la ro et) := R_gfR d_MRm_valueAt_14 ff_10_17 hq
theorem r_MRm_valueAt_17 {l0 l1 : Value} {x : Int32} : Rr X d MRm_valueAt 17 [l0, l1, .int x] st h = Rr X d MRm_valueAt 18 [l0, l1, .int x] (.int x :: st) h := Rr_nx d_MRm_valueAt_17 rfl
theorem r_MRm_valueAt_18 {a : Nat} {j : Int32} (hq : (qA a 0).isSome = true) : Rr X d MRm_valueAt 18 L (.int j :: .ref a :: st) (Wd mu la ro et) = if j < 0 ∨ qAd a 0 ≤ j.toNatClampNeg then none else Rr X d MRm_valueAt 19 L (.int (mu a j.toNatClampNeg) :: st) (Wd mu la ro et) := R_ialW d_MRm_valueAt_18 hq
theorem r_MRm_valueAt_19 {x : Int32} : Rr X d MRm_valueAt 19 L [.int x] h = some (some (.int x), h) := R_ir d_MRm_valueAt_19 rfl
theorem d_MRm_place_0 : decode MRm_place.2.2.1 0 = .ok (.iload_n 1, 1) := lkT_ok tk_MRm_place rfl
theorem d_MRm_place_1 : decode MRm_place.2.2.1 1 = .ok (.ifCond .ne 13, 3) := lkT_ok tk_MRm_place rfl
theorem d_MRm_place_4 : decode MRm_place.2.2.1 4 = .ok (.aload_n 0, 1) := lkT_ok tk_MRm_place rfl
theorem d_MRm_place_5 : decode MRm_place.2.2.1 5 = .ok (.getfield 26, 3) := lkT_ok tk_MRm_place rfl
theorem d_MRm_place_8 : decode MRm_place.2.2.1 8 = .ok (.iload_n 2, 1) := lkT_ok tk_MRm_place rfl
theorem d_MRm_place_9 : decode MRm_place.2.2.1 9 = .ok (.iload_n 3, 1) := lkT_ok tk_MRm_place rfl
theorem d_MRm_place_10 : decode MRm_place.2.2.1 10 = .ok (.iastore, 1) := lkT_ok tk_MRm_place rfl
theorem d_MRm_place_11 : decode MRm_place.2.2.1 11 = .ok (.goto 10, 3) := lkT_ok tk_MRm_place rfl
theorem d_MRm_place_14 : decode MRm_place.2.2.1 14 = .ok (.aload_n 0, 1) := lkT_ok tk_MRm_place rfl
theorem d_MRm_place_15 : decode MRm_place.2.2.1 15 = .ok (.getfield 17, 3) := lkT_ok tk_MRm_place rfl
theorem d_MRm_place_18 : decode MRm_place.2.2.1 18 = .ok (.iload_n 2, 1) := lkT_ok tk_MRm_place rfl
theorem d_MRm_place_19 : decode MRm_place.2.2.1 19 = .ok (.iload_n 3, 1) := lkT_ok tk_MRm_place rfl
theorem d_MRm_place_20 : decode MRm_place.2.2.1 20 = .ok (.iastore, 1) := lkT_ok tk_MRm_place rfl
theorem d_MRm_place_21 : decode MRm_place.2.2.1 21 = .ok (.return_, 1) := lkT_ok tk_MRm_place rfl
theorem r_MRm_place_0 {l0 l2 l3 : Value} {x : Int32} : Rr X d MRm_place 0 [l0, .int x, l2, l3] st h = Rr X d MRm_place 1 [l0, .int x, l2, l3] (.int x :: st) h := Rr_nx d_MRm_place_0 rfl
theorem r_MRm_place_1 {x : Int32} : Rr X d MRm_place 1 L (.int x :: st) h = if ¬ x = 0 then Rr X d MRm_place 14 L st h else Rr X d MRm_place 4 L st h := R_if_ne d_MRm_place_1 (by decide)
theorem r_MRm_place_4 {l1 l2 l3 : Value} {x : Nat} : Rr X d MRm_place 4 [.ref x, l1, l2, l3] st h = Rr X d MRm_place 5 [.ref x, l1, l2, l3] (.ref x :: st) h := Rr_nx d_MRm_place_4 rfl
theorem r_MRm_place_5 {a : Nat} (hq : (qR a 10 8).isSome = true) : Rr X d MRm_place 5 L (.ref a :: st) (Wd mu la ro et) = Rr X d MRm_place 8 L (.ref (qRd a 10 8) :: st) (Wd mu la ro et) := R_gfR d_MRm_place_5 ff_10_26 hq
theorem r_MRm_place_8 {l0 l1 l3 : Value} {x : Int32} : Rr X d MRm_place 8 [l0, l1, .int x, l3] st h = Rr X d MRm_place 9 [l0, l1, .int x, l3] (.int x :: st) h := Rr_nx d_MRm_place_8 rfl
theorem r_MRm_place_9 {l0 l1 l2 : Value} {x : Int32} : Rr X d MRm_place 9 [l0, l1, l2, .int x] st h = Rr X d MRm_place 10 [l0, l1, l2, .int x] (.int x :: st) h := Rr_nx d_MRm_place_9 rfl
theorem r_MRm_place_10 {a : Nat} {j x : Int32} (hq : (qA a 0).isSome = true) : Rr X d MRm_place 10 L (.int x :: .int j :: .ref a :: st) (Wd mu la ro et) = if j < 0 ∨ qAd a 0 ≤ j.toNatClampNeg then none else Rr X d MRm_place 11 L st (Wd (up2 mu a j.toNatClampNeg (x)) la ro et) := R_iasW d_MRm_place_10 hq
theorem r_MRm_place_11 : Rr X d MRm_place 11 L st h = Rr X d MRm_place 21 L st h := R_goto d_MRm_place_11 (by decide)
theorem r_MRm_place_14 {l1 l2 l3 : Value} {x : Nat} : Rr X d MRm_place 14 [.ref x, l1, l2, l3] st h = Rr X d MRm_place 15 [.ref x, l1, l2, l3] (.ref x :: st) h := Rr_nx d_MRm_place_14 rfl
theorem r_MRm_place_15 {a : Nat} (hq : (qR a 10 5).isSome = true) : Rr X d MRm_place 15 L (.ref a :: st) (Wd mu la ro et) = Rr X d MRm_place 18 L (.ref (qRd a 10 5) :: st) (Wd mu la ro et) := R_gfR d_MRm_place_15 ff_10_17 hq
theorem r_MRm_place_18 {l0 l1 l3 : Value} {x : Int32} : Rr X d MRm_place 18 [l0, l1, .int x, l3] st h = Rr X d MRm_place 19 [l0, l1, .int x, l3] (.int x :: st) h := Rr_nx d_MRm_place_18 rfl
theorem r_MRm_place_19 {l0 l1 l2 : Value} {x : Int32} : Rr X d MRm_place 19 [l0, l1, l2, .int x] st h = Rr X d MRm_place 20 [l0, l1, l2, .int x] (.int x :: st) h := Rr_nx d_MRm_place_19 rfl
theorem r_MRm_place_20 {a : Nat} {j x : Int32} (hq : (qA a 0).isSome = true) : Rr X d MRm_place 20 L (.int x :: .int j :: .ref a :: st) (Wd mu la ro et) = if j < 0 ∨ qAd a 0 ≤ j.toNatClampNeg then none else Rr X d MRm_place 21 L st (Wd (up2 mu a j.toNatClampNeg (x)) la ro et) := R_iasW d_MRm_place_20 hq
theorem r_MRm_place_21 : Rr X d MRm_place 21 L [] h = some (none, h) := Rr_rt d_MRm_place_21 rfl
theorem d_MRm_changes_0 : decode MRm_changes.2.2.1 0 = .ok (.aload_n 0, 1) := lkT_ok tk_MRm_changes rfl
theorem d_MRm_changes_1 : decode MRm_changes.2.2.1 1 = .ok (.iload_n 1, 1) := lkT_ok tk_MRm_changes rfl
theorem d_MRm_changes_2 : decode MRm_changes.2.2.1 2 = .ok (.iload_n 2, 1) := lkT_ok tk_MRm_changes rfl
theorem d_MRm_changes_3 : decode MRm_changes.2.2.1 3 = .ok (.invokevirtual 180, 3) := lkT_ok tk_MRm_changes rfl
theorem d_MRm_changes_6 : decode MRm_changes.2.2.1 6 = .ok (.istore 4, 2) := lkT_ok tk_MRm_changes rfl
theorem d_MRm_changes_8 : decode MRm_changes.2.2.1 8 = .ok (.iload 4, 2) := lkT_ok tk_MRm_changes rfl
theorem d_MRm_changes_10 : decode MRm_changes.2.2.1 10 = .ok (.iload_n 3, 1) := lkT_ok tk_MRm_changes rfl
theorem d_MRm_changes_11 : decode MRm_changes.2.2.1 11 = .ok (.if_icmp .ne 6, 3) := lkT_ok tk_MRm_changes rfl
theorem d_MRm_changes_14 : decode MRm_changes.2.2.1 14 = .ok (.iload 4, 2) := lkT_ok tk_MRm_changes rfl
theorem d_MRm_changes_16 : decode MRm_changes.2.2.1 16 = .ok (.ireturn, 1) := lkT_ok tk_MRm_changes rfl
theorem d_MRm_changes_17 : decode MRm_changes.2.2.1 17 = .ok (.aload_n 0, 1) := lkT_ok tk_MRm_changes rfl
theorem d_MRm_changes_18 : decode MRm_changes.2.2.1 18 = .ok (.iconst 0, 1) := lkT_ok tk_MRm_changes rfl
theorem d_MRm_changes_19 : decode MRm_changes.2.2.1 19 = .ok (.putfield 184, 3) := lkT_ok tk_MRm_changes rfl
theorem d_MRm_changes_22 : decode MRm_changes.2.2.1 22 = .ok (.aload_n 0, 1) := lkT_ok tk_MRm_changes rfl
theorem d_MRm_changes_23 : decode MRm_changes.2.2.1 23 = .ok (.getfield 187, 3) := lkT_ok tk_MRm_changes rfl
theorem d_MRm_changes_26 : decode MRm_changes.2.2.1 26 = .ok (.bipush 40, 2) := lkT_ok tk_MRm_changes rfl
theorem d_MRm_changes_28 : decode MRm_changes.2.2.1 28 = .ok (.if_icmp .ne 93, 3) := lkT_ok tk_MRm_changes rfl
theorem d_MRm_changes_31 : decode MRm_changes.2.2.1 31 = .ok (.iconst 1, 1) := lkT_ok tk_MRm_changes rfl
theorem d_MRm_changes_32 : decode MRm_changes.2.2.1 32 = .ok (.istore 5, 2) := lkT_ok tk_MRm_changes rfl
theorem d_MRm_changes_34 : decode MRm_changes.2.2.1 34 = .ok (.iload 5, 2) := lkT_ok tk_MRm_changes rfl
theorem d_MRm_changes_36 : decode MRm_changes.2.2.1 36 = .ok (.bipush 40, 2) := lkT_ok tk_MRm_changes rfl
theorem d_MRm_changes_38 : decode MRm_changes.2.2.1 38 = .ok (.if_icmp .ge 73, 3) := lkT_ok tk_MRm_changes rfl
theorem d_MRm_changes_41 : decode MRm_changes.2.2.1 41 = .ok (.aload_n 0, 1) := lkT_ok tk_MRm_changes rfl
theorem d_MRm_changes_42 : decode MRm_changes.2.2.1 42 = .ok (.getfield 29, 3) := lkT_ok tk_MRm_changes rfl
theorem d_MRm_changes_45 : decode MRm_changes.2.2.1 45 = .ok (.iload 5, 2) := lkT_ok tk_MRm_changes rfl
theorem d_MRm_changes_47 : decode MRm_changes.2.2.1 47 = .ok (.iconst 1, 1) := lkT_ok tk_MRm_changes rfl
theorem d_MRm_changes_48 : decode MRm_changes.2.2.1 48 = .ok (.isub, 1) := lkT_ok tk_MRm_changes rfl
theorem d_MRm_changes_49 : decode MRm_changes.2.2.1 49 = .ok (.aload_n 0, 1) := lkT_ok tk_MRm_changes rfl
theorem d_MRm_changes_50 : decode MRm_changes.2.2.1 50 = .ok (.getfield 29, 3) := lkT_ok tk_MRm_changes rfl
theorem d_MRm_changes_53 : decode MRm_changes.2.2.1 53 = .ok (.iload 5, 2) := lkT_ok tk_MRm_changes rfl
theorem d_MRm_changes_55 : decode MRm_changes.2.2.1 55 = .ok (.iaload, 1) := lkT_ok tk_MRm_changes rfl
theorem d_MRm_changes_56 : decode MRm_changes.2.2.1 56 = .ok (.iastore, 1) := lkT_ok tk_MRm_changes rfl
theorem d_MRm_changes_57 : decode MRm_changes.2.2.1 57 = .ok (.aload_n 0, 1) := lkT_ok tk_MRm_changes rfl
theorem d_MRm_changes_58 : decode MRm_changes.2.2.1 58 = .ok (.getfield 32, 3) := lkT_ok tk_MRm_changes rfl
theorem d_MRm_changes_61 : decode MRm_changes.2.2.1 61 = .ok (.iload 5, 2) := lkT_ok tk_MRm_changes rfl
theorem d_MRm_changes_63 : decode MRm_changes.2.2.1 63 = .ok (.iconst 1, 1) := lkT_ok tk_MRm_changes rfl
theorem d_MRm_changes_64 : decode MRm_changes.2.2.1 64 = .ok (.isub, 1) := lkT_ok tk_MRm_changes rfl
theorem d_MRm_changes_65 : decode MRm_changes.2.2.1 65 = .ok (.aload_n 0, 1) := lkT_ok tk_MRm_changes rfl
theorem d_MRm_changes_66 : decode MRm_changes.2.2.1 66 = .ok (.getfield 32, 3) := lkT_ok tk_MRm_changes rfl
theorem d_MRm_changes_69 : decode MRm_changes.2.2.1 69 = .ok (.iload 5, 2) := lkT_ok tk_MRm_changes rfl
theorem d_MRm_changes_71 : decode MRm_changes.2.2.1 71 = .ok (.iaload, 1) := lkT_ok tk_MRm_changes rfl
theorem d_MRm_changes_72 : decode MRm_changes.2.2.1 72 = .ok (.iastore, 1) := lkT_ok tk_MRm_changes rfl
theorem d_MRm_changes_73 : decode MRm_changes.2.2.1 73 = .ok (.aload_n 0, 1) := lkT_ok tk_MRm_changes rfl
theorem d_MRm_changes_74 : decode MRm_changes.2.2.1 74 = .ok (.getfield 35, 3) := lkT_ok tk_MRm_changes rfl
theorem d_MRm_changes_77 : decode MRm_changes.2.2.1 77 = .ok (.iload 5, 2) := lkT_ok tk_MRm_changes rfl
theorem d_MRm_changes_79 : decode MRm_changes.2.2.1 79 = .ok (.iconst 1, 1) := lkT_ok tk_MRm_changes rfl
theorem d_MRm_changes_80 : decode MRm_changes.2.2.1 80 = .ok (.isub, 1) := lkT_ok tk_MRm_changes rfl
theorem d_MRm_changes_81 : decode MRm_changes.2.2.1 81 = .ok (.aload_n 0, 1) := lkT_ok tk_MRm_changes rfl
theorem d_MRm_changes_82 : decode MRm_changes.2.2.1 82 = .ok (.getfield 35, 3) := lkT_ok tk_MRm_changes rfl
theorem d_MRm_changes_85 : decode MRm_changes.2.2.1 85 = .ok (.iload 5, 2) := lkT_ok tk_MRm_changes rfl
theorem d_MRm_changes_87 : decode MRm_changes.2.2.1 87 = .ok (.iaload, 1) := lkT_ok tk_MRm_changes rfl
theorem d_MRm_changes_88 : decode MRm_changes.2.2.1 88 = .ok (.iastore, 1) := lkT_ok tk_MRm_changes rfl
theorem d_MRm_changes_89 : decode MRm_changes.2.2.1 89 = .ok (.aload_n 0, 1) := lkT_ok tk_MRm_changes rfl
theorem d_MRm_changes_90 : decode MRm_changes.2.2.1 90 = .ok (.getfield 38, 3) := lkT_ok tk_MRm_changes rfl
theorem d_MRm_changes_93 : decode MRm_changes.2.2.1 93 = .ok (.iload 5, 2) := lkT_ok tk_MRm_changes rfl
theorem d_MRm_changes_95 : decode MRm_changes.2.2.1 95 = .ok (.iconst 1, 1) := lkT_ok tk_MRm_changes rfl
theorem d_MRm_changes_96 : decode MRm_changes.2.2.1 96 = .ok (.isub, 1) := lkT_ok tk_MRm_changes rfl
theorem d_MRm_changes_97 : decode MRm_changes.2.2.1 97 = .ok (.aload_n 0, 1) := lkT_ok tk_MRm_changes rfl
theorem d_MRm_changes_98 : decode MRm_changes.2.2.1 98 = .ok (.getfield 38, 3) := lkT_ok tk_MRm_changes rfl
theorem d_MRm_changes_101 : decode MRm_changes.2.2.1 101 = .ok (.iload 5, 2) := lkT_ok tk_MRm_changes rfl
theorem d_MRm_changes_103 : decode MRm_changes.2.2.1 103 = .ok (.iaload, 1) := lkT_ok tk_MRm_changes rfl
theorem d_MRm_changes_104 : decode MRm_changes.2.2.1 104 = .ok (.iastore, 1) := lkT_ok tk_MRm_changes rfl
theorem d_MRm_changes_105 : decode MRm_changes.2.2.1 105 = .ok (.iinc 5 1, 3) := lkT_ok tk_MRm_changes rfl
theorem d_MRm_changes_108 : decode MRm_changes.2.2.1 108 = .ok (.goto (-74), 3) := lkT_ok tk_MRm_changes rfl
theorem d_MRm_changes_111 : decode MRm_changes.2.2.1 111 = .ok (.aload_n 0, 1) := lkT_ok tk_MRm_changes rfl
theorem d_MRm_changes_112 : decode MRm_changes.2.2.1 112 = .ok (.dup, 1) := lkT_ok tk_MRm_changes rfl
theorem d_MRm_changes_113 : decode MRm_changes.2.2.1 113 = .ok (.getfield 187, 3) := lkT_ok tk_MRm_changes rfl
theorem d_MRm_changes_116 : decode MRm_changes.2.2.1 116 = .ok (.iconst 1, 1) := lkT_ok tk_MRm_changes rfl
theorem d_MRm_changes_117 : decode MRm_changes.2.2.1 117 = .ok (.isub, 1) := lkT_ok tk_MRm_changes rfl
theorem d_MRm_changes_118 : decode MRm_changes.2.2.1 118 = .ok (.putfield 187, 3) := lkT_ok tk_MRm_changes rfl
theorem d_MRm_changes_121 : decode MRm_changes.2.2.1 121 = .ok (.aload_n 0, 1) := lkT_ok tk_MRm_changes rfl
theorem d_MRm_changes_122 : decode MRm_changes.2.2.1 122 = .ok (.getfield 29, 3) := lkT_ok tk_MRm_changes rfl
theorem d_MRm_changes_125 : decode MRm_changes.2.2.1 125 = .ok (.aload_n 0, 1) := lkT_ok tk_MRm_changes rfl
theorem d_MRm_changes_126 : decode MRm_changes.2.2.1 126 = .ok (.getfield 187, 3) := lkT_ok tk_MRm_changes rfl
theorem d_MRm_changes_129 : decode MRm_changes.2.2.1 129 = .ok (.iload_n 1, 1) := lkT_ok tk_MRm_changes rfl
theorem d_MRm_changes_130 : decode MRm_changes.2.2.1 130 = .ok (.iastore, 1) := lkT_ok tk_MRm_changes rfl
theorem d_MRm_changes_131 : decode MRm_changes.2.2.1 131 = .ok (.aload_n 0, 1) := lkT_ok tk_MRm_changes rfl
theorem d_MRm_changes_132 : decode MRm_changes.2.2.1 132 = .ok (.getfield 32, 3) := lkT_ok tk_MRm_changes rfl
theorem d_MRm_changes_135 : decode MRm_changes.2.2.1 135 = .ok (.aload_n 0, 1) := lkT_ok tk_MRm_changes rfl
theorem d_MRm_changes_136 : decode MRm_changes.2.2.1 136 = .ok (.getfield 187, 3) := lkT_ok tk_MRm_changes rfl
theorem d_MRm_changes_139 : decode MRm_changes.2.2.1 139 = .ok (.iload_n 2, 1) := lkT_ok tk_MRm_changes rfl
theorem d_MRm_changes_140 : decode MRm_changes.2.2.1 140 = .ok (.iastore, 1) := lkT_ok tk_MRm_changes rfl
theorem d_MRm_changes_141 : decode MRm_changes.2.2.1 141 = .ok (.aload_n 0, 1) := lkT_ok tk_MRm_changes rfl
theorem d_MRm_changes_142 : decode MRm_changes.2.2.1 142 = .ok (.getfield 35, 3) := lkT_ok tk_MRm_changes rfl
theorem d_MRm_changes_145 : decode MRm_changes.2.2.1 145 = .ok (.aload_n 0, 1) := lkT_ok tk_MRm_changes rfl
theorem d_MRm_changes_146 : decode MRm_changes.2.2.1 146 = .ok (.getfield 187, 3) := lkT_ok tk_MRm_changes rfl
theorem d_MRm_changes_149 : decode MRm_changes.2.2.1 149 = .ok (.iload 4, 2) := lkT_ok tk_MRm_changes rfl
theorem d_MRm_changes_151 : decode MRm_changes.2.2.1 151 = .ok (.iastore, 1) := lkT_ok tk_MRm_changes rfl
theorem d_MRm_changes_152 : decode MRm_changes.2.2.1 152 = .ok (.aload_n 0, 1) := lkT_ok tk_MRm_changes rfl
theorem d_MRm_changes_153 : decode MRm_changes.2.2.1 153 = .ok (.getfield 38, 3) := lkT_ok tk_MRm_changes rfl
theorem d_MRm_changes_156 : decode MRm_changes.2.2.1 156 = .ok (.aload_n 0, 1) := lkT_ok tk_MRm_changes rfl
theorem d_MRm_changes_157 : decode MRm_changes.2.2.1 157 = .ok (.getfield 187, 3) := lkT_ok tk_MRm_changes rfl
theorem d_MRm_changes_160 : decode MRm_changes.2.2.1 160 = .ok (.iload_n 3, 1) := lkT_ok tk_MRm_changes rfl
theorem d_MRm_changes_161 : decode MRm_changes.2.2.1 161 = .ok (.iastore, 1) := lkT_ok tk_MRm_changes rfl
theorem d_MRm_changes_162 : decode MRm_changes.2.2.1 162 = .ok (.aload_n 0, 1) := lkT_ok tk_MRm_changes rfl
theorem d_MRm_changes_163 : decode MRm_changes.2.2.1 163 = .ok (.dup, 1) := lkT_ok tk_MRm_changes rfl
theorem d_MRm_changes_164 : decode MRm_changes.2.2.1 164 = .ok (.getfield 187, 3) := lkT_ok tk_MRm_changes rfl
theorem d_MRm_changes_167 : decode MRm_changes.2.2.1 167 = .ok (.iconst 1, 1) := lkT_ok tk_MRm_changes rfl
theorem d_MRm_changes_168 : decode MRm_changes.2.2.1 168 = .ok (.iadd, 1) := lkT_ok tk_MRm_changes rfl
theorem d_MRm_changes_169 : decode MRm_changes.2.2.1 169 = .ok (.putfield 187, 3) := lkT_ok tk_MRm_changes rfl
theorem d_MRm_changes_172 : decode MRm_changes.2.2.1 172 = .ok (.aload_n 0, 1) := lkT_ok tk_MRm_changes rfl
theorem d_MRm_changes_173 : decode MRm_changes.2.2.1 173 = .ok (.iload_n 1, 1) := lkT_ok tk_MRm_changes rfl
theorem d_MRm_changes_174 : decode MRm_changes.2.2.1 174 = .ok (.iload_n 2, 1) := lkT_ok tk_MRm_changes rfl
theorem d_MRm_changes_175 : decode MRm_changes.2.2.1 175 = .ok (.iload_n 3, 1) := lkT_ok tk_MRm_changes rfl
theorem d_MRm_changes_176 : decode MRm_changes.2.2.1 176 = .ok (.invokevirtual 190, 3) := lkT_ok tk_MRm_changes rfl
theorem d_MRm_changes_179 : decode MRm_changes.2.2.1 179 = .ok (.iload 4, 2) := lkT_ok tk_MRm_changes rfl
theorem d_MRm_changes_181 : decode MRm_changes.2.2.1 181 = .ok (.ireturn, 1) := lkT_ok tk_MRm_changes rfl
theorem r_MRm_changes_0 {l1 l2 l3 l4 l5 : Value} {x : Nat} : Rr X d MRm_changes 0 [.ref x, l1, l2, l3, l4, l5] st h = Rr X d MRm_changes 1 [.ref x, l1, l2, l3, l4, l5] (.ref x :: st) h := Rr_nx d_MRm_changes_0 rfl
theorem r_MRm_changes_1 {l0 l2 l3 l4 l5 : Value} {x : Int32} : Rr X d MRm_changes 1 [l0, .int x, l2, l3, l4, l5] st h = Rr X d MRm_changes 2 [l0, .int x, l2, l3, l4, l5] (.int x :: st) h := Rr_nx d_MRm_changes_1 rfl
theorem r_MRm_changes_2 {l0 l1 l3 l4 l5 : Value} {x : Int32} : Rr X d MRm_changes 2 [l0, l1, .int x, l3, l4, l5] st h = Rr X d MRm_changes 3 [l0, l1, .int x, l3, l4, l5] (.int x :: st) h := Rr_nx d_MRm_changes_2 rfl
theorem fc_10_180 : fC 10 180 = some (0, 10, 2, MRm_valueAt) := rfl
theorem r_MRm_changes_3 {y0 : Int32} {y1 : Int32} {a : Nat} (hO : qO a 10 = true) (hc : ckS st = true) : Rr X (d + 1) MRm_changes 3 L (.int y1 :: .int y0 :: .ref a :: st) (Wd mu la ro et) = (Rr X d MRm_valueAt 0 [.ref a, .int y0, .int y1] [] (Wd mu la ro et)).bind fun q => Rr X (d + 1) MRm_changes 6 L (psh q.1 st) q.2 := R_iv (av := [.int y1, .int y0]) d_MRm_changes_3 fc_10_180 hO (ckS_le hc) rfl (Nat.le_of_ble_eq_true rfl) (Nat.le_of_ble_eq_true rfl)
theorem r_MRm_changes_6 {l0 l1 l2 l3 l4 l5 : Value} {x : Int32} : Rr X d MRm_changes 6 [l0, l1, l2, l3, l4, l5] (.int x :: st) h = Rr X d MRm_changes 8 (sL [l0, l1, l2, l3, l4, l5] 4 (.int x)) st h := Rr_nx d_MRm_changes_6 rfl
theorem r_MRm_changes_8 {l0 l1 l2 l3 l5 : Value} {x : Int32} : Rr X d MRm_changes 8 [l0, l1, l2, l3, .int x, l5] st h = Rr X d MRm_changes 10 [l0, l1, l2, l3, .int x, l5] (.int x :: st) h := Rr_nx d_MRm_changes_8 rfl
theorem r_MRm_changes_10 {l0 l1 l2 l4 l5 : Value} {x : Int32} : Rr X d MRm_changes 10 [l0, l1, l2, .int x, l4, l5] st h = Rr X d MRm_changes 11 [l0, l1, l2, .int x, l4, l5] (.int x :: st) h := Rr_nx d_MRm_changes_10 rfl
theorem r_MRm_changes_11 {x y : Int32} : Rr X d MRm_changes 11 L (.int y :: .int x :: st) h = if ¬ x = y then Rr X d MRm_changes 17 L st h else Rr X d MRm_changes 14 L st h := R_ic_ne d_MRm_changes_11 (by decide)
theorem r_MRm_changes_14 {l0 l1 l2 l3 l5 : Value} {x : Int32} : Rr X d MRm_changes 14 [l0, l1, l2, l3, .int x, l5] st h = Rr X d MRm_changes 16 [l0, l1, l2, l3, .int x, l5] (.int x :: st) h := Rr_nx d_MRm_changes_14 rfl
theorem r_MRm_changes_16 {x : Int32} : Rr X d MRm_changes 16 L [.int x] h = some (some (.int x), h) := R_ir d_MRm_changes_16 rfl
theorem r_MRm_changes_17 {l1 l2 l3 l4 l5 : Value} {x : Nat} : Rr X d MRm_changes 17 [.ref x, l1, l2, l3, l4, l5] st h = Rr X d MRm_changes 18 [.ref x, l1, l2, l3, l4, l5] (.ref x :: st) h := Rr_nx d_MRm_changes_17 rfl
theorem r_MRm_changes_18 : Rr X d MRm_changes 18 L st h = Rr X d MRm_changes 19 L (.int (0) :: st) h := Rr_nx d_MRm_changes_18 rfl
theorem ff_10_184 : fF 10 184 = some (10, 13, 0, 0) := rfl
theorem r_MRm_changes_19 {a : Nat} {x : Int32} (hq : qI a 10 13 = true) : Rr X d MRm_changes 19 L (.int x :: .ref a :: st) (Wd mu la ro et) = Rr X d MRm_changes 22 L st (Wd (up2 mu a 13 x) la ro et) := R_pfI d_MRm_changes_19 ff_10_184 hq
theorem r_MRm_changes_22 {l1 l2 l3 l4 l5 : Value} {x : Nat} : Rr X d MRm_changes 22 [.ref x, l1, l2, l3, l4, l5] st h = Rr X d MRm_changes 23 [.ref x, l1, l2, l3, l4, l5] (.ref x :: st) h := Rr_nx d_MRm_changes_22 rfl
theorem ff_10_187 : fF 10 187 = some (10, 12, 0, 0) := rfl
theorem r_MRm_changes_23 {a : Nat} (hq : qI a 10 12 = true) : Rr X d MRm_changes 23 L (.ref a :: st) (Wd mu la ro et) = Rr X d MRm_changes 26 L (.int (mu a 12) :: st) (Wd mu la ro et) := R_gfI d_MRm_changes_23 ff_10_187 hq
theorem r_MRm_changes_26 : Rr X d MRm_changes 26 L st h = Rr X d MRm_changes 28 L (.int (40) :: st) h := Rr_nx d_MRm_changes_26 rfl
theorem r_MRm_changes_28 {x y : Int32} : Rr X d MRm_changes 28 L (.int y :: .int x :: st) h = if ¬ x = y then Rr X d MRm_changes 121 L st h else Rr X d MRm_changes 31 L st h := R_ic_ne d_MRm_changes_28 (by decide)
theorem r_MRm_changes_31 : Rr X d MRm_changes 31 L st h = Rr X d MRm_changes 32 L (.int (1) :: st) h := Rr_nx d_MRm_changes_31 rfl
theorem r_MRm_changes_32 {l0 l1 l2 l3 l4 l5 : Value} {x : Int32} : Rr X d MRm_changes 32 [l0, l1, l2, l3, l4, l5] (.int x :: st) h = Rr X d MRm_changes 34 (sL [l0, l1, l2, l3, l4, l5] 5 (.int x)) st h := Rr_nx d_MRm_changes_32 rfl
theorem r_MRm_changes_34 {l0 l1 l2 l3 l4 : Value} {x : Int32} : Rr X d MRm_changes 34 [l0, l1, l2, l3, l4, .int x] st h = Rr X d MRm_changes 36 [l0, l1, l2, l3, l4, .int x] (.int x :: st) h := Rr_nx d_MRm_changes_34 rfl
theorem r_MRm_changes_36 : Rr X d MRm_changes 36 L st h = Rr X d MRm_changes 38 L (.int (40) :: st) h := Rr_nx d_MRm_changes_36 rfl
theorem r_MRm_changes_38 {x y : Int32} : Rr X d MRm_changes 38 L (.int y :: .int x :: st) h = if y ≤ x then Rr X d MRm_changes 111 L st h else Rr X d MRm_changes 41 L st h := R_ic_ge d_MRm_changes_38 (by decide)
theorem r_MRm_changes_41 {l1 l2 l3 l4 l5 : Value} {x : Nat} : Rr X d MRm_changes 41 [.ref x, l1, l2, l3, l4, l5] st h = Rr X d MRm_changes 42 [.ref x, l1, l2, l3, l4, l5] (.ref x :: st) h := Rr_nx d_MRm_changes_41 rfl
theorem ff_10_29 : fF 10 29 = some (10, 14, 1, 1) := rfl
theorem r_MRm_changes_42 {a : Nat} (hq : (qR a 10 14).isSome = true) : Rr X d MRm_changes 42 L (.ref a :: st) (Wd mu la ro et) = Rr X d MRm_changes 45 L (.ref (qRd a 10 14) :: st) (Wd mu la ro et) := R_gfR d_MRm_changes_42 ff_10_29 hq
theorem r_MRm_changes_45 {l0 l1 l2 l3 l4 : Value} {x : Int32} : Rr X d MRm_changes 45 [l0, l1, l2, l3, l4, .int x] st h = Rr X d MRm_changes 47 [l0, l1, l2, l3, l4, .int x] (.int x :: st) h := Rr_nx d_MRm_changes_45 rfl
theorem r_MRm_changes_47 : Rr X d MRm_changes 47 L st h = Rr X d MRm_changes 48 L (.int (1) :: st) h := Rr_nx d_MRm_changes_47 rfl
theorem r_MRm_changes_48 {x y : Int32} : Rr X d MRm_changes 48 L (.int y :: .int x :: st) h = Rr X d MRm_changes 49 L (.int (x - y) :: st) h := Rr_nx d_MRm_changes_48 rfl
theorem r_MRm_changes_49 {l1 l2 l3 l4 l5 : Value} {x : Nat} : Rr X d MRm_changes 49 [.ref x, l1, l2, l3, l4, l5] st h = Rr X d MRm_changes 50 [.ref x, l1, l2, l3, l4, l5] (.ref x :: st) h := Rr_nx d_MRm_changes_49 rfl
theorem r_MRm_changes_50 {a : Nat} (hq : (qR a 10 14).isSome = true) : Rr X d MRm_changes 50 L (.ref a :: st) (Wd mu la ro et) = Rr X d MRm_changes 53 L (.ref (qRd a 10 14) :: st) (Wd mu la ro et) := R_gfR d_MRm_changes_50 ff_10_29 hq
theorem r_MRm_changes_53 {l0 l1 l2 l3 l4 : Value} {x : Int32} : Rr X d MRm_changes 53 [l0, l1, l2, l3, l4, .int x] st h = Rr X d MRm_changes 55 [l0, l1, l2, l3, l4, .int x] (.int x :: st) h := Rr_nx d_MRm_changes_53 rfl
theorem r_MRm_changes_55 {a : Nat} {j : Int32} (hq : (qA a 0).isSome = true) : Rr X d MRm_changes 55 L (.int j :: .ref a :: st) (Wd mu la ro et) = if j < 0 ∨ qAd a 0 ≤ j.toNatClampNeg then none else Rr X d MRm_changes 56 L (.int (mu a j.toNatClampNeg) :: st) (Wd mu la ro et) := R_ialW d_MRm_changes_55 hq
theorem r_MRm_changes_56 {a : Nat} {j x : Int32} (hq : (qA a 0).isSome = true) : Rr X d MRm_changes 56 L (.int x :: .int j :: .ref a :: st) (Wd mu la ro et) = if j < 0 ∨ qAd a 0 ≤ j.toNatClampNeg then none else Rr X d MRm_changes 57 L st (Wd (up2 mu a j.toNatClampNeg (x)) la ro et) := R_iasW d_MRm_changes_56 hq
theorem r_MRm_changes_57 {l1 l2 l3 l4 l5 : Value} {x : Nat} : Rr X d MRm_changes 57 [.ref x, l1, l2, l3, l4, l5] st h = Rr X d MRm_changes 58 [.ref x, l1, l2, l3, l4, l5] (.ref x :: st) h := Rr_nx d_MRm_changes_57 rfl
theorem ff_10_32 : fF 10 32 = some (10, 15, 1, 1) := rfl
theorem r_MRm_changes_58 {a : Nat} (hq : (qR a 10 15).isSome = true) : Rr X d MRm_changes 58 L (.ref a :: st) (Wd mu la ro et) = Rr X d MRm_changes 61 L (.ref (qRd a 10 15) :: st) (Wd mu la ro et) := R_gfR d_MRm_changes_58 ff_10_32 hq
theorem r_MRm_changes_61 {l0 l1 l2 l3 l4 : Value} {x : Int32} : Rr X d MRm_changes 61 [l0, l1, l2, l3, l4, .int x] st h = Rr X d MRm_changes 63 [l0, l1, l2, l3, l4, .int x] (.int x :: st) h := Rr_nx d_MRm_changes_61 rfl
theorem r_MRm_changes_63 : Rr X d MRm_changes 63 L st h = Rr X d MRm_changes 64 L (.int (1) :: st) h := Rr_nx d_MRm_changes_63 rfl
theorem r_MRm_changes_64 {x y : Int32} : Rr X d MRm_changes 64 L (.int y :: .int x :: st) h = Rr X d MRm_changes 65 L (.int (x - y) :: st) h := Rr_nx d_MRm_changes_64 rfl
theorem r_MRm_changes_65 {l1 l2 l3 l4 l5 : Value} {x : Nat} : Rr X d MRm_changes 65 [.ref x, l1, l2, l3, l4, l5] st h = Rr X d MRm_changes 66 [.ref x, l1, l2, l3, l4, l5] (.ref x :: st) h := Rr_nx d_MRm_changes_65 rfl
theorem r_MRm_changes_66 {a : Nat} (hq : (qR a 10 15).isSome = true) : Rr X d MRm_changes 66 L (.ref a :: st) (Wd mu la ro et) = Rr X d MRm_changes 69 L (.ref (qRd a 10 15) :: st) (Wd mu la ro et) := R_gfR d_MRm_changes_66 ff_10_32 hq
theorem r_MRm_changes_69 {l0 l1 l2 l3 l4 : Value} {x : Int32} : Rr X d MRm_changes 69 [l0, l1, l2, l3, l4, .int x] st h = Rr X d MRm_changes 71 [l0, l1, l2, l3, l4, .int x] (.int x :: st) h := Rr_nx d_MRm_changes_69 rfl
theorem r_MRm_changes_71 {a : Nat} {j : Int32} (hq : (qA a 0).isSome = true) : Rr X d MRm_changes 71 L (.int j :: .ref a :: st) (Wd mu la ro et) = if j < 0 ∨ qAd a 0 ≤ j.toNatClampNeg then none else Rr X d MRm_changes 72 L (.int (mu a j.toNatClampNeg) :: st) (Wd mu la ro et) := R_ialW d_MRm_changes_71 hq
theorem r_MRm_changes_72 {a : Nat} {j x : Int32} (hq : (qA a 0).isSome = true) : Rr X d MRm_changes 72 L (.int x :: .int j :: .ref a :: st) (Wd mu la ro et) = if j < 0 ∨ qAd a 0 ≤ j.toNatClampNeg then none else Rr X d MRm_changes 73 L st (Wd (up2 mu a j.toNatClampNeg (x)) la ro et) := R_iasW d_MRm_changes_72 hq
theorem r_MRm_changes_73 {l1 l2 l3 l4 l5 : Value} {x : Nat} : Rr X d MRm_changes 73 [.ref x, l1, l2, l3, l4, l5] st h = Rr X d MRm_changes 74 [.ref x, l1, l2, l3, l4, l5] (.ref x :: st) h := Rr_nx d_MRm_changes_73 rfl
theorem ff_10_35 : fF 10 35 = some (10, 16, 1, 1) := rfl
theorem r_MRm_changes_74 {a : Nat} (hq : (qR a 10 16).isSome = true) : Rr X d MRm_changes 74 L (.ref a :: st) (Wd mu la ro et) = Rr X d MRm_changes 77 L (.ref (qRd a 10 16) :: st) (Wd mu la ro et) := R_gfR d_MRm_changes_74 ff_10_35 hq
theorem r_MRm_changes_77 {l0 l1 l2 l3 l4 : Value} {x : Int32} : Rr X d MRm_changes 77 [l0, l1, l2, l3, l4, .int x] st h = Rr X d MRm_changes 79 [l0, l1, l2, l3, l4, .int x] (.int x :: st) h := Rr_nx d_MRm_changes_77 rfl
theorem r_MRm_changes_79 : Rr X d MRm_changes 79 L st h = Rr X d MRm_changes 80 L (.int (1) :: st) h := Rr_nx d_MRm_changes_79 rfl
theorem r_MRm_changes_80 {x y : Int32} : Rr X d MRm_changes 80 L (.int y :: .int x :: st) h = Rr X d MRm_changes 81 L (.int (x - y) :: st) h := Rr_nx d_MRm_changes_80 rfl
theorem r_MRm_changes_81 {l1 l2 l3 l4 l5 : Value} {x : Nat} : Rr X d MRm_changes 81 [.ref x, l1, l2, l3, l4, l5] st h = Rr X d MRm_changes 82 [.ref x, l1, l2, l3, l4, l5] (.ref x :: st) h := Rr_nx d_MRm_changes_81 rfl
theorem r_MRm_changes_82 {a : Nat} (hq : (qR a 10 16).isSome = true) : Rr X d MRm_changes 82 L (.ref a :: st) (Wd mu la ro et) = Rr X d MRm_changes 85 L (.ref (qRd a 10 16) :: st) (Wd mu la ro et) := R_gfR d_MRm_changes_82 ff_10_35 hq
theorem r_MRm_changes_85 {l0 l1 l2 l3 l4 : Value} {x : Int32} : Rr X d MRm_changes 85 [l0, l1, l2, l3, l4, .int x] st h = Rr X d MRm_changes 87 [l0, l1, l2, l3, l4, .int x] (.int x :: st) h := Rr_nx d_MRm_changes_85 rfl
theorem r_MRm_changes_87 {a : Nat} {j : Int32} (hq : (qA a 0).isSome = true) : Rr X d MRm_changes 87 L (.int j :: .ref a :: st) (Wd mu la ro et) = if j < 0 ∨ qAd a 0 ≤ j.toNatClampNeg then none else Rr X d MRm_changes 88 L (.int (mu a j.toNatClampNeg) :: st) (Wd mu la ro et) := R_ialW d_MRm_changes_87 hq
theorem r_MRm_changes_88 {a : Nat} {j x : Int32} (hq : (qA a 0).isSome = true) : Rr X d MRm_changes 88 L (.int x :: .int j :: .ref a :: st) (Wd mu la ro et) = if j < 0 ∨ qAd a 0 ≤ j.toNatClampNeg then none else Rr X d MRm_changes 89 L st (Wd (up2 mu a j.toNatClampNeg (x)) la ro et) := R_iasW d_MRm_changes_88 hq
theorem r_MRm_changes_89 {l1 l2 l3 l4 l5 : Value} {x : Nat} : Rr X d MRm_changes 89 [.ref x, l1, l2, l3, l4, l5] st h = Rr X d MRm_changes 90 [.ref x, l1, l2, l3, l4, l5] (.ref x :: st) h := Rr_nx d_MRm_changes_89 rfl
theorem ff_10_38 : fF 10 38 = some (10, 17, 1, 1) := rfl
theorem r_MRm_changes_90 {a : Nat} (hq : (qR a 10 17).isSome = true) : Rr X d MRm_changes 90 L (.ref a :: st) (Wd mu la ro et) = Rr X d MRm_changes 93 L (.ref (qRd a 10 17) :: st) (Wd mu la ro et) := R_gfR d_MRm_changes_90 ff_10_38 hq
theorem r_MRm_changes_93 {l0 l1 l2 l3 l4 : Value} {x : Int32} : Rr X d MRm_changes 93 [l0, l1, l2, l3, l4, .int x] st h = Rr X d MRm_changes 95 [l0, l1, l2, l3, l4, .int x] (.int x :: st) h := Rr_nx d_MRm_changes_93 rfl
theorem r_MRm_changes_95 : Rr X d MRm_changes 95 L st h = Rr X d MRm_changes 96 L (.int (1) :: st) h := Rr_nx d_MRm_changes_95 rfl
theorem r_MRm_changes_96 {x y : Int32} : Rr X d MRm_changes 96 L (.int y :: .int x :: st) h = Rr X d MRm_changes 97 L (.int (x - y) :: st) h := Rr_nx d_MRm_changes_96 rfl
theorem r_MRm_changes_97 {l1 l2 l3 l4 l5 : Value} {x : Nat} : Rr X d MRm_changes 97 [.ref x, l1, l2, l3, l4, l5] st h = Rr X d MRm_changes 98 [.ref x, l1, l2, l3, l4, l5] (.ref x :: st) h := Rr_nx d_MRm_changes_97 rfl
theorem r_MRm_changes_98 {a : Nat} (hq : (qR a 10 17).isSome = true) : Rr X d MRm_changes 98 L (.ref a :: st) (Wd mu la ro et) = Rr X d MRm_changes 101 L (.ref (qRd a 10 17) :: st) (Wd mu la ro et) := R_gfR d_MRm_changes_98 ff_10_38 hq
theorem r_MRm_changes_101 {l0 l1 l2 l3 l4 : Value} {x : Int32} : Rr X d MRm_changes 101 [l0, l1, l2, l3, l4, .int x] st h = Rr X d MRm_changes 103 [l0, l1, l2, l3, l4, .int x] (.int x :: st) h := Rr_nx d_MRm_changes_101 rfl
theorem r_MRm_changes_103 {a : Nat} {j : Int32} (hq : (qA a 0).isSome = true) : Rr X d MRm_changes 103 L (.int j :: .ref a :: st) (Wd mu la ro et) = if j < 0 ∨ qAd a 0 ≤ j.toNatClampNeg then none else Rr X d MRm_changes 104 L (.int (mu a j.toNatClampNeg) :: st) (Wd mu la ro et) := R_ialW d_MRm_changes_103 hq
theorem r_MRm_changes_104 {a : Nat} {j x : Int32} (hq : (qA a 0).isSome = true) : Rr X d MRm_changes 104 L (.int x :: .int j :: .ref a :: st) (Wd mu la ro et) = if j < 0 ∨ qAd a 0 ≤ j.toNatClampNeg then none else Rr X d MRm_changes 105 L st (Wd (up2 mu a j.toNatClampNeg (x)) la ro et) := R_iasW d_MRm_changes_104 hq
theorem r_MRm_changes_105 {l0 l1 l2 l3 l4 : Value} {x : Int32} : Rr X d MRm_changes 105 [l0, l1, l2, l3, l4, .int x] st h = Rr X d MRm_changes 108 (sL [l0, l1, l2, l3, l4, .int x] 5 (.int (x + (1)))) st h := Rr_nx d_MRm_changes_105 rfl
theorem r_MRm_changes_108 : Rr X d MRm_changes 108 L st h = Rr X d MRm_changes 34 L st h := R_goto d_MRm_changes_108 (by decide)
theorem r_MRm_changes_111 {l1 l2 l3 l4 l5 : Value} {x : Nat} : Rr X d MRm_changes 111 [.ref x, l1, l2, l3, l4, l5] st h = Rr X d MRm_changes 112 [.ref x, l1, l2, l3, l4, l5] (.ref x :: st) h := Rr_nx d_MRm_changes_111 rfl
theorem r_MRm_changes_112 {x : Nat} : Rr X d MRm_changes 112 L (.ref x :: st) h = Rr X d MRm_changes 113 L (.ref x :: .ref x :: st) h := Rr_nx d_MRm_changes_112 rfl
theorem r_MRm_changes_112i {x : Int32} : Rr X d MRm_changes 112 L (.int x :: st) h = Rr X d MRm_changes 113 L (.int x :: .int x :: st) h := Rr_nx d_MRm_changes_112 rfl
theorem r_MRm_changes_113 {a : Nat} (hq : qI a 10 12 = true) : Rr X d MRm_changes 113 L (.ref a :: st) (Wd mu la ro et) = Rr X d MRm_changes 116 L (.int (mu a 12) :: st) (Wd mu la ro et) := R_gfI d_MRm_changes_113 ff_10_187 hq
theorem r_MRm_changes_116 : Rr X d MRm_changes 116 L st h = Rr X d MRm_changes 117 L (.int (1) :: st) h := Rr_nx d_MRm_changes_116 rfl
theorem r_MRm_changes_117 {x y : Int32} : Rr X d MRm_changes 117 L (.int y :: .int x :: st) h = Rr X d MRm_changes 118 L (.int (x - y) :: st) h := Rr_nx d_MRm_changes_117 rfl
theorem r_MRm_changes_118 {a : Nat} {x : Int32} (hq : qI a 10 12 = true) : Rr X d MRm_changes 118 L (.int x :: .ref a :: st) (Wd mu la ro et) = Rr X d MRm_changes 121 L st (Wd (up2 mu a 12 x) la ro et) := R_pfI d_MRm_changes_118 ff_10_187 hq
theorem r_MRm_changes_121 {l1 l2 l3 l4 l5 : Value} {x : Nat} : Rr X d MRm_changes 121 [.ref x, l1, l2, l3, l4, l5] st h = Rr X d MRm_changes 122 [.ref x, l1, l2, l3, l4, l5] (.ref x :: st) h := Rr_nx d_MRm_changes_121 rfl
theorem r_MRm_changes_122 {a : Nat} (hq : (qR a 10 14).isSome = true) : Rr X d MRm_changes 122 L (.ref a :: st) (Wd mu la ro et) = Rr X d MRm_changes 125 L (.ref (qRd a 10 14) :: st) (Wd mu la ro et) := R_gfR d_MRm_changes_122 ff_10_29 hq
theorem r_MRm_changes_125 {l1 l2 l3 l4 l5 : Value} {x : Nat} : Rr X d MRm_changes 125 [.ref x, l1, l2, l3, l4, l5] st h = Rr X d MRm_changes 126 [.ref x, l1, l2, l3, l4, l5] (.ref x :: st) h := Rr_nx d_MRm_changes_125 rfl
theorem r_MRm_changes_126 {a : Nat} (hq : qI a 10 12 = true) : Rr X d MRm_changes 126 L (.ref a :: st) (Wd mu la ro et) = Rr X d MRm_changes 129 L (.int (mu a 12) :: st) (Wd mu la ro et) := R_gfI d_MRm_changes_126 ff_10_187 hq
theorem r_MRm_changes_129 {l0 l2 l3 l4 l5 : Value} {x : Int32} : Rr X d MRm_changes 129 [l0, .int x, l2, l3, l4, l5] st h = Rr X d MRm_changes 130 [l0, .int x, l2, l3, l4, l5] (.int x :: st) h := Rr_nx d_MRm_changes_129 rfl
theorem r_MRm_changes_130 {a : Nat} {j x : Int32} (hq : (qA a 0).isSome = true) : Rr X d MRm_changes 130 L (.int x :: .int j :: .ref a :: st) (Wd mu la ro et) = if j < 0 ∨ qAd a 0 ≤ j.toNatClampNeg then none else Rr X d MRm_changes 131 L st (Wd (up2 mu a j.toNatClampNeg (x)) la ro et) := R_iasW d_MRm_changes_130 hq
theorem r_MRm_changes_131 {l1 l2 l3 l4 l5 : Value} {x : Nat} : Rr X d MRm_changes 131 [.ref x, l1, l2, l3, l4, l5] st h = Rr X d MRm_changes 132 [.ref x, l1, l2, l3, l4, l5] (.ref x :: st) h := Rr_nx d_MRm_changes_131 rfl
theorem r_MRm_changes_132 {a : Nat} (hq : (qR a 10 15).isSome = true) : Rr X d MRm_changes 132 L (.ref a :: st) (Wd mu la ro et) = Rr X d MRm_changes 135 L (.ref (qRd a 10 15) :: st) (Wd mu la ro et) := R_gfR d_MRm_changes_132 ff_10_32 hq
theorem r_MRm_changes_135 {l1 l2 l3 l4 l5 : Value} {x : Nat} : Rr X d MRm_changes 135 [.ref x, l1, l2, l3, l4, l5] st h = Rr X d MRm_changes 136 [.ref x, l1, l2, l3, l4, l5] (.ref x :: st) h := Rr_nx d_MRm_changes_135 rfl
theorem r_MRm_changes_136 {a : Nat} (hq : qI a 10 12 = true) : Rr X d MRm_changes 136 L (.ref a :: st) (Wd mu la ro et) = Rr X d MRm_changes 139 L (.int (mu a 12) :: st) (Wd mu la ro et) := R_gfI d_MRm_changes_136 ff_10_187 hq
theorem r_MRm_changes_139 {l0 l1 l3 l4 l5 : Value} {x : Int32} : Rr X d MRm_changes 139 [l0, l1, .int x, l3, l4, l5] st h = Rr X d MRm_changes 140 [l0, l1, .int x, l3, l4, l5] (.int x :: st) h := Rr_nx d_MRm_changes_139 rfl
theorem r_MRm_changes_140 {a : Nat} {j x : Int32} (hq : (qA a 0).isSome = true) : Rr X d MRm_changes 140 L (.int x :: .int j :: .ref a :: st) (Wd mu la ro et) = if j < 0 ∨ qAd a 0 ≤ j.toNatClampNeg then none else Rr X d MRm_changes 141 L st (Wd (up2 mu a j.toNatClampNeg (x)) la ro et) := R_iasW d_MRm_changes_140 hq
theorem r_MRm_changes_141 {l1 l2 l3 l4 l5 : Value} {x : Nat} : Rr X d MRm_changes 141 [.ref x, l1, l2, l3, l4, l5] st h = Rr X d MRm_changes 142 [.ref x, l1, l2, l3, l4, l5] (.ref x :: st) h := Rr_nx d_MRm_changes_141 rfl
theorem r_MRm_changes_142 {a : Nat} (hq : (qR a 10 16).isSome = true) : Rr X d MRm_changes 142 L (.ref a :: st) (Wd mu la ro et) = Rr X d MRm_changes 145 L (.ref (qRd a 10 16) :: st) (Wd mu la ro et) := R_gfR d_MRm_changes_142 ff_10_35 hq
theorem r_MRm_changes_145 {l1 l2 l3 l4 l5 : Value} {x : Nat} : Rr X d MRm_changes 145 [.ref x, l1, l2, l3, l4, l5] st h = Rr X d MRm_changes 146 [.ref x, l1, l2, l3, l4, l5] (.ref x :: st) h := Rr_nx d_MRm_changes_145 rfl
theorem r_MRm_changes_146 {a : Nat} (hq : qI a 10 12 = true) : Rr X d MRm_changes 146 L (.ref a :: st) (Wd mu la ro et) = Rr X d MRm_changes 149 L (.int (mu a 12) :: st) (Wd mu la ro et) := R_gfI d_MRm_changes_146 ff_10_187 hq
theorem r_MRm_changes_149 {l0 l1 l2 l3 l5 : Value} {x : Int32} : Rr X d MRm_changes 149 [l0, l1, l2, l3, .int x, l5] st h = Rr X d MRm_changes 151 [l0, l1, l2, l3, .int x, l5] (.int x :: st) h := Rr_nx d_MRm_changes_149 rfl
theorem r_MRm_changes_151 {a : Nat} {j x : Int32} (hq : (qA a 0).isSome = true) : Rr X d MRm_changes 151 L (.int x :: .int j :: .ref a :: st) (Wd mu la ro et) = if j < 0 ∨ qAd a 0 ≤ j.toNatClampNeg then none else Rr X d MRm_changes 152 L st (Wd (up2 mu a j.toNatClampNeg (x)) la ro et) := R_iasW d_MRm_changes_151 hq
theorem r_MRm_changes_152 {l1 l2 l3 l4 l5 : Value} {x : Nat} : Rr X d MRm_changes 152 [.ref x, l1, l2, l3, l4, l5] st h = Rr X d MRm_changes 153 [.ref x, l1, l2, l3, l4, l5] (.ref x :: st) h := Rr_nx d_MRm_changes_152 rfl
theorem r_MRm_changes_153 {a : Nat} (hq : (qR a 10 17).isSome = true) : Rr X d MRm_changes 153 L (.ref a :: st) (Wd mu la ro et) = Rr X d MRm_changes 156 L (.ref (qRd a 10 17) :: st) (Wd mu la ro et) := R_gfR d_MRm_changes_153 ff_10_38 hq
theorem r_MRm_changes_156 {l1 l2 l3 l4 l5 : Value} {x : Nat} : Rr X d MRm_changes 156 [.ref x, l1, l2, l3, l4, l5] st h = Rr X d MRm_changes 157 [.ref x, l1, l2, l3, l4, l5] (.ref x :: st) h := Rr_nx d_MRm_changes_156 rfl
theorem r_MRm_changes_157 {a : Nat} (hq : qI a 10 12 = true) : Rr X d MRm_changes 157 L (.ref a :: st) (Wd mu la ro et) = Rr X d MRm_changes 160 L (.int (mu a 12) :: st) (Wd mu la ro et) := R_gfI d_MRm_changes_157 ff_10_187 hq
theorem r_MRm_changes_160 {l0 l1 l2 l4 l5 : Value} {x : Int32} : Rr X d MRm_changes 160 [l0, l1, l2, .int x, l4, l5] st h = Rr X d MRm_changes 161 [l0, l1, l2, .int x, l4, l5] (.int x :: st) h := Rr_nx d_MRm_changes_160 rfl
theorem r_MRm_changes_161 {a : Nat} {j x : Int32} (hq : (qA a 0).isSome = true) : Rr X d MRm_changes 161 L (.int x :: .int j :: .ref a :: st) (Wd mu la ro et) = if j < 0 ∨ qAd a 0 ≤ j.toNatClampNeg then none else Rr X d MRm_changes 162 L st (Wd (up2 mu a j.toNatClampNeg (x)) la ro et) := R_iasW d_MRm_changes_161 hq
theorem r_MRm_changes_162 {l1 l2 l3 l4 l5 : Value} {x : Nat} : Rr X d MRm_changes 162 [.ref x, l1, l2, l3, l4, l5] st h = Rr X d MRm_changes 163 [.ref x, l1, l2, l3, l4, l5] (.ref x :: st) h := Rr_nx d_MRm_changes_162 rfl
theorem r_MRm_changes_163 {x : Nat} : Rr X d MRm_changes 163 L (.ref x :: st) h = Rr X d MRm_changes 164 L (.ref x :: .ref x :: st) h := Rr_nx d_MRm_changes_163 rfl
theorem r_MRm_changes_163i {x : Int32} : Rr X d MRm_changes 163 L (.int x :: st) h = Rr X d MRm_changes 164 L (.int x :: .int x :: st) h := Rr_nx d_MRm_changes_163 rfl
theorem r_MRm_changes_164 {a : Nat} (hq : qI a 10 12 = true) : Rr X d MRm_changes 164 L (.ref a :: st) (Wd mu la ro et) = Rr X d MRm_changes 167 L (.int (mu a 12) :: st) (Wd mu la ro et) := R_gfI d_MRm_changes_164 ff_10_187 hq
theorem r_MRm_changes_167 : Rr X d MRm_changes 167 L st h = Rr X d MRm_changes 168 L (.int (1) :: st) h := Rr_nx d_MRm_changes_167 rfl
theorem r_MRm_changes_168 {x y : Int32} : Rr X d MRm_changes 168 L (.int y :: .int x :: st) h = Rr X d MRm_changes 169 L (.int (x + y) :: st) h := Rr_nx d_MRm_changes_168 rfl
theorem r_MRm_changes_169 {a : Nat} {x : Int32} (hq : qI a 10 12 = true) : Rr X d MRm_changes 169 L (.int x :: .ref a :: st) (Wd mu la ro et) = Rr X d MRm_changes 172 L st (Wd (up2 mu a 12 x) la ro et) := R_pfI d_MRm_changes_169 ff_10_187 hq
theorem r_MRm_changes_172 {l1 l2 l3 l4 l5 : Value} {x : Nat} : Rr X d MRm_changes 172 [.ref x, l1, l2, l3, l4, l5] st h = Rr X d MRm_changes 173 [.ref x, l1, l2, l3, l4, l5] (.ref x :: st) h := Rr_nx d_MRm_changes_172 rfl
theorem r_MRm_changes_173 {l0 l2 l3 l4 l5 : Value} {x : Int32} : Rr X d MRm_changes 173 [l0, .int x, l2, l3, l4, l5] st h = Rr X d MRm_changes 174 [l0, .int x, l2, l3, l4, l5] (.int x :: st) h := Rr_nx d_MRm_changes_173 rfl
theorem r_MRm_changes_174 {l0 l1 l3 l4 l5 : Value} {x : Int32} : Rr X d MRm_changes 174 [l0, l1, .int x, l3, l4, l5] st h = Rr X d MRm_changes 175 [l0, l1, .int x, l3, l4, l5] (.int x :: st) h := Rr_nx d_MRm_changes_174 rfl
theorem r_MRm_changes_175 {l0 l1 l2 l4 l5 : Value} {x : Int32} : Rr X d MRm_changes 175 [l0, l1, l2, .int x, l4, l5] st h = Rr X d MRm_changes 176 [l0, l1, l2, .int x, l4, l5] (.int x :: st) h := Rr_nx d_MRm_changes_175 rfl
theorem fc_10_190 : fC 10 190 = some (0, 10, 3, MRm_place) := rfl
theorem r_MRm_changes_176 {y0 : Int32} {y1 : Int32} {y2 : Int32} {a : Nat} (hO : qO a 10 = true) (hc : ckS st = true) : Rr X (d + 1) MRm_changes 176 L (.int y2 :: .int y1 :: .int y0 :: .ref a :: st) (Wd mu la ro et) = (Rr X d MRm_place 0 [.ref a, .int y0, .int y1, .int y2] [] (Wd mu la ro et)).bind fun q => Rr X (d + 1) MRm_changes 179 L (psh q.1 st) q.2 := R_iv (av := [.int y2, .int y1, .int y0]) d_MRm_changes_176 fc_10_190 hO (ckS_le hc) rfl (Nat.le_of_ble_eq_true rfl) (Nat.le_of_ble_eq_true rfl)
theorem r_MRm_changes_179 {l0 l1 l2 l3 l5 : Value} {x : Int32} : Rr X d MRm_changes 179 [l0, l1, l2, l3, .int x, l5] st h = Rr X d MRm_changes 181 [l0, l1, l2, l3, .int x, l5] (.int x :: st) h := Rr_nx d_MRm_changes_179 rfl
theorem r_MRm_changes_181 {x : Int32} : Rr X d MRm_changes 181 L [.int x] h = some (some (.int x), h) := R_ir d_MRm_changes_181 rfl
theorem d_MRm_undo_0 : decode MRm_undo.2.2.1 0 = .ok (.aload_n 0, 1) := lkT_ok tk_MRm_undo rfl
theorem d_MRm_undo_1 : decode MRm_undo.2.2.1 1 = .ok (.getfield 187, 3) := lkT_ok tk_MRm_undo rfl
theorem d_MRm_undo_4 : decode MRm_undo.2.2.1 4 = .ok (.ifCond .ne 6, 3) := lkT_ok tk_MRm_undo rfl
theorem d_MRm_undo_7 : decode MRm_undo.2.2.1 7 = .ok (.bipush (-5), 2) := lkT_ok tk_MRm_undo rfl
theorem d_MRm_undo_9 : decode MRm_undo.2.2.1 9 = .ok (.ireturn, 1) := lkT_ok tk_MRm_undo rfl
theorem d_MRm_undo_10 : decode MRm_undo.2.2.1 10 = .ok (.aload_n 0, 1) := lkT_ok tk_MRm_undo rfl
theorem d_MRm_undo_11 : decode MRm_undo.2.2.1 11 = .ok (.dup, 1) := lkT_ok tk_MRm_undo rfl
theorem d_MRm_undo_12 : decode MRm_undo.2.2.1 12 = .ok (.getfield 187, 3) := lkT_ok tk_MRm_undo rfl
theorem d_MRm_undo_15 : decode MRm_undo.2.2.1 15 = .ok (.iconst 1, 1) := lkT_ok tk_MRm_undo rfl
theorem d_MRm_undo_16 : decode MRm_undo.2.2.1 16 = .ok (.isub, 1) := lkT_ok tk_MRm_undo rfl
theorem d_MRm_undo_17 : decode MRm_undo.2.2.1 17 = .ok (.putfield 187, 3) := lkT_ok tk_MRm_undo rfl
theorem d_MRm_undo_20 : decode MRm_undo.2.2.1 20 = .ok (.aload_n 0, 1) := lkT_ok tk_MRm_undo rfl
theorem d_MRm_undo_21 : decode MRm_undo.2.2.1 21 = .ok (.dup, 1) := lkT_ok tk_MRm_undo rfl
theorem d_MRm_undo_22 : decode MRm_undo.2.2.1 22 = .ok (.getfield 184, 3) := lkT_ok tk_MRm_undo rfl
theorem d_MRm_undo_25 : decode MRm_undo.2.2.1 25 = .ok (.iconst 1, 1) := lkT_ok tk_MRm_undo rfl
theorem d_MRm_undo_26 : decode MRm_undo.2.2.1 26 = .ok (.iadd, 1) := lkT_ok tk_MRm_undo rfl
theorem d_MRm_undo_27 : decode MRm_undo.2.2.1 27 = .ok (.putfield 184, 3) := lkT_ok tk_MRm_undo rfl
theorem d_MRm_undo_30 : decode MRm_undo.2.2.1 30 = .ok (.aload_n 0, 1) := lkT_ok tk_MRm_undo rfl
theorem d_MRm_undo_31 : decode MRm_undo.2.2.1 31 = .ok (.aload_n 0, 1) := lkT_ok tk_MRm_undo rfl
theorem d_MRm_undo_32 : decode MRm_undo.2.2.1 32 = .ok (.getfield 29, 3) := lkT_ok tk_MRm_undo rfl
theorem d_MRm_undo_35 : decode MRm_undo.2.2.1 35 = .ok (.aload_n 0, 1) := lkT_ok tk_MRm_undo rfl
theorem d_MRm_undo_36 : decode MRm_undo.2.2.1 36 = .ok (.getfield 187, 3) := lkT_ok tk_MRm_undo rfl
theorem d_MRm_undo_39 : decode MRm_undo.2.2.1 39 = .ok (.iaload, 1) := lkT_ok tk_MRm_undo rfl
theorem d_MRm_undo_40 : decode MRm_undo.2.2.1 40 = .ok (.aload_n 0, 1) := lkT_ok tk_MRm_undo rfl
theorem d_MRm_undo_41 : decode MRm_undo.2.2.1 41 = .ok (.getfield 32, 3) := lkT_ok tk_MRm_undo rfl
theorem d_MRm_undo_44 : decode MRm_undo.2.2.1 44 = .ok (.aload_n 0, 1) := lkT_ok tk_MRm_undo rfl
theorem d_MRm_undo_45 : decode MRm_undo.2.2.1 45 = .ok (.getfield 187, 3) := lkT_ok tk_MRm_undo rfl
theorem d_MRm_undo_48 : decode MRm_undo.2.2.1 48 = .ok (.iaload, 1) := lkT_ok tk_MRm_undo rfl
theorem d_MRm_undo_49 : decode MRm_undo.2.2.1 49 = .ok (.aload_n 0, 1) := lkT_ok tk_MRm_undo rfl
theorem d_MRm_undo_50 : decode MRm_undo.2.2.1 50 = .ok (.getfield 35, 3) := lkT_ok tk_MRm_undo rfl
theorem d_MRm_undo_53 : decode MRm_undo.2.2.1 53 = .ok (.aload_n 0, 1) := lkT_ok tk_MRm_undo rfl
theorem d_MRm_undo_54 : decode MRm_undo.2.2.1 54 = .ok (.getfield 187, 3) := lkT_ok tk_MRm_undo rfl
theorem d_MRm_undo_57 : decode MRm_undo.2.2.1 57 = .ok (.iaload, 1) := lkT_ok tk_MRm_undo rfl
theorem d_MRm_undo_58 : decode MRm_undo.2.2.1 58 = .ok (.invokevirtual 190, 3) := lkT_ok tk_MRm_undo rfl
theorem d_MRm_undo_61 : decode MRm_undo.2.2.1 61 = .ok (.aload_n 0, 1) := lkT_ok tk_MRm_undo rfl
theorem d_MRm_undo_62 : decode MRm_undo.2.2.1 62 = .ok (.getfield 187, 3) := lkT_ok tk_MRm_undo rfl
theorem d_MRm_undo_65 : decode MRm_undo.2.2.1 65 = .ok (.ireturn, 1) := lkT_ok tk_MRm_undo rfl
theorem r_MRm_undo_0 {x : Nat} : Rr X d MRm_undo 0 [.ref x] st h = Rr X d MRm_undo 1 [.ref x] (.ref x :: st) h := Rr_nx d_MRm_undo_0 rfl
theorem r_MRm_undo_1 {a : Nat} (hq : qI a 10 12 = true) : Rr X d MRm_undo 1 L (.ref a :: st) (Wd mu la ro et) = Rr X d MRm_undo 4 L (.int (mu a 12) :: st) (Wd mu la ro et) := R_gfI d_MRm_undo_1 ff_10_187 hq
theorem r_MRm_undo_4 {x : Int32} : Rr X d MRm_undo 4 L (.int x :: st) h = if ¬ x = 0 then Rr X d MRm_undo 10 L st h else Rr X d MRm_undo 7 L st h := R_if_ne d_MRm_undo_4 (by decide)
theorem r_MRm_undo_7 : Rr X d MRm_undo 7 L st h = Rr X d MRm_undo 9 L (.int (-5) :: st) h := Rr_nx d_MRm_undo_7 rfl
theorem r_MRm_undo_9 {x : Int32} : Rr X d MRm_undo 9 L [.int x] h = some (some (.int x), h) := R_ir d_MRm_undo_9 rfl
theorem r_MRm_undo_10 {x : Nat} : Rr X d MRm_undo 10 [.ref x] st h = Rr X d MRm_undo 11 [.ref x] (.ref x :: st) h := Rr_nx d_MRm_undo_10 rfl
theorem r_MRm_undo_11 {x : Nat} : Rr X d MRm_undo 11 L (.ref x :: st) h = Rr X d MRm_undo 12 L (.ref x :: .ref x :: st) h := Rr_nx d_MRm_undo_11 rfl
theorem r_MRm_undo_11i {x : Int32} : Rr X d MRm_undo 11 L (.int x :: st) h = Rr X d MRm_undo 12 L (.int x :: .int x :: st) h := Rr_nx d_MRm_undo_11 rfl
theorem r_MRm_undo_12 {a : Nat} (hq : qI a 10 12 = true) : Rr X d MRm_undo 12 L (.ref a :: st) (Wd mu la ro et) = Rr X d MRm_undo 15 L (.int (mu a 12) :: st) (Wd mu la ro et) := R_gfI d_MRm_undo_12 ff_10_187 hq
theorem r_MRm_undo_15 : Rr X d MRm_undo 15 L st h = Rr X d MRm_undo 16 L (.int (1) :: st) h := Rr_nx d_MRm_undo_15 rfl
theorem r_MRm_undo_16 {x y : Int32} : Rr X d MRm_undo 16 L (.int y :: .int x :: st) h = Rr X d MRm_undo 17 L (.int (x - y) :: st) h := Rr_nx d_MRm_undo_16 rfl
theorem r_MRm_undo_17 {a : Nat} {x : Int32} (hq : qI a 10 12 = true) : Rr X d MRm_undo 17 L (.int x :: .ref a :: st) (Wd mu la ro et) = Rr X d MRm_undo 20 L st (Wd (up2 mu a 12 x) la ro et) := R_pfI d_MRm_undo_17 ff_10_187 hq
theorem r_MRm_undo_20 {x : Nat} : Rr X d MRm_undo 20 [.ref x] st h = Rr X d MRm_undo 21 [.ref x] (.ref x :: st) h := Rr_nx d_MRm_undo_20 rfl
theorem r_MRm_undo_21 {x : Nat} : Rr X d MRm_undo 21 L (.ref x :: st) h = Rr X d MRm_undo 22 L (.ref x :: .ref x :: st) h := Rr_nx d_MRm_undo_21 rfl
theorem r_MRm_undo_21i {x : Int32} : Rr X d MRm_undo 21 L (.int x :: st) h = Rr X d MRm_undo 22 L (.int x :: .int x :: st) h := Rr_nx d_MRm_undo_21 rfl
theorem r_MRm_undo_22 {a : Nat} (hq : qI a 10 13 = true) : Rr X d MRm_undo 22 L (.ref a :: st) (Wd mu la ro et) = Rr X d MRm_undo 25 L (.int (mu a 13) :: st) (Wd mu la ro et) := R_gfI d_MRm_undo_22 ff_10_184 hq
theorem r_MRm_undo_25 : Rr X d MRm_undo 25 L st h = Rr X d MRm_undo 26 L (.int (1) :: st) h := Rr_nx d_MRm_undo_25 rfl
theorem r_MRm_undo_26 {x y : Int32} : Rr X d MRm_undo 26 L (.int y :: .int x :: st) h = Rr X d MRm_undo 27 L (.int (x + y) :: st) h := Rr_nx d_MRm_undo_26 rfl
theorem r_MRm_undo_27 {a : Nat} {x : Int32} (hq : qI a 10 13 = true) : Rr X d MRm_undo 27 L (.int x :: .ref a :: st) (Wd mu la ro et) = Rr X d MRm_undo 30 L st (Wd (up2 mu a 13 x) la ro et) := R_pfI d_MRm_undo_27 ff_10_184 hq
theorem r_MRm_undo_30 {x : Nat} : Rr X d MRm_undo 30 [.ref x] st h = Rr X d MRm_undo 31 [.ref x] (.ref x :: st) h := Rr_nx d_MRm_undo_30 rfl
theorem r_MRm_undo_31 {x : Nat} : Rr X d MRm_undo 31 [.ref x] st h = Rr X d MRm_undo 32 [.ref x] (.ref x :: st) h := Rr_nx d_MRm_undo_31 rfl
theorem r_MRm_undo_32 {a : Nat} (hq : (qR a 10 14).isSome = true) : Rr X d MRm_undo 32 L (.ref a :: st) (Wd mu la ro et) = Rr X d MRm_undo 35 L (.ref (qRd a 10 14) :: st) (Wd mu la ro et) := R_gfR d_MRm_undo_32 ff_10_29 hq
theorem r_MRm_undo_35 {x : Nat} : Rr X d MRm_undo 35 [.ref x] st h = Rr X d MRm_undo 36 [.ref x] (.ref x :: st) h := Rr_nx d_MRm_undo_35 rfl
theorem r_MRm_undo_36 {a : Nat} (hq : qI a 10 12 = true) : Rr X d MRm_undo 36 L (.ref a :: st) (Wd mu la ro et) = Rr X d MRm_undo 39 L (.int (mu a 12) :: st) (Wd mu la ro et) := R_gfI d_MRm_undo_36 ff_10_187 hq
theorem r_MRm_undo_39 {a : Nat} {j : Int32} (hq : (qA a 0).isSome = true) : Rr X d MRm_undo 39 L (.int j :: .ref a :: st) (Wd mu la ro et) = if j < 0 ∨ qAd a 0 ≤ j.toNatClampNeg then none else Rr X d MRm_undo 40 L (.int (mu a j.toNatClampNeg) :: st) (Wd mu la ro et) := R_ialW d_MRm_undo_39 hq
theorem r_MRm_undo_40 {x : Nat} : Rr X d MRm_undo 40 [.ref x] st h = Rr X d MRm_undo 41 [.ref x] (.ref x :: st) h := Rr_nx d_MRm_undo_40 rfl
theorem r_MRm_undo_41 {a : Nat} (hq : (qR a 10 15).isSome = true) : Rr X d MRm_undo 41 L (.ref a :: st) (Wd mu la ro et) = Rr X d MRm_undo 44 L (.ref (qRd a 10 15) :: st) (Wd mu la ro et) := R_gfR d_MRm_undo_41 ff_10_32 hq
theorem r_MRm_undo_44 {x : Nat} : Rr X d MRm_undo 44 [.ref x] st h = Rr X d MRm_undo 45 [.ref x] (.ref x :: st) h := Rr_nx d_MRm_undo_44 rfl
theorem r_MRm_undo_45 {a : Nat} (hq : qI a 10 12 = true) : Rr X d MRm_undo 45 L (.ref a :: st) (Wd mu la ro et) = Rr X d MRm_undo 48 L (.int (mu a 12) :: st) (Wd mu la ro et) := R_gfI d_MRm_undo_45 ff_10_187 hq
theorem r_MRm_undo_48 {a : Nat} {j : Int32} (hq : (qA a 0).isSome = true) : Rr X d MRm_undo 48 L (.int j :: .ref a :: st) (Wd mu la ro et) = if j < 0 ∨ qAd a 0 ≤ j.toNatClampNeg then none else Rr X d MRm_undo 49 L (.int (mu a j.toNatClampNeg) :: st) (Wd mu la ro et) := R_ialW d_MRm_undo_48 hq
theorem r_MRm_undo_49 {x : Nat} : Rr X d MRm_undo 49 [.ref x] st h = Rr X d MRm_undo 50 [.ref x] (.ref x :: st) h := Rr_nx d_MRm_undo_49 rfl
theorem r_MRm_undo_50 {a : Nat} (hq : (qR a 10 16).isSome = true) : Rr X d MRm_undo 50 L (.ref a :: st) (Wd mu la ro et) = Rr X d MRm_undo 53 L (.ref (qRd a 10 16) :: st) (Wd mu la ro et) := R_gfR d_MRm_undo_50 ff_10_35 hq
theorem r_MRm_undo_53 {x : Nat} : Rr X d MRm_undo 53 [.ref x] st h = Rr X d MRm_undo 54 [.ref x] (.ref x :: st) h := Rr_nx d_MRm_undo_53 rfl
theorem r_MRm_undo_54 {a : Nat} (hq : qI a 10 12 = true) : Rr X d MRm_undo 54 L (.ref a :: st) (Wd mu la ro et) = Rr X d MRm_undo 57 L (.int (mu a 12) :: st) (Wd mu la ro et) := R_gfI d_MRm_undo_54 ff_10_187 hq
theorem r_MRm_undo_57 {a : Nat} {j : Int32} (hq : (qA a 0).isSome = true) : Rr X d MRm_undo 57 L (.int j :: .ref a :: st) (Wd mu la ro et) = if j < 0 ∨ qAd a 0 ≤ j.toNatClampNeg then none else Rr X d MRm_undo 58 L (.int (mu a j.toNatClampNeg) :: st) (Wd mu la ro et) := R_ialW d_MRm_undo_57 hq
theorem r_MRm_undo_58 {y0 : Int32} {y1 : Int32} {y2 : Int32} {a : Nat} (hO : qO a 10 = true) (hc : ckS st = true) : Rr X (d + 1) MRm_undo 58 L (.int y2 :: .int y1 :: .int y0 :: .ref a :: st) (Wd mu la ro et) = (Rr X d MRm_place 0 [.ref a, .int y0, .int y1, .int y2] [] (Wd mu la ro et)).bind fun q => Rr X (d + 1) MRm_undo 61 L (psh q.1 st) q.2 := R_iv (av := [.int y2, .int y1, .int y0]) d_MRm_undo_58 fc_10_190 hO (ckS_le hc) rfl (Nat.le_of_ble_eq_true rfl) (Nat.le_of_ble_eq_true rfl)
theorem r_MRm_undo_61 {x : Nat} : Rr X d MRm_undo 61 [.ref x] st h = Rr X d MRm_undo 62 [.ref x] (.ref x :: st) h := Rr_nx d_MRm_undo_61 rfl
theorem r_MRm_undo_62 {a : Nat} (hq : qI a 10 12 = true) : Rr X d MRm_undo 62 L (.ref a :: st) (Wd mu la ro et) = Rr X d MRm_undo 65 L (.int (mu a 12) :: st) (Wd mu la ro et) := R_gfI d_MRm_undo_62 ff_10_187 hq
theorem r_MRm_undo_65 {x : Int32} : Rr X d MRm_undo 65 L [.int x] h = some (some (.int x), h) := R_ir d_MRm_undo_65 rfl
theorem d_MRm_redo_0 : decode MRm_redo.2.2.1 0 = .ok (.aload_n 0, 1) := lkT_ok tk_MRm_redo rfl
theorem d_MRm_redo_1 : decode MRm_redo.2.2.1 1 = .ok (.getfield 184, 3) := lkT_ok tk_MRm_redo rfl
theorem d_MRm_redo_4 : decode MRm_redo.2.2.1 4 = .ok (.ifCond .ne 6, 3) := lkT_ok tk_MRm_redo rfl
theorem d_MRm_redo_7 : decode MRm_redo.2.2.1 7 = .ok (.bipush (-5), 2) := lkT_ok tk_MRm_redo rfl
theorem d_MRm_redo_9 : decode MRm_redo.2.2.1 9 = .ok (.ireturn, 1) := lkT_ok tk_MRm_redo rfl
theorem d_MRm_redo_10 : decode MRm_redo.2.2.1 10 = .ok (.aload_n 0, 1) := lkT_ok tk_MRm_redo rfl
theorem d_MRm_redo_11 : decode MRm_redo.2.2.1 11 = .ok (.aload_n 0, 1) := lkT_ok tk_MRm_redo rfl
theorem d_MRm_redo_12 : decode MRm_redo.2.2.1 12 = .ok (.getfield 29, 3) := lkT_ok tk_MRm_redo rfl
theorem d_MRm_redo_15 : decode MRm_redo.2.2.1 15 = .ok (.aload_n 0, 1) := lkT_ok tk_MRm_redo rfl
theorem d_MRm_redo_16 : decode MRm_redo.2.2.1 16 = .ok (.getfield 187, 3) := lkT_ok tk_MRm_redo rfl
theorem d_MRm_redo_19 : decode MRm_redo.2.2.1 19 = .ok (.iaload, 1) := lkT_ok tk_MRm_redo rfl
theorem d_MRm_redo_20 : decode MRm_redo.2.2.1 20 = .ok (.aload_n 0, 1) := lkT_ok tk_MRm_redo rfl
theorem d_MRm_redo_21 : decode MRm_redo.2.2.1 21 = .ok (.getfield 32, 3) := lkT_ok tk_MRm_redo rfl
theorem d_MRm_redo_24 : decode MRm_redo.2.2.1 24 = .ok (.aload_n 0, 1) := lkT_ok tk_MRm_redo rfl
theorem d_MRm_redo_25 : decode MRm_redo.2.2.1 25 = .ok (.getfield 187, 3) := lkT_ok tk_MRm_redo rfl
theorem d_MRm_redo_28 : decode MRm_redo.2.2.1 28 = .ok (.iaload, 1) := lkT_ok tk_MRm_redo rfl
theorem d_MRm_redo_29 : decode MRm_redo.2.2.1 29 = .ok (.aload_n 0, 1) := lkT_ok tk_MRm_redo rfl
theorem d_MRm_redo_30 : decode MRm_redo.2.2.1 30 = .ok (.getfield 38, 3) := lkT_ok tk_MRm_redo rfl
theorem d_MRm_redo_33 : decode MRm_redo.2.2.1 33 = .ok (.aload_n 0, 1) := lkT_ok tk_MRm_redo rfl
theorem d_MRm_redo_34 : decode MRm_redo.2.2.1 34 = .ok (.getfield 187, 3) := lkT_ok tk_MRm_redo rfl
theorem d_MRm_redo_37 : decode MRm_redo.2.2.1 37 = .ok (.iaload, 1) := lkT_ok tk_MRm_redo rfl
theorem d_MRm_redo_38 : decode MRm_redo.2.2.1 38 = .ok (.invokevirtual 190, 3) := lkT_ok tk_MRm_redo rfl
theorem d_MRm_redo_41 : decode MRm_redo.2.2.1 41 = .ok (.aload_n 0, 1) := lkT_ok tk_MRm_redo rfl
theorem d_MRm_redo_42 : decode MRm_redo.2.2.1 42 = .ok (.dup, 1) := lkT_ok tk_MRm_redo rfl
theorem d_MRm_redo_43 : decode MRm_redo.2.2.1 43 = .ok (.getfield 187, 3) := lkT_ok tk_MRm_redo rfl
theorem d_MRm_redo_46 : decode MRm_redo.2.2.1 46 = .ok (.iconst 1, 1) := lkT_ok tk_MRm_redo rfl
theorem d_MRm_redo_47 : decode MRm_redo.2.2.1 47 = .ok (.iadd, 1) := lkT_ok tk_MRm_redo rfl
theorem d_MRm_redo_48 : decode MRm_redo.2.2.1 48 = .ok (.putfield 187, 3) := lkT_ok tk_MRm_redo rfl
theorem d_MRm_redo_51 : decode MRm_redo.2.2.1 51 = .ok (.aload_n 0, 1) := lkT_ok tk_MRm_redo rfl
theorem d_MRm_redo_52 : decode MRm_redo.2.2.1 52 = .ok (.dup, 1) := lkT_ok tk_MRm_redo rfl
theorem d_MRm_redo_53 : decode MRm_redo.2.2.1 53 = .ok (.getfield 184, 3) := lkT_ok tk_MRm_redo rfl
theorem d_MRm_redo_56 : decode MRm_redo.2.2.1 56 = .ok (.iconst 1, 1) := lkT_ok tk_MRm_redo rfl
theorem d_MRm_redo_57 : decode MRm_redo.2.2.1 57 = .ok (.isub, 1) := lkT_ok tk_MRm_redo rfl
theorem d_MRm_redo_58 : decode MRm_redo.2.2.1 58 = .ok (.putfield 184, 3) := lkT_ok tk_MRm_redo rfl
theorem d_MRm_redo_61 : decode MRm_redo.2.2.1 61 = .ok (.aload_n 0, 1) := lkT_ok tk_MRm_redo rfl
theorem d_MRm_redo_62 : decode MRm_redo.2.2.1 62 = .ok (.getfield 184, 3) := lkT_ok tk_MRm_redo rfl
theorem d_MRm_redo_65 : decode MRm_redo.2.2.1 65 = .ok (.ireturn, 1) := lkT_ok tk_MRm_redo rfl
theorem r_MRm_redo_0 {x : Nat} : Rr X d MRm_redo 0 [.ref x] st h = Rr X d MRm_redo 1 [.ref x] (.ref x :: st) h := Rr_nx d_MRm_redo_0 rfl
theorem r_MRm_redo_1 {a : Nat} (hq : qI a 10 13 = true) : Rr X d MRm_redo 1 L (.ref a :: st) (Wd mu la ro et) = Rr X d MRm_redo 4 L (.int (mu a 13) :: st) (Wd mu la ro et) := R_gfI d_MRm_redo_1 ff_10_184 hq
theorem r_MRm_redo_4 {x : Int32} : Rr X d MRm_redo 4 L (.int x :: st) h = if ¬ x = 0 then Rr X d MRm_redo 10 L st h else Rr X d MRm_redo 7 L st h := R_if_ne d_MRm_redo_4 (by decide)
theorem r_MRm_redo_7 : Rr X d MRm_redo 7 L st h = Rr X d MRm_redo 9 L (.int (-5) :: st) h := Rr_nx d_MRm_redo_7 rfl
theorem r_MRm_redo_9 {x : Int32} : Rr X d MRm_redo 9 L [.int x] h = some (some (.int x), h) := R_ir d_MRm_redo_9 rfl
theorem r_MRm_redo_10 {x : Nat} : Rr X d MRm_redo 10 [.ref x] st h = Rr X d MRm_redo 11 [.ref x] (.ref x :: st) h := Rr_nx d_MRm_redo_10 rfl
theorem r_MRm_redo_11 {x : Nat} : Rr X d MRm_redo 11 [.ref x] st h = Rr X d MRm_redo 12 [.ref x] (.ref x :: st) h := Rr_nx d_MRm_redo_11 rfl
theorem r_MRm_redo_12 {a : Nat} (hq : (qR a 10 14).isSome = true) : Rr X d MRm_redo 12 L (.ref a :: st) (Wd mu la ro et) = Rr X d MRm_redo 15 L (.ref (qRd a 10 14) :: st) (Wd mu la ro et) := R_gfR d_MRm_redo_12 ff_10_29 hq
theorem r_MRm_redo_15 {x : Nat} : Rr X d MRm_redo 15 [.ref x] st h = Rr X d MRm_redo 16 [.ref x] (.ref x :: st) h := Rr_nx d_MRm_redo_15 rfl
theorem r_MRm_redo_16 {a : Nat} (hq : qI a 10 12 = true) : Rr X d MRm_redo 16 L (.ref a :: st) (Wd mu la ro et) = Rr X d MRm_redo 19 L (.int (mu a 12) :: st) (Wd mu la ro et) := R_gfI d_MRm_redo_16 ff_10_187 hq
theorem r_MRm_redo_19 {a : Nat} {j : Int32} (hq : (qA a 0).isSome = true) : Rr X d MRm_redo 19 L (.int j :: .ref a :: st) (Wd mu la ro et) = if j < 0 ∨ qAd a 0 ≤ j.toNatClampNeg then none else Rr X d MRm_redo 20 L (.int (mu a j.toNatClampNeg) :: st) (Wd mu la ro et) := R_ialW d_MRm_redo_19 hq
theorem r_MRm_redo_20 {x : Nat} : Rr X d MRm_redo 20 [.ref x] st h = Rr X d MRm_redo 21 [.ref x] (.ref x :: st) h := Rr_nx d_MRm_redo_20 rfl
theorem r_MRm_redo_21 {a : Nat} (hq : (qR a 10 15).isSome = true) : Rr X d MRm_redo 21 L (.ref a :: st) (Wd mu la ro et) = Rr X d MRm_redo 24 L (.ref (qRd a 10 15) :: st) (Wd mu la ro et) := R_gfR d_MRm_redo_21 ff_10_32 hq
theorem r_MRm_redo_24 {x : Nat} : Rr X d MRm_redo 24 [.ref x] st h = Rr X d MRm_redo 25 [.ref x] (.ref x :: st) h := Rr_nx d_MRm_redo_24 rfl
theorem r_MRm_redo_25 {a : Nat} (hq : qI a 10 12 = true) : Rr X d MRm_redo 25 L (.ref a :: st) (Wd mu la ro et) = Rr X d MRm_redo 28 L (.int (mu a 12) :: st) (Wd mu la ro et) := R_gfI d_MRm_redo_25 ff_10_187 hq
theorem r_MRm_redo_28 {a : Nat} {j : Int32} (hq : (qA a 0).isSome = true) : Rr X d MRm_redo 28 L (.int j :: .ref a :: st) (Wd mu la ro et) = if j < 0 ∨ qAd a 0 ≤ j.toNatClampNeg then none else Rr X d MRm_redo 29 L (.int (mu a j.toNatClampNeg) :: st) (Wd mu la ro et) := R_ialW d_MRm_redo_28 hq
theorem r_MRm_redo_29 {x : Nat} : Rr X d MRm_redo 29 [.ref x] st h = Rr X d MRm_redo 30 [.ref x] (.ref x :: st) h := Rr_nx d_MRm_redo_29 rfl
theorem r_MRm_redo_30 {a : Nat} (hq : (qR a 10 17).isSome = true) : Rr X d MRm_redo 30 L (.ref a :: st) (Wd mu la ro et) = Rr X d MRm_redo 33 L (.ref (qRd a 10 17) :: st) (Wd mu la ro et) := R_gfR d_MRm_redo_30 ff_10_38 hq
theorem r_MRm_redo_33 {x : Nat} : Rr X d MRm_redo 33 [.ref x] st h = Rr X d MRm_redo 34 [.ref x] (.ref x :: st) h := Rr_nx d_MRm_redo_33 rfl
theorem r_MRm_redo_34 {a : Nat} (hq : qI a 10 12 = true) : Rr X d MRm_redo 34 L (.ref a :: st) (Wd mu la ro et) = Rr X d MRm_redo 37 L (.int (mu a 12) :: st) (Wd mu la ro et) := R_gfI d_MRm_redo_34 ff_10_187 hq
theorem r_MRm_redo_37 {a : Nat} {j : Int32} (hq : (qA a 0).isSome = true) : Rr X d MRm_redo 37 L (.int j :: .ref a :: st) (Wd mu la ro et) = if j < 0 ∨ qAd a 0 ≤ j.toNatClampNeg then none else Rr X d MRm_redo 38 L (.int (mu a j.toNatClampNeg) :: st) (Wd mu la ro et) := R_ialW d_MRm_redo_37 hq
theorem r_MRm_redo_38 {y0 : Int32} {y1 : Int32} {y2 : Int32} {a : Nat} (hO : qO a 10 = true) (hc : ckS st = true) : Rr X (d + 1) MRm_redo 38 L (.int y2 :: .int y1 :: .int y0 :: .ref a :: st) (Wd mu la ro et) = (Rr X d MRm_place 0 [.ref a, .int y0, .int y1, .int y2] [] (Wd mu la ro et)).bind fun q => Rr X (d + 1) MRm_redo 41 L (psh q.1 st) q.2 := R_iv (av := [.int y2, .int y1, .int y0]) d_MRm_redo_38 fc_10_190 hO (ckS_le hc) rfl (Nat.le_of_ble_eq_true rfl) (Nat.le_of_ble_eq_true rfl)
theorem r_MRm_redo_41 {x : Nat} : Rr X d MRm_redo 41 [.ref x] st h = Rr X d MRm_redo 42 [.ref x] (.ref x :: st) h := Rr_nx d_MRm_redo_41 rfl
theorem r_MRm_redo_42 {x : Nat} : Rr X d MRm_redo 42 L (.ref x :: st) h = Rr X d MRm_redo 43 L (.ref x :: .ref x :: st) h := Rr_nx d_MRm_redo_42 rfl
theorem r_MRm_redo_42i {x : Int32} : Rr X d MRm_redo 42 L (.int x :: st) h = Rr X d MRm_redo 43 L (.int x :: .int x :: st) h := Rr_nx d_MRm_redo_42 rfl
theorem r_MRm_redo_43 {a : Nat} (hq : qI a 10 12 = true) : Rr X d MRm_redo 43 L (.ref a :: st) (Wd mu la ro et) = Rr X d MRm_redo 46 L (.int (mu a 12) :: st) (Wd mu la ro et) := R_gfI d_MRm_redo_43 ff_10_187 hq
theorem r_MRm_redo_46 : Rr X d MRm_redo 46 L st h = Rr X d MRm_redo 47 L (.int (1) :: st) h := Rr_nx d_MRm_redo_46 rfl
theorem r_MRm_redo_47 {x y : Int32} : Rr X d MRm_redo 47 L (.int y :: .int x :: st) h = Rr X d MRm_redo 48 L (.int (x + y) :: st) h := Rr_nx d_MRm_redo_47 rfl
theorem r_MRm_redo_48 {a : Nat} {x : Int32} (hq : qI a 10 12 = true) : Rr X d MRm_redo 48 L (.int x :: .ref a :: st) (Wd mu la ro et) = Rr X d MRm_redo 51 L st (Wd (up2 mu a 12 x) la ro et) := R_pfI d_MRm_redo_48 ff_10_187 hq
theorem r_MRm_redo_51 {x : Nat} : Rr X d MRm_redo 51 [.ref x] st h = Rr X d MRm_redo 52 [.ref x] (.ref x :: st) h := Rr_nx d_MRm_redo_51 rfl
theorem r_MRm_redo_52 {x : Nat} : Rr X d MRm_redo 52 L (.ref x :: st) h = Rr X d MRm_redo 53 L (.ref x :: .ref x :: st) h := Rr_nx d_MRm_redo_52 rfl
theorem r_MRm_redo_52i {x : Int32} : Rr X d MRm_redo 52 L (.int x :: st) h = Rr X d MRm_redo 53 L (.int x :: .int x :: st) h := Rr_nx d_MRm_redo_52 rfl
theorem r_MRm_redo_53 {a : Nat} (hq : qI a 10 13 = true) : Rr X d MRm_redo 53 L (.ref a :: st) (Wd mu la ro et) = Rr X d MRm_redo 56 L (.int (mu a 13) :: st) (Wd mu la ro et) := R_gfI d_MRm_redo_53 ff_10_184 hq
theorem r_MRm_redo_56 : Rr X d MRm_redo 56 L st h = Rr X d MRm_redo 57 L (.int (1) :: st) h := Rr_nx d_MRm_redo_56 rfl
theorem r_MRm_redo_57 {x y : Int32} : Rr X d MRm_redo 57 L (.int y :: .int x :: st) h = Rr X d MRm_redo 58 L (.int (x - y) :: st) h := Rr_nx d_MRm_redo_57 rfl
theorem r_MRm_redo_58 {a : Nat} {x : Int32} (hq : qI a 10 13 = true) : Rr X d MRm_redo 58 L (.int x :: .ref a :: st) (Wd mu la ro et) = Rr X d MRm_redo 61 L st (Wd (up2 mu a 13 x) la ro et) := R_pfI d_MRm_redo_58 ff_10_184 hq
theorem r_MRm_redo_61 {x : Nat} : Rr X d MRm_redo 61 [.ref x] st h = Rr X d MRm_redo 62 [.ref x] (.ref x :: st) h := Rr_nx d_MRm_redo_61 rfl
theorem r_MRm_redo_62 {a : Nat} (hq : qI a 10 13 = true) : Rr X d MRm_redo 62 L (.ref a :: st) (Wd mu la ro et) = Rr X d MRm_redo 65 L (.int (mu a 13) :: st) (Wd mu la ro et) := R_gfI d_MRm_redo_62 ff_10_184 hq
theorem r_MRm_redo_65 {x : Int32} : Rr X d MRm_redo 65 L [.int x] h = some (some (.int x), h) := R_ir d_MRm_redo_65 rfl
theorem d_MRm_set_0 : decode MRm_set.2.2.1 0 = .ok (.aload_n 0, 1) := lkT_ok tk_MRm_set rfl
theorem d_MRm_set_1 : decode MRm_set.2.2.1 1 = .ok (.iload_n 1, 1) := lkT_ok tk_MRm_set rfl
theorem d_MRm_set_2 : decode MRm_set.2.2.1 2 = .ok (.invokevirtual 173, 3) := lkT_ok tk_MRm_set rfl
theorem d_MRm_set_5 : decode MRm_set.2.2.1 5 = .ok (.ifCond .ne 5, 3) := lkT_ok tk_MRm_set rfl
theorem d_MRm_set_8 : decode MRm_set.2.2.1 8 = .ok (.iconst (-1), 1) := lkT_ok tk_MRm_set rfl
theorem d_MRm_set_9 : decode MRm_set.2.2.1 9 = .ok (.ireturn, 1) := lkT_ok tk_MRm_set rfl
theorem d_MRm_set_10 : decode MRm_set.2.2.1 10 = .ok (.iload_n 2, 1) := lkT_ok tk_MRm_set rfl
theorem d_MRm_set_11 : decode MRm_set.2.2.1 11 = .ok (.bipush 6, 2) := lkT_ok tk_MRm_set rfl
theorem d_MRm_set_13 : decode MRm_set.2.2.1 13 = .ok (.bipush 9, 2) := lkT_ok tk_MRm_set rfl
theorem d_MRm_set_15 : decode MRm_set.2.2.1 15 = .ok (.invokestatic 107, 3) := lkT_ok tk_MRm_set rfl
theorem d_MRm_set_18 : decode MRm_set.2.2.1 18 = .ok (.ifCond .eq 44, 3) := lkT_ok tk_MRm_set rfl
theorem d_MRm_set_21 : decode MRm_set.2.2.1 21 = .ok (.iload_n 3, 1) := lkT_ok tk_MRm_set rfl
theorem d_MRm_set_22 : decode MRm_set.2.2.1 22 = .ok (.iconst 0, 1) := lkT_ok tk_MRm_set rfl
theorem d_MRm_set_23 : decode MRm_set.2.2.1 23 = .ok (.iload_n 2, 1) := lkT_ok tk_MRm_set rfl
theorem d_MRm_set_24 : decode MRm_set.2.2.1 24 = .ok (.bipush 8, 2) := lkT_ok tk_MRm_set rfl
theorem d_MRm_set_26 : decode MRm_set.2.2.1 26 = .ok (.if_icmp .ge 9, 3) := lkT_ok tk_MRm_set rfl
theorem d_MRm_set_29 : decode MRm_set.2.2.1 29 = .ok (.sipush 999, 3) := lkT_ok tk_MRm_set rfl
theorem d_MRm_set_32 : decode MRm_set.2.2.1 32 = .ok (.goto 5, 3) := lkT_ok tk_MRm_set rfl
theorem d_MRm_set_35 : decode MRm_set.2.2.1 35 = .ok (.bipush 100, 2) := lkT_ok tk_MRm_set rfl
theorem d_MRm_set_37 : decode MRm_set.2.2.1 37 = .ok (.invokestatic 107, 3) := lkT_ok tk_MRm_set rfl
theorem d_MRm_set_40 : decode MRm_set.2.2.1 40 = .ok (.ifCond .eq 20, 3) := lkT_ok tk_MRm_set rfl
theorem d_MRm_set_43 : decode MRm_set.2.2.1 43 = .ok (.aload_n 0, 1) := lkT_ok tk_MRm_set rfl
theorem d_MRm_set_44 : decode MRm_set.2.2.1 44 = .ok (.iconst 0, 1) := lkT_ok tk_MRm_set rfl
theorem d_MRm_set_45 : decode MRm_set.2.2.1 45 = .ok (.iconst 4, 1) := lkT_ok tk_MRm_set rfl
theorem d_MRm_set_46 : decode MRm_set.2.2.1 46 = .ok (.iload_n 1, 1) := lkT_ok tk_MRm_set rfl
theorem d_MRm_set_47 : decode MRm_set.2.2.1 47 = .ok (.imul, 1) := lkT_ok tk_MRm_set rfl
theorem d_MRm_set_48 : decode MRm_set.2.2.1 48 = .ok (.iload_n 2, 1) := lkT_ok tk_MRm_set rfl
theorem d_MRm_set_49 : decode MRm_set.2.2.1 49 = .ok (.iadd, 1) := lkT_ok tk_MRm_set rfl
theorem d_MRm_set_50 : decode MRm_set.2.2.1 50 = .ok (.bipush 6, 2) := lkT_ok tk_MRm_set rfl
theorem d_MRm_set_52 : decode MRm_set.2.2.1 52 = .ok (.isub, 1) := lkT_ok tk_MRm_set rfl
theorem d_MRm_set_53 : decode MRm_set.2.2.1 53 = .ok (.iload_n 3, 1) := lkT_ok tk_MRm_set rfl
theorem d_MRm_set_54 : decode MRm_set.2.2.1 54 = .ok (.invokevirtual 194, 3) := lkT_ok tk_MRm_set rfl
theorem d_MRm_set_57 : decode MRm_set.2.2.1 57 = .ok (.goto 4, 3) := lkT_ok tk_MRm_set rfl
theorem d_MRm_set_60 : decode MRm_set.2.2.1 60 = .ok (.iconst (-1), 1) := lkT_ok tk_MRm_set rfl
theorem d_MRm_set_61 : decode MRm_set.2.2.1 61 = .ok (.ireturn, 1) := lkT_ok tk_MRm_set rfl
theorem d_MRm_set_62 : decode MRm_set.2.2.1 62 = .ok (.iload_n 2, 1) := lkT_ok tk_MRm_set rfl
theorem d_MRm_set_63 : decode MRm_set.2.2.1 63 = .ok (.bipush 10, 2) := lkT_ok tk_MRm_set rfl
theorem d_MRm_set_65 : decode MRm_set.2.2.1 65 = .ok (.bipush 9, 2) := lkT_ok tk_MRm_set rfl
theorem d_MRm_set_67 : decode MRm_set.2.2.1 67 = .ok (.aload_n 0, 1) := lkT_ok tk_MRm_set rfl
theorem d_MRm_set_68 : decode MRm_set.2.2.1 68 = .ok (.getfield 13, 3) := lkT_ok tk_MRm_set rfl
theorem d_MRm_set_71 : decode MRm_set.2.2.1 71 = .ok (.iload_n 1, 1) := lkT_ok tk_MRm_set rfl
theorem d_MRm_set_72 : decode MRm_set.2.2.1 72 = .ok (.iaload, 1) := lkT_ok tk_MRm_set rfl
theorem d_MRm_set_73 : decode MRm_set.2.2.1 73 = .ok (.iadd, 1) := lkT_ok tk_MRm_set rfl
theorem d_MRm_set_74 : decode MRm_set.2.2.1 74 = .ok (.invokestatic 107, 3) := lkT_ok tk_MRm_set rfl
theorem d_MRm_set_77 : decode MRm_set.2.2.1 77 = .ok (.ifCond .eq 31, 3) := lkT_ok tk_MRm_set rfl
theorem d_MRm_set_80 : decode MRm_set.2.2.1 80 = .ok (.iload_n 3, 1) := lkT_ok tk_MRm_set rfl
theorem d_MRm_set_81 : decode MRm_set.2.2.1 81 = .ok (.iconst 1, 1) := lkT_ok tk_MRm_set rfl
theorem d_MRm_set_82 : decode MRm_set.2.2.1 82 = .ok (.bipush 9, 2) := lkT_ok tk_MRm_set rfl
theorem d_MRm_set_84 : decode MRm_set.2.2.1 84 = .ok (.invokestatic 107, 3) := lkT_ok tk_MRm_set rfl
theorem d_MRm_set_87 : decode MRm_set.2.2.1 87 = .ok (.ifCond .eq 21, 3) := lkT_ok tk_MRm_set rfl
theorem d_MRm_set_90 : decode MRm_set.2.2.1 90 = .ok (.aload_n 0, 1) := lkT_ok tk_MRm_set rfl
theorem d_MRm_set_91 : decode MRm_set.2.2.1 91 = .ok (.iconst 1, 1) := lkT_ok tk_MRm_set rfl
theorem d_MRm_set_92 : decode MRm_set.2.2.1 92 = .ok (.bipush 12, 2) := lkT_ok tk_MRm_set rfl
theorem d_MRm_set_94 : decode MRm_set.2.2.1 94 = .ok (.iload_n 1, 1) := lkT_ok tk_MRm_set rfl
theorem d_MRm_set_95 : decode MRm_set.2.2.1 95 = .ok (.imul, 1) := lkT_ok tk_MRm_set rfl
theorem d_MRm_set_96 : decode MRm_set.2.2.1 96 = .ok (.iload_n 2, 1) := lkT_ok tk_MRm_set rfl
theorem d_MRm_set_97 : decode MRm_set.2.2.1 97 = .ok (.iadd, 1) := lkT_ok tk_MRm_set rfl
theorem d_MRm_set_98 : decode MRm_set.2.2.1 98 = .ok (.bipush 10, 2) := lkT_ok tk_MRm_set rfl
theorem d_MRm_set_100 : decode MRm_set.2.2.1 100 = .ok (.isub, 1) := lkT_ok tk_MRm_set rfl
theorem d_MRm_set_101 : decode MRm_set.2.2.1 101 = .ok (.iload_n 3, 1) := lkT_ok tk_MRm_set rfl
theorem d_MRm_set_102 : decode MRm_set.2.2.1 102 = .ok (.invokevirtual 194, 3) := lkT_ok tk_MRm_set rfl
theorem d_MRm_set_105 : decode MRm_set.2.2.1 105 = .ok (.goto 4, 3) := lkT_ok tk_MRm_set rfl
theorem d_MRm_set_108 : decode MRm_set.2.2.1 108 = .ok (.iconst (-1), 1) := lkT_ok tk_MRm_set rfl
theorem d_MRm_set_109 : decode MRm_set.2.2.1 109 = .ok (.ireturn, 1) := lkT_ok tk_MRm_set rfl
theorem r_MRm_set_0 {l1 l2 l3 : Value} {x : Nat} : Rr X d MRm_set 0 [.ref x, l1, l2, l3] st h = Rr X d MRm_set 1 [.ref x, l1, l2, l3] (.ref x :: st) h := Rr_nx d_MRm_set_0 rfl
theorem r_MRm_set_1 {l0 l2 l3 : Value} {x : Int32} : Rr X d MRm_set 1 [l0, .int x, l2, l3] st h = Rr X d MRm_set 2 [l0, .int x, l2, l3] (.int x :: st) h := Rr_nx d_MRm_set_1 rfl
theorem fc_10_173 : fC 10 173 = some (0, 10, 1, MRm_isStone) := rfl
theorem r_MRm_set_2 {y0 : Int32} {a : Nat} (hO : qO a 10 = true) (hc : ckS st = true) : Rr X (d + 1) MRm_set 2 L (.int y0 :: .ref a :: st) (Wd mu la ro et) = (Rr X d MRm_isStone 0 [.ref a, .int y0] [] (Wd mu la ro et)).bind fun q => Rr X (d + 1) MRm_set 5 L (psh q.1 st) q.2 := R_iv (av := [.int y0]) d_MRm_set_2 fc_10_173 hO (ckS_le hc) rfl (Nat.le_of_ble_eq_true rfl) (Nat.le_of_ble_eq_true rfl)
theorem r_MRm_set_5 {x : Int32} : Rr X d MRm_set 5 L (.int x :: st) h = if ¬ x = 0 then Rr X d MRm_set 10 L st h else Rr X d MRm_set 8 L st h := R_if_ne d_MRm_set_5 (by decide)
theorem r_MRm_set_8 : Rr X d MRm_set 8 L st h = Rr X d MRm_set 9 L (.int (-1) :: st) h := Rr_nx d_MRm_set_8 rfl
theorem r_MRm_set_9 {x : Int32} : Rr X d MRm_set 9 L [.int x] h = some (some (.int x), h) := R_ir d_MRm_set_9 rfl
theorem r_MRm_set_10 {l0 l1 l3 : Value} {x : Int32} : Rr X d MRm_set 10 [l0, l1, .int x, l3] st h = Rr X d MRm_set 11 [l0, l1, .int x, l3] (.int x :: st) h := Rr_nx d_MRm_set_10 rfl
theorem r_MRm_set_11 : Rr X d MRm_set 11 L st h = Rr X d MRm_set 13 L (.int (6) :: st) h := Rr_nx d_MRm_set_11 rfl
theorem r_MRm_set_13 : Rr X d MRm_set 13 L st h = Rr X d MRm_set 15 L (.int (9) :: st) h := Rr_nx d_MRm_set_13 rfl
theorem r_MRm_set_15 {y0 : Int32} {y1 : Int32} {y2 : Int32} (hc : ckS st = true) : Rr X (d + 1) MRm_set 15 L (.int y2 :: .int y1 :: .int y0 :: st) h = (Rr X d MRm_in 0 [.int y0, .int y1, .int y2] [] h).bind fun q => Rr X (d + 1) MRm_set 18 L (psh q.1 st) q.2 := R_is (av := [.int y2, .int y1, .int y0]) d_MRm_set_15 (Or.inl fc_10_107) (ckS_le hc) rfl (Nat.le_of_ble_eq_true rfl) (Nat.le_of_ble_eq_true rfl)
theorem r_MRm_set_18 {x : Int32} : Rr X d MRm_set 18 L (.int x :: st) h = if x = 0 then Rr X d MRm_set 62 L st h else Rr X d MRm_set 21 L st h := R_if_eq d_MRm_set_18 (by decide)
theorem r_MRm_set_21 {l0 l1 l2 : Value} {x : Int32} : Rr X d MRm_set 21 [l0, l1, l2, .int x] st h = Rr X d MRm_set 22 [l0, l1, l2, .int x] (.int x :: st) h := Rr_nx d_MRm_set_21 rfl
theorem r_MRm_set_22 : Rr X d MRm_set 22 L st h = Rr X d MRm_set 23 L (.int (0) :: st) h := Rr_nx d_MRm_set_22 rfl
theorem r_MRm_set_23 {l0 l1 l3 : Value} {x : Int32} : Rr X d MRm_set 23 [l0, l1, .int x, l3] st h = Rr X d MRm_set 24 [l0, l1, .int x, l3] (.int x :: st) h := Rr_nx d_MRm_set_23 rfl
theorem r_MRm_set_24 : Rr X d MRm_set 24 L st h = Rr X d MRm_set 26 L (.int (8) :: st) h := Rr_nx d_MRm_set_24 rfl
theorem r_MRm_set_26 {x y : Int32} : Rr X d MRm_set 26 L (.int y :: .int x :: st) h = if y ≤ x then Rr X d MRm_set 35 L st h else Rr X d MRm_set 29 L st h := R_ic_ge d_MRm_set_26 (by decide)
theorem r_MRm_set_29 : Rr X d MRm_set 29 L st h = Rr X d MRm_set 32 L (.int (999) :: st) h := Rr_nx d_MRm_set_29 rfl
theorem r_MRm_set_32 : Rr X d MRm_set 32 L st h = Rr X d MRm_set 37 L st h := R_goto d_MRm_set_32 (by decide)
theorem r_MRm_set_35 : Rr X d MRm_set 35 L st h = Rr X d MRm_set 37 L (.int (100) :: st) h := Rr_nx d_MRm_set_35 rfl
theorem r_MRm_set_37 {y0 : Int32} {y1 : Int32} {y2 : Int32} (hc : ckS st = true) : Rr X (d + 1) MRm_set 37 L (.int y2 :: .int y1 :: .int y0 :: st) h = (Rr X d MRm_in 0 [.int y0, .int y1, .int y2] [] h).bind fun q => Rr X (d + 1) MRm_set 40 L (psh q.1 st) q.2 := R_is (av := [.int y2, .int y1, .int y0]) d_MRm_set_37 (Or.inl fc_10_107) (ckS_le hc) rfl (Nat.le_of_ble_eq_true rfl) (Nat.le_of_ble_eq_true rfl)
theorem r_MRm_set_40 {x : Int32} : Rr X d MRm_set 40 L (.int x :: st) h = if x = 0 then Rr X d MRm_set 60 L st h else Rr X d MRm_set 43 L st h := R_if_eq d_MRm_set_40 (by decide)
theorem r_MRm_set_43 {l1 l2 l3 : Value} {x : Nat} : Rr X d MRm_set 43 [.ref x, l1, l2, l3] st h = Rr X d MRm_set 44 [.ref x, l1, l2, l3] (.ref x :: st) h := Rr_nx d_MRm_set_43 rfl
theorem r_MRm_set_44 : Rr X d MRm_set 44 L st h = Rr X d MRm_set 45 L (.int (0) :: st) h := Rr_nx d_MRm_set_44 rfl
theorem r_MRm_set_45 : Rr X d MRm_set 45 L st h = Rr X d MRm_set 46 L (.int (4) :: st) h := Rr_nx d_MRm_set_45 rfl
theorem r_MRm_set_46 {l0 l2 l3 : Value} {x : Int32} : Rr X d MRm_set 46 [l0, .int x, l2, l3] st h = Rr X d MRm_set 47 [l0, .int x, l2, l3] (.int x :: st) h := Rr_nx d_MRm_set_46 rfl
theorem r_MRm_set_47 {x y : Int32} : Rr X d MRm_set 47 L (.int y :: .int x :: st) h = Rr X d MRm_set 48 L (.int (x * y) :: st) h := Rr_nx d_MRm_set_47 rfl
theorem r_MRm_set_48 {l0 l1 l3 : Value} {x : Int32} : Rr X d MRm_set 48 [l0, l1, .int x, l3] st h = Rr X d MRm_set 49 [l0, l1, .int x, l3] (.int x :: st) h := Rr_nx d_MRm_set_48 rfl
theorem r_MRm_set_49 {x y : Int32} : Rr X d MRm_set 49 L (.int y :: .int x :: st) h = Rr X d MRm_set 50 L (.int (x + y) :: st) h := Rr_nx d_MRm_set_49 rfl
theorem r_MRm_set_50 : Rr X d MRm_set 50 L st h = Rr X d MRm_set 52 L (.int (6) :: st) h := Rr_nx d_MRm_set_50 rfl
theorem r_MRm_set_52 {x y : Int32} : Rr X d MRm_set 52 L (.int y :: .int x :: st) h = Rr X d MRm_set 53 L (.int (x - y) :: st) h := Rr_nx d_MRm_set_52 rfl
theorem r_MRm_set_53 {l0 l1 l2 : Value} {x : Int32} : Rr X d MRm_set 53 [l0, l1, l2, .int x] st h = Rr X d MRm_set 54 [l0, l1, l2, .int x] (.int x :: st) h := Rr_nx d_MRm_set_53 rfl
theorem fc_10_194 : fC 10 194 = some (0, 10, 3, MRm_changes) := rfl
theorem r_MRm_set_54 {y0 : Int32} {y1 : Int32} {y2 : Int32} {a : Nat} (hO : qO a 10 = true) (hc : ckS st = true) : Rr X (d + 1) MRm_set 54 L (.int y2 :: .int y1 :: .int y0 :: .ref a :: st) (Wd mu la ro et) = (Rr X d MRm_changes 0 [.ref a, .int y0, .int y1, .int y2, mkU, mkU] [] (Wd mu la ro et)).bind fun q => Rr X (d + 1) MRm_set 57 L (psh q.1 st) q.2 := R_iv (av := [.int y2, .int y1, .int y0]) d_MRm_set_54 fc_10_194 hO (ckS_le hc) rfl (Nat.le_of_ble_eq_true rfl) (Nat.le_of_ble_eq_true rfl)
theorem r_MRm_set_57 : Rr X d MRm_set 57 L st h = Rr X d MRm_set 61 L st h := R_goto d_MRm_set_57 (by decide)
theorem r_MRm_set_60 : Rr X d MRm_set 60 L st h = Rr X d MRm_set 61 L (.int (-1) :: st) h := Rr_nx d_MRm_set_60 rfl
theorem r_MRm_set_61 {x : Int32} : Rr X d MRm_set 61 L [.int x] h = some (some (.int x), h) := R_ir d_MRm_set_61 rfl
theorem r_MRm_set_62 {l0 l1 l3 : Value} {x : Int32} : Rr X d MRm_set 62 [l0, l1, .int x, l3] st h = Rr X d MRm_set 63 [l0, l1, .int x, l3] (.int x :: st) h := Rr_nx d_MRm_set_62 rfl
theorem r_MRm_set_63 : Rr X d MRm_set 63 L st h = Rr X d MRm_set 65 L (.int (10) :: st) h := Rr_nx d_MRm_set_63 rfl
theorem r_MRm_set_65 : Rr X d MRm_set 65 L st h = Rr X d MRm_set 67 L (.int (9) :: st) h := Rr_nx d_MRm_set_65 rfl
theorem r_MRm_set_67 {l1 l2 l3 : Value} {x : Nat} : Rr X d MRm_set 67 [.ref x, l1, l2, l3] st h = Rr X d MRm_set 68 [.ref x, l1, l2, l3] (.ref x :: st) h := Rr_nx d_MRm_set_67 rfl
theorem ff_10_13 : fF 10 13 = some (10, 4, 1, 1) := rfl
theorem r_MRm_set_68 {a : Nat} (hq : (qR a 10 4).isSome = true) : Rr X d MRm_set 68 L (.ref a :: st) (Wd mu la ro et) = Rr X d MRm_set 71 L (.ref (qRd a 10 4) :: st) (Wd mu la ro et) := R_gfR d_MRm_set_68 ff_10_13 hq
theorem r_MRm_set_71 {l0 l2 l3 : Value} {x : Int32} : Rr X d MRm_set 71 [l0, .int x, l2, l3] st h = Rr X d MRm_set 72 [l0, .int x, l2, l3] (.int x :: st) h := Rr_nx d_MRm_set_71 rfl
theorem r_MRm_set_72 {a : Nat} {j : Int32} (hq : (qA a 0).isSome = true) : Rr X d MRm_set 72 L (.int j :: .ref a :: st) (Wd mu la ro et) = if j < 0 ∨ qAd a 0 ≤ j.toNatClampNeg then none else Rr X d MRm_set 73 L (.int (mu a j.toNatClampNeg) :: st) (Wd mu la ro et) := R_ialW d_MRm_set_72 hq
theorem r_MRm_set_73 {x y : Int32} : Rr X d MRm_set 73 L (.int y :: .int x :: st) h = Rr X d MRm_set 74 L (.int (x + y) :: st) h := Rr_nx d_MRm_set_73 rfl
theorem r_MRm_set_74 {y0 : Int32} {y1 : Int32} {y2 : Int32} (hc : ckS st = true) : Rr X (d + 1) MRm_set 74 L (.int y2 :: .int y1 :: .int y0 :: st) h = (Rr X d MRm_in 0 [.int y0, .int y1, .int y2] [] h).bind fun q => Rr X (d + 1) MRm_set 77 L (psh q.1 st) q.2 := R_is (av := [.int y2, .int y1, .int y0]) d_MRm_set_74 (Or.inl fc_10_107) (ckS_le hc) rfl (Nat.le_of_ble_eq_true rfl) (Nat.le_of_ble_eq_true rfl)
theorem r_MRm_set_77 {x : Int32} : Rr X d MRm_set 77 L (.int x :: st) h = if x = 0 then Rr X d MRm_set 108 L st h else Rr X d MRm_set 80 L st h := R_if_eq d_MRm_set_77 (by decide)
theorem r_MRm_set_80 {l0 l1 l2 : Value} {x : Int32} : Rr X d MRm_set 80 [l0, l1, l2, .int x] st h = Rr X d MRm_set 81 [l0, l1, l2, .int x] (.int x :: st) h := Rr_nx d_MRm_set_80 rfl
theorem r_MRm_set_81 : Rr X d MRm_set 81 L st h = Rr X d MRm_set 82 L (.int (1) :: st) h := Rr_nx d_MRm_set_81 rfl
theorem r_MRm_set_82 : Rr X d MRm_set 82 L st h = Rr X d MRm_set 84 L (.int (9) :: st) h := Rr_nx d_MRm_set_82 rfl
theorem r_MRm_set_84 {y0 : Int32} {y1 : Int32} {y2 : Int32} (hc : ckS st = true) : Rr X (d + 1) MRm_set 84 L (.int y2 :: .int y1 :: .int y0 :: st) h = (Rr X d MRm_in 0 [.int y0, .int y1, .int y2] [] h).bind fun q => Rr X (d + 1) MRm_set 87 L (psh q.1 st) q.2 := R_is (av := [.int y2, .int y1, .int y0]) d_MRm_set_84 (Or.inl fc_10_107) (ckS_le hc) rfl (Nat.le_of_ble_eq_true rfl) (Nat.le_of_ble_eq_true rfl)
theorem r_MRm_set_87 {x : Int32} : Rr X d MRm_set 87 L (.int x :: st) h = if x = 0 then Rr X d MRm_set 108 L st h else Rr X d MRm_set 90 L st h := R_if_eq d_MRm_set_87 (by decide)
theorem r_MRm_set_90 {l1 l2 l3 : Value} {x : Nat} : Rr X d MRm_set 90 [.ref x, l1, l2, l3] st h = Rr X d MRm_set 91 [.ref x, l1, l2, l3] (.ref x :: st) h := Rr_nx d_MRm_set_90 rfl
theorem r_MRm_set_91 : Rr X d MRm_set 91 L st h = Rr X d MRm_set 92 L (.int (1) :: st) h := Rr_nx d_MRm_set_91 rfl
theorem r_MRm_set_92 : Rr X d MRm_set 92 L st h = Rr X d MRm_set 94 L (.int (12) :: st) h := Rr_nx d_MRm_set_92 rfl
theorem r_MRm_set_94 {l0 l2 l3 : Value} {x : Int32} : Rr X d MRm_set 94 [l0, .int x, l2, l3] st h = Rr X d MRm_set 95 [l0, .int x, l2, l3] (.int x :: st) h := Rr_nx d_MRm_set_94 rfl
theorem r_MRm_set_95 {x y : Int32} : Rr X d MRm_set 95 L (.int y :: .int x :: st) h = Rr X d MRm_set 96 L (.int (x * y) :: st) h := Rr_nx d_MRm_set_95 rfl
theorem r_MRm_set_96 {l0 l1 l3 : Value} {x : Int32} : Rr X d MRm_set 96 [l0, l1, .int x, l3] st h = Rr X d MRm_set 97 [l0, l1, .int x, l3] (.int x :: st) h := Rr_nx d_MRm_set_96 rfl
theorem r_MRm_set_97 {x y : Int32} : Rr X d MRm_set 97 L (.int y :: .int x :: st) h = Rr X d MRm_set 98 L (.int (x + y) :: st) h := Rr_nx d_MRm_set_97 rfl
theorem r_MRm_set_98 : Rr X d MRm_set 98 L st h = Rr X d MRm_set 100 L (.int (10) :: st) h := Rr_nx d_MRm_set_98 rfl
theorem r_MRm_set_100 {x y : Int32} : Rr X d MRm_set 100 L (.int y :: .int x :: st) h = Rr X d MRm_set 101 L (.int (x - y) :: st) h := Rr_nx d_MRm_set_100 rfl
theorem r_MRm_set_101 {l0 l1 l2 : Value} {x : Int32} : Rr X d MRm_set 101 [l0, l1, l2, .int x] st h = Rr X d MRm_set 102 [l0, l1, l2, .int x] (.int x :: st) h := Rr_nx d_MRm_set_101 rfl
theorem r_MRm_set_102 {y0 : Int32} {y1 : Int32} {y2 : Int32} {a : Nat} (hO : qO a 10 = true) (hc : ckS st = true) : Rr X (d + 1) MRm_set 102 L (.int y2 :: .int y1 :: .int y0 :: .ref a :: st) (Wd mu la ro et) = (Rr X d MRm_changes 0 [.ref a, .int y0, .int y1, .int y2, mkU, mkU] [] (Wd mu la ro et)).bind fun q => Rr X (d + 1) MRm_set 105 L (psh q.1 st) q.2 := R_iv (av := [.int y2, .int y1, .int y0]) d_MRm_set_102 fc_10_194 hO (ckS_le hc) rfl (Nat.le_of_ble_eq_true rfl) (Nat.le_of_ble_eq_true rfl)
theorem r_MRm_set_105 : Rr X d MRm_set 105 L st h = Rr X d MRm_set 109 L st h := R_goto d_MRm_set_105 (by decide)
theorem r_MRm_set_108 : Rr X d MRm_set 108 L st h = Rr X d MRm_set 109 L (.int (-1) :: st) h := Rr_nx d_MRm_set_108 rfl
theorem r_MRm_set_109 {x : Int32} : Rr X d MRm_set 109 L [.int x] h = some (some (.int x), h) := R_ir d_MRm_set_109 rfl
theorem d_MRm_isFrame_0 : decode MRm_isFrame.2.2.1 0 = .ok (.iload_n 1, 1) := lkT_ok tk_MRm_isFrame rfl
theorem d_MRm_isFrame_1 : decode MRm_isFrame.2.2.1 1 = .ok (.aload_n 0, 1) := lkT_ok tk_MRm_isFrame rfl
theorem d_MRm_isFrame_2 : decode MRm_isFrame.2.2.1 2 = .ok (.getfield 339, 3) := lkT_ok tk_MRm_isFrame rfl
theorem d_MRm_isFrame_5 : decode MRm_isFrame.2.2.1 5 = .ok (.ifCond .ne 7, 3) := lkT_ok tk_MRm_isFrame rfl
theorem d_MRm_isFrame_8 : decode MRm_isFrame.2.2.1 8 = .ok (.iconst 0, 1) := lkT_ok tk_MRm_isFrame rfl
theorem d_MRm_isFrame_9 : decode MRm_isFrame.2.2.1 9 = .ok (.goto 16, 3) := lkT_ok tk_MRm_isFrame rfl
theorem d_MRm_isFrame_12 : decode MRm_isFrame.2.2.1 12 = .ok (.aload_n 0, 1) := lkT_ok tk_MRm_isFrame rfl
theorem d_MRm_isFrame_13 : decode MRm_isFrame.2.2.1 13 = .ok (.getfield 76, 3) := lkT_ok tk_MRm_isFrame rfl
theorem d_MRm_isFrame_16 : decode MRm_isFrame.2.2.1 16 = .ok (.aload_n 0, 1) := lkT_ok tk_MRm_isFrame rfl
theorem d_MRm_isFrame_17 : decode MRm_isFrame.2.2.1 17 = .ok (.getfield 339, 3) := lkT_ok tk_MRm_isFrame rfl
theorem d_MRm_isFrame_20 : decode MRm_isFrame.2.2.1 20 = .ok (.iconst 1, 1) := lkT_ok tk_MRm_isFrame rfl
theorem d_MRm_isFrame_21 : decode MRm_isFrame.2.2.1 21 = .ok (.isub, 1) := lkT_ok tk_MRm_isFrame rfl
theorem d_MRm_isFrame_22 : decode MRm_isFrame.2.2.1 22 = .ok (.iaload, 1) := lkT_ok tk_MRm_isFrame rfl
theorem d_MRm_isFrame_23 : decode MRm_isFrame.2.2.1 23 = .ok (.iconst 1, 1) := lkT_ok tk_MRm_isFrame rfl
theorem d_MRm_isFrame_24 : decode MRm_isFrame.2.2.1 24 = .ok (.iadd, 1) := lkT_ok tk_MRm_isFrame rfl
theorem d_MRm_isFrame_25 : decode MRm_isFrame.2.2.1 25 = .ok (.sipush 400, 3) := lkT_ok tk_MRm_isFrame rfl
theorem d_MRm_isFrame_28 : decode MRm_isFrame.2.2.1 28 = .ok (.invokestatic 107, 3) := lkT_ok tk_MRm_isFrame rfl
theorem d_MRm_isFrame_31 : decode MRm_isFrame.2.2.1 31 = .ok (.ifCond .eq 20, 3) := lkT_ok tk_MRm_isFrame rfl
theorem d_MRm_isFrame_34 : decode MRm_isFrame.2.2.1 34 = .ok (.iload_n 2, 1) := lkT_ok tk_MRm_isFrame rfl
theorem d_MRm_isFrame_35 : decode MRm_isFrame.2.2.1 35 = .ok (.sipush (-9999), 3) := lkT_ok tk_MRm_isFrame rfl
theorem d_MRm_isFrame_38 : decode MRm_isFrame.2.2.1 38 = .ok (.sipush 9999, 3) := lkT_ok tk_MRm_isFrame rfl
theorem d_MRm_isFrame_41 : decode MRm_isFrame.2.2.1 41 = .ok (.invokestatic 107, 3) := lkT_ok tk_MRm_isFrame rfl
theorem d_MRm_isFrame_44 : decode MRm_isFrame.2.2.1 44 = .ok (.ifCond .eq 7, 3) := lkT_ok tk_MRm_isFrame rfl
theorem d_MRm_isFrame_47 : decode MRm_isFrame.2.2.1 47 = .ok (.iconst 1, 1) := lkT_ok tk_MRm_isFrame rfl
theorem d_MRm_isFrame_48 : decode MRm_isFrame.2.2.1 48 = .ok (.goto 4, 3) := lkT_ok tk_MRm_isFrame rfl
theorem d_MRm_isFrame_51 : decode MRm_isFrame.2.2.1 51 = .ok (.iconst 0, 1) := lkT_ok tk_MRm_isFrame rfl
theorem d_MRm_isFrame_52 : decode MRm_isFrame.2.2.1 52 = .ok (.ireturn, 1) := lkT_ok tk_MRm_isFrame rfl
theorem r_MRm_isFrame_0 {l0 l2 : Value} {x : Int32} : Rr X d MRm_isFrame 0 [l0, .int x, l2] st h = Rr X d MRm_isFrame 1 [l0, .int x, l2] (.int x :: st) h := Rr_nx d_MRm_isFrame_0 rfl
theorem r_MRm_isFrame_1 {l1 l2 : Value} {x : Nat} : Rr X d MRm_isFrame 1 [.ref x, l1, l2] st h = Rr X d MRm_isFrame 2 [.ref x, l1, l2] (.ref x :: st) h := Rr_nx d_MRm_isFrame_1 rfl
theorem ff_10_339 : fF 10 339 = some (10, 47, 0, 0) := rfl
theorem r_MRm_isFrame_2 {a : Nat} (hq : qI a 10 47 = true) : Rr X d MRm_isFrame 2 L (.ref a :: st) (Wd mu la ro et) = Rr X d MRm_isFrame 5 L (.int (mu a 47) :: st) (Wd mu la ro et) := R_gfI d_MRm_isFrame_2 ff_10_339 hq
theorem r_MRm_isFrame_5 {x : Int32} : Rr X d MRm_isFrame 5 L (.int x :: st) h = if ¬ x = 0 then Rr X d MRm_isFrame 12 L st h else Rr X d MRm_isFrame 8 L st h := R_if_ne d_MRm_isFrame_5 (by decide)
theorem r_MRm_isFrame_8 : Rr X d MRm_isFrame 8 L st h = Rr X d MRm_isFrame 9 L (.int (0) :: st) h := Rr_nx d_MRm_isFrame_8 rfl
theorem r_MRm_isFrame_9 : Rr X d MRm_isFrame 9 L st h = Rr X d MRm_isFrame 25 L st h := R_goto d_MRm_isFrame_9 (by decide)
theorem r_MRm_isFrame_12 {l1 l2 : Value} {x : Nat} : Rr X d MRm_isFrame 12 [.ref x, l1, l2] st h = Rr X d MRm_isFrame 13 [.ref x, l1, l2] (.ref x :: st) h := Rr_nx d_MRm_isFrame_12 rfl
theorem ff_10_76 : fF 10 76 = some (10, 48, 1, 1) := rfl
theorem r_MRm_isFrame_13 {a : Nat} (hq : (qR a 10 48).isSome = true) : Rr X d MRm_isFrame 13 L (.ref a :: st) (Wd mu la ro et) = Rr X d MRm_isFrame 16 L (.ref (qRd a 10 48) :: st) (Wd mu la ro et) := R_gfR d_MRm_isFrame_13 ff_10_76 hq
theorem r_MRm_isFrame_16 {l1 l2 : Value} {x : Nat} : Rr X d MRm_isFrame 16 [.ref x, l1, l2] st h = Rr X d MRm_isFrame 17 [.ref x, l1, l2] (.ref x :: st) h := Rr_nx d_MRm_isFrame_16 rfl
theorem r_MRm_isFrame_17 {a : Nat} (hq : qI a 10 47 = true) : Rr X d MRm_isFrame 17 L (.ref a :: st) (Wd mu la ro et) = Rr X d MRm_isFrame 20 L (.int (mu a 47) :: st) (Wd mu la ro et) := R_gfI d_MRm_isFrame_17 ff_10_339 hq
theorem r_MRm_isFrame_20 : Rr X d MRm_isFrame 20 L st h = Rr X d MRm_isFrame 21 L (.int (1) :: st) h := Rr_nx d_MRm_isFrame_20 rfl
theorem r_MRm_isFrame_21 {x y : Int32} : Rr X d MRm_isFrame 21 L (.int y :: .int x :: st) h = Rr X d MRm_isFrame 22 L (.int (x - y) :: st) h := Rr_nx d_MRm_isFrame_21 rfl
theorem r_MRm_isFrame_22 {a : Nat} {j : Int32} (hq : (qA a 0).isSome = true) : Rr X d MRm_isFrame 22 L (.int j :: .ref a :: st) (Wd mu la ro et) = if j < 0 ∨ qAd a 0 ≤ j.toNatClampNeg then none else Rr X d MRm_isFrame 23 L (.int (mu a j.toNatClampNeg) :: st) (Wd mu la ro et) := R_ialW d_MRm_isFrame_22 hq
theorem r_MRm_isFrame_23 : Rr X d MRm_isFrame 23 L st h = Rr X d MRm_isFrame 24 L (.int (1) :: st) h := Rr_nx d_MRm_isFrame_23 rfl
theorem r_MRm_isFrame_24 {x y : Int32} : Rr X d MRm_isFrame 24 L (.int y :: .int x :: st) h = Rr X d MRm_isFrame 25 L (.int (x + y) :: st) h := Rr_nx d_MRm_isFrame_24 rfl
theorem r_MRm_isFrame_25 : Rr X d MRm_isFrame 25 L st h = Rr X d MRm_isFrame 28 L (.int (400) :: st) h := Rr_nx d_MRm_isFrame_25 rfl
theorem r_MRm_isFrame_28 {y0 : Int32} {y1 : Int32} {y2 : Int32} (hc : ckS st = true) : Rr X (d + 1) MRm_isFrame 28 L (.int y2 :: .int y1 :: .int y0 :: st) h = (Rr X d MRm_in 0 [.int y0, .int y1, .int y2] [] h).bind fun q => Rr X (d + 1) MRm_isFrame 31 L (psh q.1 st) q.2 := R_is (av := [.int y2, .int y1, .int y0]) d_MRm_isFrame_28 (Or.inl fc_10_107) (ckS_le hc) rfl (Nat.le_of_ble_eq_true rfl) (Nat.le_of_ble_eq_true rfl)
theorem r_MRm_isFrame_31 {x : Int32} : Rr X d MRm_isFrame 31 L (.int x :: st) h = if x = 0 then Rr X d MRm_isFrame 51 L st h else Rr X d MRm_isFrame 34 L st h := R_if_eq d_MRm_isFrame_31 (by decide)
theorem r_MRm_isFrame_34 {l0 l1 : Value} {x : Int32} : Rr X d MRm_isFrame 34 [l0, l1, .int x] st h = Rr X d MRm_isFrame 35 [l0, l1, .int x] (.int x :: st) h := Rr_nx d_MRm_isFrame_34 rfl
theorem r_MRm_isFrame_35 : Rr X d MRm_isFrame 35 L st h = Rr X d MRm_isFrame 38 L (.int (-9999) :: st) h := Rr_nx d_MRm_isFrame_35 rfl
theorem r_MRm_isFrame_38 : Rr X d MRm_isFrame 38 L st h = Rr X d MRm_isFrame 41 L (.int (9999) :: st) h := Rr_nx d_MRm_isFrame_38 rfl
theorem r_MRm_isFrame_41 {y0 : Int32} {y1 : Int32} {y2 : Int32} (hc : ckS st = true) : Rr X (d + 1) MRm_isFrame 41 L (.int y2 :: .int y1 :: .int y0 :: st) h = (Rr X d MRm_in 0 [.int y0, .int y1, .int y2] [] h).bind fun q => Rr X (d + 1) MRm_isFrame 44 L (psh q.1 st) q.2 := R_is (av := [.int y2, .int y1, .int y0]) d_MRm_isFrame_41 (Or.inl fc_10_107) (ckS_le hc) rfl (Nat.le_of_ble_eq_true rfl) (Nat.le_of_ble_eq_true rfl)
theorem r_MRm_isFrame_44 {x : Int32} : Rr X d MRm_isFrame 44 L (.int x :: st) h = if x = 0 then Rr X d MRm_isFrame 51 L st h else Rr X d MRm_isFrame 47 L st h := R_if_eq d_MRm_isFrame_44 (by decide)
theorem r_MRm_isFrame_47 : Rr X d MRm_isFrame 47 L st h = Rr X d MRm_isFrame 48 L (.int (1) :: st) h := Rr_nx d_MRm_isFrame_47 rfl
theorem r_MRm_isFrame_48 : Rr X d MRm_isFrame 48 L st h = Rr X d MRm_isFrame 52 L st h := R_goto d_MRm_isFrame_48 (by decide)
theorem r_MRm_isFrame_51 : Rr X d MRm_isFrame 51 L st h = Rr X d MRm_isFrame 52 L (.int (0) :: st) h := Rr_nx d_MRm_isFrame_51 rfl
theorem r_MRm_isFrame_52 {x : Int32} : Rr X d MRm_isFrame 52 L [.int x] h = if x = 0 ∨ x = 1 then some (some (.int x), h) else none := R_zr d_MRm_isFrame_52 rfl
theorem d_MRm_addFrame_0 : decode MRm_addFrame.2.2.1 0 = .ok (.aload_n 0, 1) := lkT_ok tk_MRm_addFrame rfl
theorem d_MRm_addFrame_1 : decode MRm_addFrame.2.2.1 1 = .ok (.getfield 76, 3) := lkT_ok tk_MRm_addFrame rfl
theorem d_MRm_addFrame_4 : decode MRm_addFrame.2.2.1 4 = .ok (.aload_n 0, 1) := lkT_ok tk_MRm_addFrame rfl
theorem d_MRm_addFrame_5 : decode MRm_addFrame.2.2.1 5 = .ok (.getfield 339, 3) := lkT_ok tk_MRm_addFrame rfl
theorem d_MRm_addFrame_8 : decode MRm_addFrame.2.2.1 8 = .ok (.iload_n 1, 1) := lkT_ok tk_MRm_addFrame rfl
theorem d_MRm_addFrame_9 : decode MRm_addFrame.2.2.1 9 = .ok (.iastore, 1) := lkT_ok tk_MRm_addFrame rfl
theorem d_MRm_addFrame_10 : decode MRm_addFrame.2.2.1 10 = .ok (.aload_n 0, 1) := lkT_ok tk_MRm_addFrame rfl
theorem d_MRm_addFrame_11 : decode MRm_addFrame.2.2.1 11 = .ok (.getfield 79, 3) := lkT_ok tk_MRm_addFrame rfl
theorem d_MRm_addFrame_14 : decode MRm_addFrame.2.2.1 14 = .ok (.aload_n 0, 1) := lkT_ok tk_MRm_addFrame rfl
theorem d_MRm_addFrame_15 : decode MRm_addFrame.2.2.1 15 = .ok (.getfield 339, 3) := lkT_ok tk_MRm_addFrame rfl
theorem d_MRm_addFrame_18 : decode MRm_addFrame.2.2.1 18 = .ok (.iload_n 2, 1) := lkT_ok tk_MRm_addFrame rfl
theorem d_MRm_addFrame_19 : decode MRm_addFrame.2.2.1 19 = .ok (.iastore, 1) := lkT_ok tk_MRm_addFrame rfl
theorem d_MRm_addFrame_20 : decode MRm_addFrame.2.2.1 20 = .ok (.aload_n 0, 1) := lkT_ok tk_MRm_addFrame rfl
theorem d_MRm_addFrame_21 : decode MRm_addFrame.2.2.1 21 = .ok (.dup, 1) := lkT_ok tk_MRm_addFrame rfl
theorem d_MRm_addFrame_22 : decode MRm_addFrame.2.2.1 22 = .ok (.getfield 339, 3) := lkT_ok tk_MRm_addFrame rfl
theorem d_MRm_addFrame_25 : decode MRm_addFrame.2.2.1 25 = .ok (.iconst 1, 1) := lkT_ok tk_MRm_addFrame rfl
theorem d_MRm_addFrame_26 : decode MRm_addFrame.2.2.1 26 = .ok (.iadd, 1) := lkT_ok tk_MRm_addFrame rfl
theorem d_MRm_addFrame_27 : decode MRm_addFrame.2.2.1 27 = .ok (.putfield 339, 3) := lkT_ok tk_MRm_addFrame rfl
theorem d_MRm_addFrame_30 : decode MRm_addFrame.2.2.1 30 = .ok (.return_, 1) := lkT_ok tk_MRm_addFrame rfl
theorem r_MRm_addFrame_0 {l1 l2 : Value} {x : Nat} : Rr X d MRm_addFrame 0 [.ref x, l1, l2] st h = Rr X d MRm_addFrame 1 [.ref x, l1, l2] (.ref x :: st) h := Rr_nx d_MRm_addFrame_0 rfl
theorem r_MRm_addFrame_1 {a : Nat} (hq : (qR a 10 48).isSome = true) : Rr X d MRm_addFrame 1 L (.ref a :: st) (Wd mu la ro et) = Rr X d MRm_addFrame 4 L (.ref (qRd a 10 48) :: st) (Wd mu la ro et) := R_gfR d_MRm_addFrame_1 ff_10_76 hq
theorem r_MRm_addFrame_4 {l1 l2 : Value} {x : Nat} : Rr X d MRm_addFrame 4 [.ref x, l1, l2] st h = Rr X d MRm_addFrame 5 [.ref x, l1, l2] (.ref x :: st) h := Rr_nx d_MRm_addFrame_4 rfl
theorem r_MRm_addFrame_5 {a : Nat} (hq : qI a 10 47 = true) : Rr X d MRm_addFrame 5 L (.ref a :: st) (Wd mu la ro et) = Rr X d MRm_addFrame 8 L (.int (mu a 47) :: st) (Wd mu la ro et) := R_gfI d_MRm_addFrame_5 ff_10_339 hq
theorem r_MRm_addFrame_8 {l0 l2 : Value} {x : Int32} : Rr X d MRm_addFrame 8 [l0, .int x, l2] st h = Rr X d MRm_addFrame 9 [l0, .int x, l2] (.int x :: st) h := Rr_nx d_MRm_addFrame_8 rfl
theorem r_MRm_addFrame_9 {a : Nat} {j x : Int32} (hq : (qA a 0).isSome = true) : Rr X d MRm_addFrame 9 L (.int x :: .int j :: .ref a :: st) (Wd mu la ro et) = if j < 0 ∨ qAd a 0 ≤ j.toNatClampNeg then none else Rr X d MRm_addFrame 10 L st (Wd (up2 mu a j.toNatClampNeg (x)) la ro et) := R_iasW d_MRm_addFrame_9 hq
theorem r_MRm_addFrame_10 {l1 l2 : Value} {x : Nat} : Rr X d MRm_addFrame 10 [.ref x, l1, l2] st h = Rr X d MRm_addFrame 11 [.ref x, l1, l2] (.ref x :: st) h := Rr_nx d_MRm_addFrame_10 rfl
theorem ff_10_79 : fF 10 79 = some (10, 49, 1, 1) := rfl
theorem r_MRm_addFrame_11 {a : Nat} (hq : (qR a 10 49).isSome = true) : Rr X d MRm_addFrame 11 L (.ref a :: st) (Wd mu la ro et) = Rr X d MRm_addFrame 14 L (.ref (qRd a 10 49) :: st) (Wd mu la ro et) := R_gfR d_MRm_addFrame_11 ff_10_79 hq
theorem r_MRm_addFrame_14 {l1 l2 : Value} {x : Nat} : Rr X d MRm_addFrame 14 [.ref x, l1, l2] st h = Rr X d MRm_addFrame 15 [.ref x, l1, l2] (.ref x :: st) h := Rr_nx d_MRm_addFrame_14 rfl
theorem r_MRm_addFrame_15 {a : Nat} (hq : qI a 10 47 = true) : Rr X d MRm_addFrame 15 L (.ref a :: st) (Wd mu la ro et) = Rr X d MRm_addFrame 18 L (.int (mu a 47) :: st) (Wd mu la ro et) := R_gfI d_MRm_addFrame_15 ff_10_339 hq
theorem r_MRm_addFrame_18 {l0 l1 : Value} {x : Int32} : Rr X d MRm_addFrame 18 [l0, l1, .int x] st h = Rr X d MRm_addFrame 19 [l0, l1, .int x] (.int x :: st) h := Rr_nx d_MRm_addFrame_18 rfl
theorem r_MRm_addFrame_19 {a : Nat} {j x : Int32} (hq : (qA a 0).isSome = true) : Rr X d MRm_addFrame 19 L (.int x :: .int j :: .ref a :: st) (Wd mu la ro et) = if j < 0 ∨ qAd a 0 ≤ j.toNatClampNeg then none else Rr X d MRm_addFrame 20 L st (Wd (up2 mu a j.toNatClampNeg (x)) la ro et) := R_iasW d_MRm_addFrame_19 hq
theorem r_MRm_addFrame_20 {l1 l2 : Value} {x : Nat} : Rr X d MRm_addFrame 20 [.ref x, l1, l2] st h = Rr X d MRm_addFrame 21 [.ref x, l1, l2] (.ref x :: st) h := Rr_nx d_MRm_addFrame_20 rfl
theorem r_MRm_addFrame_21 {x : Nat} : Rr X d MRm_addFrame 21 L (.ref x :: st) h = Rr X d MRm_addFrame 22 L (.ref x :: .ref x :: st) h := Rr_nx d_MRm_addFrame_21 rfl
theorem r_MRm_addFrame_21i {x : Int32} : Rr X d MRm_addFrame 21 L (.int x :: st) h = Rr X d MRm_addFrame 22 L (.int x :: .int x :: st) h := Rr_nx d_MRm_addFrame_21 rfl
theorem r_MRm_addFrame_22 {a : Nat} (hq : qI a 10 47 = true) : Rr X d MRm_addFrame 22 L (.ref a :: st) (Wd mu la ro et) = Rr X d MRm_addFrame 25 L (.int (mu a 47) :: st) (Wd mu la ro et) := R_gfI d_MRm_addFrame_22 ff_10_339 hq
theorem r_MRm_addFrame_25 : Rr X d MRm_addFrame 25 L st h = Rr X d MRm_addFrame 26 L (.int (1) :: st) h := Rr_nx d_MRm_addFrame_25 rfl
theorem r_MRm_addFrame_26 {x y : Int32} : Rr X d MRm_addFrame 26 L (.int y :: .int x :: st) h = Rr X d MRm_addFrame 27 L (.int (x + y) :: st) h := Rr_nx d_MRm_addFrame_26 rfl
theorem r_MRm_addFrame_27 {a : Nat} {x : Int32} (hq : qI a 10 47 = true) : Rr X d MRm_addFrame 27 L (.int x :: .ref a :: st) (Wd mu la ro et) = Rr X d MRm_addFrame 30 L st (Wd (up2 mu a 47 x) la ro et) := R_pfI d_MRm_addFrame_27 ff_10_339 hq
theorem r_MRm_addFrame_30 : Rr X d MRm_addFrame 30 L [] h = some (none, h) := Rr_rt d_MRm_addFrame_30 rfl
theorem d_MRm_frame_0 : decode MRm_frame.2.2.1 0 = .ok (.aload_n 0, 1) := lkT_ok tk_MRm_frame rfl
theorem d_MRm_frame_1 : decode MRm_frame.2.2.1 1 = .ok (.iload_n 1, 1) := lkT_ok tk_MRm_frame rfl
theorem d_MRm_frame_2 : decode MRm_frame.2.2.1 2 = .ok (.iload_n 2, 1) := lkT_ok tk_MRm_frame rfl
theorem d_MRm_frame_3 : decode MRm_frame.2.2.1 3 = .ok (.invokevirtual 342, 3) := lkT_ok tk_MRm_frame rfl
theorem d_MRm_frame_6 : decode MRm_frame.2.2.1 6 = .ok (.ifCond .ne 5, 3) := lkT_ok tk_MRm_frame rfl
theorem d_MRm_frame_9 : decode MRm_frame.2.2.1 9 = .ok (.iconst (-1), 1) := lkT_ok tk_MRm_frame rfl
theorem d_MRm_frame_10 : decode MRm_frame.2.2.1 10 = .ok (.ireturn, 1) := lkT_ok tk_MRm_frame rfl
theorem d_MRm_frame_11 : decode MRm_frame.2.2.1 11 = .ok (.aload_n 0, 1) := lkT_ok tk_MRm_frame rfl
theorem d_MRm_frame_12 : decode MRm_frame.2.2.1 12 = .ok (.getfield 339, 3) := lkT_ok tk_MRm_frame rfl
theorem d_MRm_frame_15 : decode MRm_frame.2.2.1 15 = .ok (.bipush 40, 2) := lkT_ok tk_MRm_frame rfl
theorem d_MRm_frame_17 : decode MRm_frame.2.2.1 17 = .ok (.if_icmp .ne 6, 3) := lkT_ok tk_MRm_frame rfl
theorem d_MRm_frame_20 : decode MRm_frame.2.2.1 20 = .ok (.bipush (-3), 2) := lkT_ok tk_MRm_frame rfl
theorem d_MRm_frame_22 : decode MRm_frame.2.2.1 22 = .ok (.ireturn, 1) := lkT_ok tk_MRm_frame rfl
theorem d_MRm_frame_23 : decode MRm_frame.2.2.1 23 = .ok (.aload_n 0, 1) := lkT_ok tk_MRm_frame rfl
theorem d_MRm_frame_24 : decode MRm_frame.2.2.1 24 = .ok (.iload_n 1, 1) := lkT_ok tk_MRm_frame rfl
theorem d_MRm_frame_25 : decode MRm_frame.2.2.1 25 = .ok (.iload_n 2, 1) := lkT_ok tk_MRm_frame rfl
theorem d_MRm_frame_26 : decode MRm_frame.2.2.1 26 = .ok (.invokevirtual 345, 3) := lkT_ok tk_MRm_frame rfl
theorem d_MRm_frame_29 : decode MRm_frame.2.2.1 29 = .ok (.aload_n 0, 1) := lkT_ok tk_MRm_frame rfl
theorem d_MRm_frame_30 : decode MRm_frame.2.2.1 30 = .ok (.getfield 339, 3) := lkT_ok tk_MRm_frame rfl
theorem d_MRm_frame_33 : decode MRm_frame.2.2.1 33 = .ok (.iconst 1, 1) := lkT_ok tk_MRm_frame rfl
theorem d_MRm_frame_34 : decode MRm_frame.2.2.1 34 = .ok (.isub, 1) := lkT_ok tk_MRm_frame rfl
theorem d_MRm_frame_35 : decode MRm_frame.2.2.1 35 = .ok (.ireturn, 1) := lkT_ok tk_MRm_frame rfl
theorem r_MRm_frame_0 {l1 l2 : Value} {x : Nat} : Rr X d MRm_frame 0 [.ref x, l1, l2] st h = Rr X d MRm_frame 1 [.ref x, l1, l2] (.ref x :: st) h := Rr_nx d_MRm_frame_0 rfl
theorem r_MRm_frame_1 {l0 l2 : Value} {x : Int32} : Rr X d MRm_frame 1 [l0, .int x, l2] st h = Rr X d MRm_frame 2 [l0, .int x, l2] (.int x :: st) h := Rr_nx d_MRm_frame_1 rfl
theorem r_MRm_frame_2 {l0 l1 : Value} {x : Int32} : Rr X d MRm_frame 2 [l0, l1, .int x] st h = Rr X d MRm_frame 3 [l0, l1, .int x] (.int x :: st) h := Rr_nx d_MRm_frame_2 rfl
theorem fc_10_342 : fC 10 342 = some (0, 10, 2, MRm_isFrame) := rfl
theorem r_MRm_frame_3 {y0 : Int32} {y1 : Int32} {a : Nat} (hO : qO a 10 = true) (hc : ckS st = true) : Rr X (d + 1) MRm_frame 3 L (.int y1 :: .int y0 :: .ref a :: st) (Wd mu la ro et) = (Rr X d MRm_isFrame 0 [.ref a, .int y0, .int y1] [] (Wd mu la ro et)).bind fun q => Rr X (d + 1) MRm_frame 6 L (psh q.1 st) q.2 := R_iv (av := [.int y1, .int y0]) d_MRm_frame_3 fc_10_342 hO (ckS_le hc) rfl (Nat.le_of_ble_eq_true rfl) (Nat.le_of_ble_eq_true rfl)
theorem r_MRm_frame_6 {x : Int32} : Rr X d MRm_frame 6 L (.int x :: st) h = if ¬ x = 0 then Rr X d MRm_frame 11 L st h else Rr X d MRm_frame 9 L st h := R_if_ne d_MRm_frame_6 (by decide)
theorem r_MRm_frame_9 : Rr X d MRm_frame 9 L st h = Rr X d MRm_frame 10 L (.int (-1) :: st) h := Rr_nx d_MRm_frame_9 rfl
theorem r_MRm_frame_10 {x : Int32} : Rr X d MRm_frame 10 L [.int x] h = some (some (.int x), h) := R_ir d_MRm_frame_10 rfl
theorem r_MRm_frame_11 {l1 l2 : Value} {x : Nat} : Rr X d MRm_frame 11 [.ref x, l1, l2] st h = Rr X d MRm_frame 12 [.ref x, l1, l2] (.ref x :: st) h := Rr_nx d_MRm_frame_11 rfl
theorem r_MRm_frame_12 {a : Nat} (hq : qI a 10 47 = true) : Rr X d MRm_frame 12 L (.ref a :: st) (Wd mu la ro et) = Rr X d MRm_frame 15 L (.int (mu a 47) :: st) (Wd mu la ro et) := R_gfI d_MRm_frame_12 ff_10_339 hq
theorem r_MRm_frame_15 : Rr X d MRm_frame 15 L st h = Rr X d MRm_frame 17 L (.int (40) :: st) h := Rr_nx d_MRm_frame_15 rfl
theorem r_MRm_frame_17 {x y : Int32} : Rr X d MRm_frame 17 L (.int y :: .int x :: st) h = if ¬ x = y then Rr X d MRm_frame 23 L st h else Rr X d MRm_frame 20 L st h := R_ic_ne d_MRm_frame_17 (by decide)
theorem r_MRm_frame_20 : Rr X d MRm_frame 20 L st h = Rr X d MRm_frame 22 L (.int (-3) :: st) h := Rr_nx d_MRm_frame_20 rfl
theorem r_MRm_frame_22 {x : Int32} : Rr X d MRm_frame 22 L [.int x] h = some (some (.int x), h) := R_ir d_MRm_frame_22 rfl
theorem r_MRm_frame_23 {l1 l2 : Value} {x : Nat} : Rr X d MRm_frame 23 [.ref x, l1, l2] st h = Rr X d MRm_frame 24 [.ref x, l1, l2] (.ref x :: st) h := Rr_nx d_MRm_frame_23 rfl
theorem r_MRm_frame_24 {l0 l2 : Value} {x : Int32} : Rr X d MRm_frame 24 [l0, .int x, l2] st h = Rr X d MRm_frame 25 [l0, .int x, l2] (.int x :: st) h := Rr_nx d_MRm_frame_24 rfl
theorem r_MRm_frame_25 {l0 l1 : Value} {x : Int32} : Rr X d MRm_frame 25 [l0, l1, .int x] st h = Rr X d MRm_frame 26 [l0, l1, .int x] (.int x :: st) h := Rr_nx d_MRm_frame_25 rfl
theorem fc_10_345 : fC 10 345 = some (0, 10, 2, MRm_addFrame) := rfl
theorem r_MRm_frame_26 {y0 : Int32} {y1 : Int32} {a : Nat} (hO : qO a 10 = true) (hc : ckS st = true) : Rr X (d + 1) MRm_frame 26 L (.int y1 :: .int y0 :: .ref a :: st) (Wd mu la ro et) = (Rr X d MRm_addFrame 0 [.ref a, .int y0, .int y1] [] (Wd mu la ro et)).bind fun q => Rr X (d + 1) MRm_frame 29 L (psh q.1 st) q.2 := R_iv (av := [.int y1, .int y0]) d_MRm_frame_26 fc_10_345 hO (ckS_le hc) rfl (Nat.le_of_ble_eq_true rfl) (Nat.le_of_ble_eq_true rfl)
theorem r_MRm_frame_29 {l1 l2 : Value} {x : Nat} : Rr X d MRm_frame 29 [.ref x, l1, l2] st h = Rr X d MRm_frame 30 [.ref x, l1, l2] (.ref x :: st) h := Rr_nx d_MRm_frame_29 rfl
theorem r_MRm_frame_30 {a : Nat} (hq : qI a 10 47 = true) : Rr X d MRm_frame 30 L (.ref a :: st) (Wd mu la ro et) = Rr X d MRm_frame 33 L (.int (mu a 47) :: st) (Wd mu la ro et) := R_gfI d_MRm_frame_30 ff_10_339 hq
theorem r_MRm_frame_33 : Rr X d MRm_frame 33 L st h = Rr X d MRm_frame 34 L (.int (1) :: st) h := Rr_nx d_MRm_frame_33 rfl
theorem r_MRm_frame_34 {x y : Int32} : Rr X d MRm_frame 34 L (.int y :: .int x :: st) h = Rr X d MRm_frame 35 L (.int (x - y) :: st) h := Rr_nx d_MRm_frame_34 rfl
theorem r_MRm_frame_35 {x : Int32} : Rr X d MRm_frame 35 L [.int x] h = some (some (.int x), h) := R_ir d_MRm_frame_35 rfl
theorem d_MRm_frames_0 : decode MRm_frames.2.2.1 0 = .ok (.iload_n 1, 1) := lkT_ok tk_MRm_frames rfl
theorem d_MRm_frames_1 : decode MRm_frames.2.2.1 1 = .ok (.invokestatic 348, 3) := lkT_ok tk_MRm_frames rfl
theorem d_MRm_frames_4 : decode MRm_frames.2.2.1 4 = .ok (.ifCond .eq 13, 3) := lkT_ok tk_MRm_frames rfl
theorem d_MRm_frames_7 : decode MRm_frames.2.2.1 7 = .ok (.iload_n 3, 1) := lkT_ok tk_MRm_frames rfl
theorem d_MRm_frames_8 : decode MRm_frames.2.2.1 8 = .ok (.iconst 1, 1) := lkT_ok tk_MRm_frames rfl
theorem d_MRm_frames_9 : decode MRm_frames.2.2.1 9 = .ok (.bipush 30, 2) := lkT_ok tk_MRm_frames rfl
theorem d_MRm_frames_11 : decode MRm_frames.2.2.1 11 = .ok (.invokestatic 107, 3) := lkT_ok tk_MRm_frames rfl
theorem d_MRm_frames_14 : decode MRm_frames.2.2.1 14 = .ok (.ifCond .ne 5, 3) := lkT_ok tk_MRm_frames rfl
theorem d_MRm_frames_17 : decode MRm_frames.2.2.1 17 = .ok (.iconst (-1), 1) := lkT_ok tk_MRm_frames rfl
theorem d_MRm_frames_18 : decode MRm_frames.2.2.1 18 = .ok (.ireturn, 1) := lkT_ok tk_MRm_frames rfl
theorem d_MRm_frames_19 : decode MRm_frames.2.2.1 19 = .ok (.aload_n 0, 1) := lkT_ok tk_MRm_frames rfl
theorem d_MRm_frames_20 : decode MRm_frames.2.2.1 20 = .ok (.getfield 92, 3) := lkT_ok tk_MRm_frames rfl
theorem d_MRm_frames_23 : decode MRm_frames.2.2.1 23 = .ok (.iload_n 1, 1) := lkT_ok tk_MRm_frames rfl
theorem d_MRm_frames_24 : decode MRm_frames.2.2.1 24 = .ok (.iaload, 1) := lkT_ok tk_MRm_frames rfl
theorem d_MRm_frames_25 : decode MRm_frames.2.2.1 25 = .ok (.iconst (-1), 1) := lkT_ok tk_MRm_frames rfl
theorem d_MRm_frames_26 : decode MRm_frames.2.2.1 26 = .ok (.if_icmp .eq 17, 3) := lkT_ok tk_MRm_frames rfl
theorem d_MRm_frames_29 : decode MRm_frames.2.2.1 29 = .ok (.aload_n 0, 1) := lkT_ok tk_MRm_frames rfl
theorem d_MRm_frames_30 : decode MRm_frames.2.2.1 30 = .ok (.getfield 92, 3) := lkT_ok tk_MRm_frames rfl
theorem d_MRm_frames_33 : decode MRm_frames.2.2.1 33 = .ok (.iload_n 1, 1) := lkT_ok tk_MRm_frames rfl
theorem d_MRm_frames_34 : decode MRm_frames.2.2.1 34 = .ok (.iaload, 1) := lkT_ok tk_MRm_frames rfl
theorem d_MRm_frames_35 : decode MRm_frames.2.2.1 35 = .ok (.bipush (-3), 2) := lkT_ok tk_MRm_frames rfl
theorem d_MRm_frames_37 : decode MRm_frames.2.2.1 37 = .ok (.if_icmp .eq 6, 3) := lkT_ok tk_MRm_frames rfl
theorem d_MRm_frames_40 : decode MRm_frames.2.2.1 40 = .ok (.bipush (-12), 2) := lkT_ok tk_MRm_frames rfl
theorem d_MRm_frames_42 : decode MRm_frames.2.2.1 42 = .ok (.ireturn, 1) := lkT_ok tk_MRm_frames rfl
theorem d_MRm_frames_43 : decode MRm_frames.2.2.1 43 = .ok (.aload_n 0, 1) := lkT_ok tk_MRm_frames rfl
theorem d_MRm_frames_44 : decode MRm_frames.2.2.1 44 = .ok (.getfield 92, 3) := lkT_ok tk_MRm_frames rfl
theorem d_MRm_frames_47 : decode MRm_frames.2.2.1 47 = .ok (.iload_n 1, 1) := lkT_ok tk_MRm_frames rfl
theorem d_MRm_frames_48 : decode MRm_frames.2.2.1 48 = .ok (.iaload, 1) := lkT_ok tk_MRm_frames rfl
theorem d_MRm_frames_49 : decode MRm_frames.2.2.1 49 = .ok (.iconst (-1), 1) := lkT_ok tk_MRm_frames rfl
theorem d_MRm_frames_50 : decode MRm_frames.2.2.1 50 = .ok (.if_icmp .ne 5, 3) := lkT_ok tk_MRm_frames rfl
theorem d_MRm_frames_53 : decode MRm_frames.2.2.1 53 = .ok (.iconst 0, 1) := lkT_ok tk_MRm_frames rfl
theorem d_MRm_frames_54 : decode MRm_frames.2.2.1 54 = .ok (.ireturn, 1) := lkT_ok tk_MRm_frames rfl
theorem d_MRm_frames_55 : decode MRm_frames.2.2.1 55 = .ok (.iconst 0, 1) := lkT_ok tk_MRm_frames rfl
theorem d_MRm_frames_56 : decode MRm_frames.2.2.1 56 = .ok (.istore 4, 2) := lkT_ok tk_MRm_frames rfl
theorem d_MRm_frames_58 : decode MRm_frames.2.2.1 58 = .ok (.iload 4, 2) := lkT_ok tk_MRm_frames rfl
theorem d_MRm_frames_60 : decode MRm_frames.2.2.1 60 = .ok (.iload_n 3, 1) := lkT_ok tk_MRm_frames rfl
theorem d_MRm_frames_61 : decode MRm_frames.2.2.1 61 = .ok (.if_icmp .ge 113, 3) := lkT_ok tk_MRm_frames rfl
theorem d_MRm_frames_64 : decode MRm_frames.2.2.1 64 = .ok (.iload_n 2, 1) := lkT_ok tk_MRm_frames rfl
theorem d_MRm_frames_65 : decode MRm_frames.2.2.1 65 = .ok (.i2l, 1) := lkT_ok tk_MRm_frames rfl
theorem d_MRm_frames_66 : decode MRm_frames.2.2.1 66 = .ok (.iconst 2, 1) := lkT_ok tk_MRm_frames rfl
theorem d_MRm_frames_67 : decode MRm_frames.2.2.1 67 = .ok (.iload 4, 2) := lkT_ok tk_MRm_frames rfl
theorem d_MRm_frames_69 : decode MRm_frames.2.2.1 69 = .ok (.imul, 1) := lkT_ok tk_MRm_frames rfl
theorem d_MRm_frames_70 : decode MRm_frames.2.2.1 70 = .ok (.i2l, 1) := lkT_ok tk_MRm_frames rfl
theorem d_MRm_frames_71 : decode MRm_frames.2.2.1 71 = .ok (.ladd, 1) := lkT_ok tk_MRm_frames rfl
theorem d_MRm_frames_72 : decode MRm_frames.2.2.1 72 = .ok (.lstore 5, 2) := lkT_ok tk_MRm_frames rfl
theorem d_MRm_frames_74 : decode MRm_frames.2.2.1 74 = .ok (.lload 5, 2) := lkT_ok tk_MRm_frames rfl
theorem d_MRm_frames_76 : decode MRm_frames.2.2.1 76 = .ok (.lconst 0, 1) := lkT_ok tk_MRm_frames rfl
theorem d_MRm_frames_77 : decode MRm_frames.2.2.1 77 = .ok (.lcmp, 1) := lkT_ok tk_MRm_frames rfl
theorem d_MRm_frames_78 : decode MRm_frames.2.2.1 78 = .ok (.ifCond .lt 27, 3) := lkT_ok tk_MRm_frames rfl
theorem d_MRm_frames_81 : decode MRm_frames.2.2.1 81 = .ok (.lload 5, 2) := lkT_ok tk_MRm_frames rfl
theorem d_MRm_frames_83 : decode MRm_frames.2.2.1 83 = .ok (.lconst 1, 1) := lkT_ok tk_MRm_frames rfl
theorem d_MRm_frames_84 : decode MRm_frames.2.2.1 84 = .ok (.ladd, 1) := lkT_ok tk_MRm_frames rfl
theorem d_MRm_frames_85 : decode MRm_frames.2.2.1 85 = .ok (.aload_n 0, 1) := lkT_ok tk_MRm_frames rfl
theorem d_MRm_frames_86 : decode MRm_frames.2.2.1 86 = .ok (.getfield 95, 3) := lkT_ok tk_MRm_frames rfl
theorem d_MRm_frames_89 : decode MRm_frames.2.2.1 89 = .ok (.iload_n 1, 1) := lkT_ok tk_MRm_frames rfl
theorem d_MRm_frames_90 : decode MRm_frames.2.2.1 90 = .ok (.iaload, 1) := lkT_ok tk_MRm_frames rfl
theorem d_MRm_frames_91 : decode MRm_frames.2.2.1 91 = .ok (.i2l, 1) := lkT_ok tk_MRm_frames rfl
theorem d_MRm_frames_92 : decode MRm_frames.2.2.1 92 = .ok (.lcmp, 1) := lkT_ok tk_MRm_frames rfl
theorem d_MRm_frames_93 : decode MRm_frames.2.2.1 93 = .ok (.ifCond .ge 12, 3) := lkT_ok tk_MRm_frames rfl
theorem d_MRm_frames_96 : decode MRm_frames.2.2.1 96 = .ok (.aload_n 0, 1) := lkT_ok tk_MRm_frames rfl
theorem d_MRm_frames_97 : decode MRm_frames.2.2.1 97 = .ok (.getfield 339, 3) := lkT_ok tk_MRm_frames rfl
theorem d_MRm_frames_100 : decode MRm_frames.2.2.1 100 = .ok (.bipush 40, 2) := lkT_ok tk_MRm_frames rfl
theorem d_MRm_frames_102 : decode MRm_frames.2.2.1 102 = .ok (.if_icmp .ne 6, 3) := lkT_ok tk_MRm_frames rfl
theorem d_MRm_frames_105 : decode MRm_frames.2.2.1 105 = .ok (.iload 4, 2) := lkT_ok tk_MRm_frames rfl
theorem d_MRm_frames_107 : decode MRm_frames.2.2.1 107 = .ok (.ireturn, 1) := lkT_ok tk_MRm_frames rfl
theorem d_MRm_frames_108 : decode MRm_frames.2.2.1 108 = .ok (.bipush 60, 2) := lkT_ok tk_MRm_frames rfl
theorem d_MRm_frames_110 : decode MRm_frames.2.2.1 110 = .ok (.iload_n 1, 1) := lkT_ok tk_MRm_frames rfl
theorem d_MRm_frames_111 : decode MRm_frames.2.2.1 111 = .ok (.imul, 1) := lkT_ok tk_MRm_frames rfl
theorem d_MRm_frames_112 : decode MRm_frames.2.2.1 112 = .ok (.lload 5, 2) := lkT_ok tk_MRm_frames rfl
theorem d_MRm_frames_114 : decode MRm_frames.2.2.1 114 = .ok (.l2i, 1) := lkT_ok tk_MRm_frames rfl
theorem d_MRm_frames_115 : decode MRm_frames.2.2.1 115 = .ok (.iadd, 1) := lkT_ok tk_MRm_frames rfl
theorem d_MRm_frames_116 : decode MRm_frames.2.2.1 116 = .ok (.istore 7, 2) := lkT_ok tk_MRm_frames rfl
theorem d_MRm_frames_118 : decode MRm_frames.2.2.1 118 = .ok (.aload_n 0, 1) := lkT_ok tk_MRm_frames rfl
theorem d_MRm_frames_119 : decode MRm_frames.2.2.1 119 = .ok (.aload_n 0, 1) := lkT_ok tk_MRm_frames rfl
theorem d_MRm_frames_120 : decode MRm_frames.2.2.1 120 = .ok (.getfield 98, 3) := lkT_ok tk_MRm_frames rfl
theorem d_MRm_frames_123 : decode MRm_frames.2.2.1 123 = .ok (.iload 7, 2) := lkT_ok tk_MRm_frames rfl
theorem d_MRm_frames_125 : decode MRm_frames.2.2.1 125 = .ok (.laload, 1) := lkT_ok tk_MRm_frames rfl
theorem d_MRm_frames_126 : decode MRm_frames.2.2.1 126 = .ok (.l2i, 1) := lkT_ok tk_MRm_frames rfl
theorem d_MRm_frames_127 : decode MRm_frames.2.2.1 127 = .ok (.aload_n 0, 1) := lkT_ok tk_MRm_frames rfl
theorem d_MRm_frames_128 : decode MRm_frames.2.2.1 128 = .ok (.getfield 98, 3) := lkT_ok tk_MRm_frames rfl
theorem d_MRm_frames_131 : decode MRm_frames.2.2.1 131 = .ok (.iload 7, 2) := lkT_ok tk_MRm_frames rfl
theorem d_MRm_frames_133 : decode MRm_frames.2.2.1 133 = .ok (.iconst 1, 1) := lkT_ok tk_MRm_frames rfl
theorem d_MRm_frames_134 : decode MRm_frames.2.2.1 134 = .ok (.iadd, 1) := lkT_ok tk_MRm_frames rfl
theorem d_MRm_frames_135 : decode MRm_frames.2.2.1 135 = .ok (.laload, 1) := lkT_ok tk_MRm_frames rfl
theorem d_MRm_frames_136 : decode MRm_frames.2.2.1 136 = .ok (.l2i, 1) := lkT_ok tk_MRm_frames rfl
theorem d_MRm_frames_137 : decode MRm_frames.2.2.1 137 = .ok (.invokevirtual 342, 3) := lkT_ok tk_MRm_frames rfl
theorem d_MRm_frames_140 : decode MRm_frames.2.2.1 140 = .ok (.ifCond .ne 6, 3) := lkT_ok tk_MRm_frames rfl
theorem d_MRm_frames_143 : decode MRm_frames.2.2.1 143 = .ok (.iload 4, 2) := lkT_ok tk_MRm_frames rfl
theorem d_MRm_frames_145 : decode MRm_frames.2.2.1 145 = .ok (.ireturn, 1) := lkT_ok tk_MRm_frames rfl
theorem d_MRm_frames_146 : decode MRm_frames.2.2.1 146 = .ok (.aload_n 0, 1) := lkT_ok tk_MRm_frames rfl
theorem d_MRm_frames_147 : decode MRm_frames.2.2.1 147 = .ok (.aload_n 0, 1) := lkT_ok tk_MRm_frames rfl
theorem d_MRm_frames_148 : decode MRm_frames.2.2.1 148 = .ok (.getfield 98, 3) := lkT_ok tk_MRm_frames rfl
theorem d_MRm_frames_151 : decode MRm_frames.2.2.1 151 = .ok (.iload 7, 2) := lkT_ok tk_MRm_frames rfl
theorem d_MRm_frames_153 : decode MRm_frames.2.2.1 153 = .ok (.laload, 1) := lkT_ok tk_MRm_frames rfl
theorem d_MRm_frames_154 : decode MRm_frames.2.2.1 154 = .ok (.l2i, 1) := lkT_ok tk_MRm_frames rfl
theorem d_MRm_frames_155 : decode MRm_frames.2.2.1 155 = .ok (.aload_n 0, 1) := lkT_ok tk_MRm_frames rfl
theorem d_MRm_frames_156 : decode MRm_frames.2.2.1 156 = .ok (.getfield 98, 3) := lkT_ok tk_MRm_frames rfl
theorem d_MRm_frames_159 : decode MRm_frames.2.2.1 159 = .ok (.iload 7, 2) := lkT_ok tk_MRm_frames rfl
theorem d_MRm_frames_161 : decode MRm_frames.2.2.1 161 = .ok (.iconst 1, 1) := lkT_ok tk_MRm_frames rfl
theorem d_MRm_frames_162 : decode MRm_frames.2.2.1 162 = .ok (.iadd, 1) := lkT_ok tk_MRm_frames rfl
theorem d_MRm_frames_163 : decode MRm_frames.2.2.1 163 = .ok (.laload, 1) := lkT_ok tk_MRm_frames rfl
theorem d_MRm_frames_164 : decode MRm_frames.2.2.1 164 = .ok (.l2i, 1) := lkT_ok tk_MRm_frames rfl
theorem d_MRm_frames_165 : decode MRm_frames.2.2.1 165 = .ok (.invokevirtual 345, 3) := lkT_ok tk_MRm_frames rfl
theorem d_MRm_frames_168 : decode MRm_frames.2.2.1 168 = .ok (.iinc 4 1, 3) := lkT_ok tk_MRm_frames rfl
theorem d_MRm_frames_171 : decode MRm_frames.2.2.1 171 = .ok (.goto (-113), 3) := lkT_ok tk_MRm_frames rfl
theorem d_MRm_frames_174 : decode MRm_frames.2.2.1 174 = .ok (.iload_n 3, 1) := lkT_ok tk_MRm_frames rfl
theorem d_MRm_frames_175 : decode MRm_frames.2.2.1 175 = .ok (.ireturn, 1) := lkT_ok tk_MRm_frames rfl
theorem r_MRm_frames_0 {l0 l2 l3 l4 l5 l6 l7 : Value} {x : Int32} : Rr X d MRm_frames 0 [l0, .int x, l2, l3, l4, l5, l6, l7] st h = Rr X d MRm_frames 1 [l0, .int x, l2, l3, l4, l5, l6, l7] (.int x :: st) h := Rr_nx d_MRm_frames_0 rfl
theorem r_MRm_frames_1 {y0 : Int32} (hc : ckS st = true) : Rr X (d + 1) MRm_frames 1 L (.int y0 :: st) h = (Rr X d MRm_isShelf 0 [.int y0] [] h).bind fun q => Rr X (d + 1) MRm_frames 4 L (psh q.1 st) q.2 := R_is (av := [.int y0]) d_MRm_frames_1 (Or.inl fc_10_348) (ckS_le hc) rfl (Nat.le_of_ble_eq_true rfl) (Nat.le_of_ble_eq_true rfl)
theorem r_MRm_frames_4 {x : Int32} : Rr X d MRm_frames 4 L (.int x :: st) h = if x = 0 then Rr X d MRm_frames 17 L st h else Rr X d MRm_frames 7 L st h := R_if_eq d_MRm_frames_4 (by decide)
theorem r_MRm_frames_7 {l0 l1 l2 l4 l5 l6 l7 : Value} {x : Int32} : Rr X d MRm_frames 7 [l0, l1, l2, .int x, l4, l5, l6, l7] st h = Rr X d MRm_frames 8 [l0, l1, l2, .int x, l4, l5, l6, l7] (.int x :: st) h := Rr_nx d_MRm_frames_7 rfl
theorem r_MRm_frames_8 : Rr X d MRm_frames 8 L st h = Rr X d MRm_frames 9 L (.int (1) :: st) h := Rr_nx d_MRm_frames_8 rfl
theorem r_MRm_frames_9 : Rr X d MRm_frames 9 L st h = Rr X d MRm_frames 11 L (.int (30) :: st) h := Rr_nx d_MRm_frames_9 rfl
theorem r_MRm_frames_11 {y0 : Int32} {y1 : Int32} {y2 : Int32} (hc : ckS st = true) : Rr X (d + 1) MRm_frames 11 L (.int y2 :: .int y1 :: .int y0 :: st) h = (Rr X d MRm_in 0 [.int y0, .int y1, .int y2] [] h).bind fun q => Rr X (d + 1) MRm_frames 14 L (psh q.1 st) q.2 := R_is (av := [.int y2, .int y1, .int y0]) d_MRm_frames_11 (Or.inl fc_10_107) (ckS_le hc) rfl (Nat.le_of_ble_eq_true rfl) (Nat.le_of_ble_eq_true rfl)
theorem r_MRm_frames_14 {x : Int32} : Rr X d MRm_frames 14 L (.int x :: st) h = if ¬ x = 0 then Rr X d MRm_frames 19 L st h else Rr X d MRm_frames 17 L st h := R_if_ne d_MRm_frames_14 (by decide)
theorem r_MRm_frames_17 : Rr X d MRm_frames 17 L st h = Rr X d MRm_frames 18 L (.int (-1) :: st) h := Rr_nx d_MRm_frames_17 rfl
theorem r_MRm_frames_18 {x : Int32} : Rr X d MRm_frames 18 L [.int x] h = some (some (.int x), h) := R_ir d_MRm_frames_18 rfl
theorem r_MRm_frames_19 {l1 l2 l3 l4 l5 l6 l7 : Value} {x : Nat} : Rr X d MRm_frames 19 [.ref x, l1, l2, l3, l4, l5, l6, l7] st h = Rr X d MRm_frames 20 [.ref x, l1, l2, l3, l4, l5, l6, l7] (.ref x :: st) h := Rr_nx d_MRm_frames_19 rfl
theorem r_MRm_frames_20 {a : Nat} (hq : (qR a 10 55).isSome = true) : Rr X d MRm_frames 20 L (.ref a :: st) (Wd mu la ro et) = Rr X d MRm_frames 23 L (.ref (qRd a 10 55) :: st) (Wd mu la ro et) := R_gfR d_MRm_frames_20 ff_10_92 hq
theorem r_MRm_frames_23 {l0 l2 l3 l4 l5 l6 l7 : Value} {x : Int32} : Rr X d MRm_frames 23 [l0, .int x, l2, l3, l4, l5, l6, l7] st h = Rr X d MRm_frames 24 [l0, .int x, l2, l3, l4, l5, l6, l7] (.int x :: st) h := Rr_nx d_MRm_frames_23 rfl
theorem r_MRm_frames_24 {a : Nat} {j : Int32} (hq : (qA a 0).isSome = true) : Rr X d MRm_frames 24 L (.int j :: .ref a :: st) (Wd mu la ro et) = if j < 0 ∨ qAd a 0 ≤ j.toNatClampNeg then none else Rr X d MRm_frames 25 L (.int (mu a j.toNatClampNeg) :: st) (Wd mu la ro et) := R_ialW d_MRm_frames_24 hq
theorem r_MRm_frames_25 : Rr X d MRm_frames 25 L st h = Rr X d MRm_frames 26 L (.int (-1) :: st) h := Rr_nx d_MRm_frames_25 rfl
theorem r_MRm_frames_26 {x y : Int32} : Rr X d MRm_frames 26 L (.int y :: .int x :: st) h = if x = y then Rr X d MRm_frames 43 L st h else Rr X d MRm_frames 29 L st h := R_ic_eq d_MRm_frames_26 (by decide)
theorem r_MRm_frames_29 {l1 l2 l3 l4 l5 l6 l7 : Value} {x : Nat} : Rr X d MRm_frames 29 [.ref x, l1, l2, l3, l4, l5, l6, l7] st h = Rr X d MRm_frames 30 [.ref x, l1, l2, l3, l4, l5, l6, l7] (.ref x :: st) h := Rr_nx d_MRm_frames_29 rfl
theorem r_MRm_frames_30 {a : Nat} (hq : (qR a 10 55).isSome = true) : Rr X d MRm_frames 30 L (.ref a :: st) (Wd mu la ro et) = Rr X d MRm_frames 33 L (.ref (qRd a 10 55) :: st) (Wd mu la ro et) := R_gfR d_MRm_frames_30 ff_10_92 hq
theorem r_MRm_frames_33 {l0 l2 l3 l4 l5 l6 l7 : Value} {x : Int32} : Rr X d MRm_frames 33 [l0, .int x, l2, l3, l4, l5, l6, l7] st h = Rr X d MRm_frames 34 [l0, .int x, l2, l3, l4, l5, l6, l7] (.int x :: st) h := Rr_nx d_MRm_frames_33 rfl
theorem r_MRm_frames_34 {a : Nat} {j : Int32} (hq : (qA a 0).isSome = true) : Rr X d MRm_frames 34 L (.int j :: .ref a :: st) (Wd mu la ro et) = if j < 0 ∨ qAd a 0 ≤ j.toNatClampNeg then none else Rr X d MRm_frames 35 L (.int (mu a j.toNatClampNeg) :: st) (Wd mu la ro et) := R_ialW d_MRm_frames_34 hq
theorem r_MRm_frames_35 : Rr X d MRm_frames 35 L st h = Rr X d MRm_frames 37 L (.int (-3) :: st) h := Rr_nx d_MRm_frames_35 rfl
theorem r_MRm_frames_37 {x y : Int32} : Rr X d MRm_frames 37 L (.int y :: .int x :: st) h = if x = y then Rr X d MRm_frames 43 L st h else Rr X d MRm_frames 40 L st h := R_ic_eq d_MRm_frames_37 (by decide)
theorem r_MRm_frames_40 : Rr X d MRm_frames 40 L st h = Rr X d MRm_frames 42 L (.int (-12) :: st) h := Rr_nx d_MRm_frames_40 rfl
theorem r_MRm_frames_42 {x : Int32} : Rr X d MRm_frames 42 L [.int x] h = some (some (.int x), h) := R_ir d_MRm_frames_42 rfl
theorem r_MRm_frames_43 {l1 l2 l3 l4 l5 l6 l7 : Value} {x : Nat} : Rr X d MRm_frames 43 [.ref x, l1, l2, l3, l4, l5, l6, l7] st h = Rr X d MRm_frames 44 [.ref x, l1, l2, l3, l4, l5, l6, l7] (.ref x :: st) h := Rr_nx d_MRm_frames_43 rfl
theorem r_MRm_frames_44 {a : Nat} (hq : (qR a 10 55).isSome = true) : Rr X d MRm_frames 44 L (.ref a :: st) (Wd mu la ro et) = Rr X d MRm_frames 47 L (.ref (qRd a 10 55) :: st) (Wd mu la ro et) := R_gfR d_MRm_frames_44 ff_10_92 hq
theorem r_MRm_frames_47 {l0 l2 l3 l4 l5 l6 l7 : Value} {x : Int32} : Rr X d MRm_frames 47 [l0, .int x, l2, l3, l4, l5, l6, l7] st h = Rr X d MRm_frames 48 [l0, .int x, l2, l3, l4, l5, l6, l7] (.int x :: st) h := Rr_nx d_MRm_frames_47 rfl
theorem r_MRm_frames_48 {a : Nat} {j : Int32} (hq : (qA a 0).isSome = true) : Rr X d MRm_frames 48 L (.int j :: .ref a :: st) (Wd mu la ro et) = if j < 0 ∨ qAd a 0 ≤ j.toNatClampNeg then none else Rr X d MRm_frames 49 L (.int (mu a j.toNatClampNeg) :: st) (Wd mu la ro et) := R_ialW d_MRm_frames_48 hq
theorem r_MRm_frames_49 : Rr X d MRm_frames 49 L st h = Rr X d MRm_frames 50 L (.int (-1) :: st) h := Rr_nx d_MRm_frames_49 rfl
theorem r_MRm_frames_50 {x y : Int32} : Rr X d MRm_frames 50 L (.int y :: .int x :: st) h = if ¬ x = y then Rr X d MRm_frames 55 L st h else Rr X d MRm_frames 53 L st h := R_ic_ne d_MRm_frames_50 (by decide)
theorem r_MRm_frames_53 : Rr X d MRm_frames 53 L st h = Rr X d MRm_frames 54 L (.int (0) :: st) h := Rr_nx d_MRm_frames_53 rfl
theorem r_MRm_frames_54 {x : Int32} : Rr X d MRm_frames 54 L [.int x] h = some (some (.int x), h) := R_ir d_MRm_frames_54 rfl
theorem r_MRm_frames_55 : Rr X d MRm_frames 55 L st h = Rr X d MRm_frames 56 L (.int (0) :: st) h := Rr_nx d_MRm_frames_55 rfl
theorem r_MRm_frames_56 {l0 l1 l2 l3 l4 l5 l6 l7 : Value} {x : Int32} : Rr X d MRm_frames 56 [l0, l1, l2, l3, l4, l5, l6, l7] (.int x :: st) h = Rr X d MRm_frames 58 (sL [l0, l1, l2, l3, l4, l5, l6, l7] 4 (.int x)) st h := Rr_nx d_MRm_frames_56 rfl
theorem r_MRm_frames_58 {l0 l1 l2 l3 l5 l6 l7 : Value} {x : Int32} : Rr X d MRm_frames 58 [l0, l1, l2, l3, .int x, l5, l6, l7] st h = Rr X d MRm_frames 60 [l0, l1, l2, l3, .int x, l5, l6, l7] (.int x :: st) h := Rr_nx d_MRm_frames_58 rfl
theorem r_MRm_frames_60 {l0 l1 l2 l4 l5 l6 l7 : Value} {x : Int32} : Rr X d MRm_frames 60 [l0, l1, l2, .int x, l4, l5, l6, l7] st h = Rr X d MRm_frames 61 [l0, l1, l2, .int x, l4, l5, l6, l7] (.int x :: st) h := Rr_nx d_MRm_frames_60 rfl
theorem r_MRm_frames_61 {x y : Int32} : Rr X d MRm_frames 61 L (.int y :: .int x :: st) h = if y ≤ x then Rr X d MRm_frames 174 L st h else Rr X d MRm_frames 64 L st h := R_ic_ge d_MRm_frames_61 (by decide)
theorem r_MRm_frames_64 {l0 l1 l3 l4 l5 l6 l7 : Value} {x : Int32} : Rr X d MRm_frames 64 [l0, l1, .int x, l3, l4, l5, l6, l7] st h = Rr X d MRm_frames 65 [l0, l1, .int x, l3, l4, l5, l6, l7] (.int x :: st) h := Rr_nx d_MRm_frames_64 rfl
theorem r_MRm_frames_65 {x : Int32} : Rr X d MRm_frames 65 L (.int x :: st) h = Rr X d MRm_frames 66 L (.long x.toInt64 :: st) h := Rr_nx d_MRm_frames_65 rfl
theorem r_MRm_frames_66 : Rr X d MRm_frames 66 L st h = Rr X d MRm_frames 67 L (.int (2) :: st) h := Rr_nx d_MRm_frames_66 rfl
theorem r_MRm_frames_67 {l0 l1 l2 l3 l5 l6 l7 : Value} {x : Int32} : Rr X d MRm_frames 67 [l0, l1, l2, l3, .int x, l5, l6, l7] st h = Rr X d MRm_frames 69 [l0, l1, l2, l3, .int x, l5, l6, l7] (.int x :: st) h := Rr_nx d_MRm_frames_67 rfl
theorem r_MRm_frames_69 {x y : Int32} : Rr X d MRm_frames 69 L (.int y :: .int x :: st) h = Rr X d MRm_frames 70 L (.int (x * y) :: st) h := Rr_nx d_MRm_frames_69 rfl
theorem r_MRm_frames_70 {x : Int32} : Rr X d MRm_frames 70 L (.int x :: st) h = Rr X d MRm_frames 71 L (.long x.toInt64 :: st) h := Rr_nx d_MRm_frames_70 rfl
theorem r_MRm_frames_71 {x y : Int64} : Rr X d MRm_frames 71 L (.long y :: .long x :: st) h = Rr X d MRm_frames 72 L (.long (x + y) :: st) h := Rr_nx d_MRm_frames_71 rfl
theorem r_MRm_frames_72 {l0 l1 l2 l3 l4 l5 l6 l7 : Value} {x : Int64} : Rr X d MRm_frames 72 [l0, l1, l2, l3, l4, l5, l6, l7] (.long x :: st) h = Rr X d MRm_frames 74 ((sL [l0, l1, l2, l3, l4, l5, l6, l7] 5 (.long x)).set 6 mkU) st h := Rr_nx d_MRm_frames_72 rfl
theorem r_MRm_frames_74 {l0 l1 l2 l3 l4 l6 l7 : Value} {x : Int64} : Rr X d MRm_frames 74 [l0, l1, l2, l3, l4, .long x, l6, l7] st h = Rr X d MRm_frames 76 [l0, l1, l2, l3, l4, .long x, l6, l7] (.long x :: st) h := Rr_nx d_MRm_frames_74 rfl
theorem r_MRm_frames_76 : Rr X d MRm_frames 76 L st h = Rr X d MRm_frames 77 L (.long 0 :: st) h := Rr_nx d_MRm_frames_76 rfl
theorem r_MRm_frames_77 {x y : Int64} : Rr X d MRm_frames 77 L (.long y :: .long x :: st) h = Rr X d MRm_frames 78 L (.int (lg_cmp x y) :: st) h := Rr_nx d_MRm_frames_77 rfl
theorem r_MRm_frames_78 {x : Int32} : Rr X d MRm_frames 78 L (.int x :: st) h = if x < 0 then Rr X d MRm_frames 105 L st h else Rr X d MRm_frames 81 L st h := R_if_lt d_MRm_frames_78 (by decide)
theorem r_MRm_frames_81 {l0 l1 l2 l3 l4 l6 l7 : Value} {x : Int64} : Rr X d MRm_frames 81 [l0, l1, l2, l3, l4, .long x, l6, l7] st h = Rr X d MRm_frames 83 [l0, l1, l2, l3, l4, .long x, l6, l7] (.long x :: st) h := Rr_nx d_MRm_frames_81 rfl
theorem r_MRm_frames_83 : Rr X d MRm_frames 83 L st h = Rr X d MRm_frames 84 L (.long 1 :: st) h := Rr_nx d_MRm_frames_83 rfl
theorem r_MRm_frames_84 {x y : Int64} : Rr X d MRm_frames 84 L (.long y :: .long x :: st) h = Rr X d MRm_frames 85 L (.long (x + y) :: st) h := Rr_nx d_MRm_frames_84 rfl
theorem r_MRm_frames_85 {l1 l2 l3 l4 l5 l6 l7 : Value} {x : Nat} : Rr X d MRm_frames 85 [.ref x, l1, l2, l3, l4, l5, l6, l7] st h = Rr X d MRm_frames 86 [.ref x, l1, l2, l3, l4, l5, l6, l7] (.ref x :: st) h := Rr_nx d_MRm_frames_85 rfl
theorem r_MRm_frames_86 {a : Nat} (hq : (qR a 10 56).isSome = true) : Rr X d MRm_frames 86 L (.ref a :: st) (Wd mu la ro et) = Rr X d MRm_frames 89 L (.ref (qRd a 10 56) :: st) (Wd mu la ro et) := R_gfR d_MRm_frames_86 ff_10_95 hq
theorem r_MRm_frames_89 {l0 l2 l3 l4 l5 l6 l7 : Value} {x : Int32} : Rr X d MRm_frames 89 [l0, .int x, l2, l3, l4, l5, l6, l7] st h = Rr X d MRm_frames 90 [l0, .int x, l2, l3, l4, l5, l6, l7] (.int x :: st) h := Rr_nx d_MRm_frames_89 rfl
theorem r_MRm_frames_90 {a : Nat} {j : Int32} (hq : (qA a 0).isSome = true) : Rr X d MRm_frames 90 L (.int j :: .ref a :: st) (Wd mu la ro et) = if j < 0 ∨ qAd a 0 ≤ j.toNatClampNeg then none else Rr X d MRm_frames 91 L (.int (mu a j.toNatClampNeg) :: st) (Wd mu la ro et) := R_ialW d_MRm_frames_90 hq
theorem r_MRm_frames_91 {x : Int32} : Rr X d MRm_frames 91 L (.int x :: st) h = Rr X d MRm_frames 92 L (.long x.toInt64 :: st) h := Rr_nx d_MRm_frames_91 rfl
theorem r_MRm_frames_92 {x y : Int64} : Rr X d MRm_frames 92 L (.long y :: .long x :: st) h = Rr X d MRm_frames 93 L (.int (lg_cmp x y) :: st) h := Rr_nx d_MRm_frames_92 rfl
theorem r_MRm_frames_93 {x : Int32} : Rr X d MRm_frames 93 L (.int x :: st) h = if 0 ≤ x then Rr X d MRm_frames 105 L st h else Rr X d MRm_frames 96 L st h := R_if_ge d_MRm_frames_93 (by decide)
theorem r_MRm_frames_96 {l1 l2 l3 l4 l5 l6 l7 : Value} {x : Nat} : Rr X d MRm_frames 96 [.ref x, l1, l2, l3, l4, l5, l6, l7] st h = Rr X d MRm_frames 97 [.ref x, l1, l2, l3, l4, l5, l6, l7] (.ref x :: st) h := Rr_nx d_MRm_frames_96 rfl
theorem r_MRm_frames_97 {a : Nat} (hq : qI a 10 47 = true) : Rr X d MRm_frames 97 L (.ref a :: st) (Wd mu la ro et) = Rr X d MRm_frames 100 L (.int (mu a 47) :: st) (Wd mu la ro et) := R_gfI d_MRm_frames_97 ff_10_339 hq
theorem r_MRm_frames_100 : Rr X d MRm_frames 100 L st h = Rr X d MRm_frames 102 L (.int (40) :: st) h := Rr_nx d_MRm_frames_100 rfl
theorem r_MRm_frames_102 {x y : Int32} : Rr X d MRm_frames 102 L (.int y :: .int x :: st) h = if ¬ x = y then Rr X d MRm_frames 108 L st h else Rr X d MRm_frames 105 L st h := R_ic_ne d_MRm_frames_102 (by decide)
theorem r_MRm_frames_105 {l0 l1 l2 l3 l5 l6 l7 : Value} {x : Int32} : Rr X d MRm_frames 105 [l0, l1, l2, l3, .int x, l5, l6, l7] st h = Rr X d MRm_frames 107 [l0, l1, l2, l3, .int x, l5, l6, l7] (.int x :: st) h := Rr_nx d_MRm_frames_105 rfl
theorem r_MRm_frames_107 {x : Int32} : Rr X d MRm_frames 107 L [.int x] h = some (some (.int x), h) := R_ir d_MRm_frames_107 rfl
theorem r_MRm_frames_108 : Rr X d MRm_frames 108 L st h = Rr X d MRm_frames 110 L (.int (60) :: st) h := Rr_nx d_MRm_frames_108 rfl
theorem r_MRm_frames_110 {l0 l2 l3 l4 l5 l6 l7 : Value} {x : Int32} : Rr X d MRm_frames 110 [l0, .int x, l2, l3, l4, l5, l6, l7] st h = Rr X d MRm_frames 111 [l0, .int x, l2, l3, l4, l5, l6, l7] (.int x :: st) h := Rr_nx d_MRm_frames_110 rfl
theorem r_MRm_frames_111 {x y : Int32} : Rr X d MRm_frames 111 L (.int y :: .int x :: st) h = Rr X d MRm_frames 112 L (.int (x * y) :: st) h := Rr_nx d_MRm_frames_111 rfl
theorem r_MRm_frames_112 {l0 l1 l2 l3 l4 l6 l7 : Value} {x : Int64} : Rr X d MRm_frames 112 [l0, l1, l2, l3, l4, .long x, l6, l7] st h = Rr X d MRm_frames 114 [l0, l1, l2, l3, l4, .long x, l6, l7] (.long x :: st) h := Rr_nx d_MRm_frames_112 rfl
theorem r_MRm_frames_114 {x : Int64} : Rr X d MRm_frames 114 L (.long x :: st) h = Rr X d MRm_frames 115 L (.int x.toInt32 :: st) h := Rr_nx d_MRm_frames_114 rfl
theorem r_MRm_frames_115 {x y : Int32} : Rr X d MRm_frames 115 L (.int y :: .int x :: st) h = Rr X d MRm_frames 116 L (.int (x + y) :: st) h := Rr_nx d_MRm_frames_115 rfl
theorem r_MRm_frames_116 {l0 l1 l2 l3 l4 l5 l6 l7 : Value} {x : Int32} : Rr X d MRm_frames 116 [l0, l1, l2, l3, l4, l5, l6, l7] (.int x :: st) h = Rr X d MRm_frames 118 (sL [l0, l1, l2, l3, l4, l5, l6, l7] 7 (.int x)) st h := Rr_nx d_MRm_frames_116 rfl
theorem r_MRm_frames_118 {l1 l2 l3 l4 l5 l6 l7 : Value} {x : Nat} : Rr X d MRm_frames 118 [.ref x, l1, l2, l3, l4, l5, l6, l7] st h = Rr X d MRm_frames 119 [.ref x, l1, l2, l3, l4, l5, l6, l7] (.ref x :: st) h := Rr_nx d_MRm_frames_118 rfl
theorem r_MRm_frames_119 {l1 l2 l3 l4 l5 l6 l7 : Value} {x : Nat} : Rr X d MRm_frames 119 [.ref x, l1, l2, l3, l4, l5, l6, l7] st h = Rr X d MRm_frames 120 [.ref x, l1, l2, l3, l4, l5, l6, l7] (.ref x :: st) h := Rr_nx d_MRm_frames_119 rfl
theorem r_MRm_frames_120 {a : Nat} (hq : (qR a 10 57).isSome = true) : Rr X d MRm_frames 120 L (.ref a :: st) (Wd mu la ro et) = Rr X d MRm_frames 123 L (.ref (qRd a 10 57) :: st) (Wd mu la ro et) := R_gfR d_MRm_frames_120 ff_10_98 hq
theorem r_MRm_frames_123 {l0 l1 l2 l3 l4 l5 l6 : Value} {x : Int32} : Rr X d MRm_frames 123 [l0, l1, l2, l3, l4, l5, l6, .int x] st h = Rr X d MRm_frames 125 [l0, l1, l2, l3, l4, l5, l6, .int x] (.int x :: st) h := Rr_nx d_MRm_frames_123 rfl
theorem r_MRm_frames_125 {a : Nat} {j : Int32} (hq : (qJ a).isSome = true) : Rr X d MRm_frames 125 L (.int j :: .ref a :: st) (Wd mu la ro et) = if j < 0 ∨ qJd a ≤ j.toNatClampNeg then none else Rr X d MRm_frames 126 L (.long (la a j.toNatClampNeg) :: st) (Wd mu la ro et) := R_lalW d_MRm_frames_125 hq
theorem r_MRm_frames_126 {x : Int64} : Rr X d MRm_frames 126 L (.long x :: st) h = Rr X d MRm_frames 127 L (.int x.toInt32 :: st) h := Rr_nx d_MRm_frames_126 rfl
theorem r_MRm_frames_127 {l1 l2 l3 l4 l5 l6 l7 : Value} {x : Nat} : Rr X d MRm_frames 127 [.ref x, l1, l2, l3, l4, l5, l6, l7] st h = Rr X d MRm_frames 128 [.ref x, l1, l2, l3, l4, l5, l6, l7] (.ref x :: st) h := Rr_nx d_MRm_frames_127 rfl
theorem r_MRm_frames_128 {a : Nat} (hq : (qR a 10 57).isSome = true) : Rr X d MRm_frames 128 L (.ref a :: st) (Wd mu la ro et) = Rr X d MRm_frames 131 L (.ref (qRd a 10 57) :: st) (Wd mu la ro et) := R_gfR d_MRm_frames_128 ff_10_98 hq
theorem r_MRm_frames_131 {l0 l1 l2 l3 l4 l5 l6 : Value} {x : Int32} : Rr X d MRm_frames 131 [l0, l1, l2, l3, l4, l5, l6, .int x] st h = Rr X d MRm_frames 133 [l0, l1, l2, l3, l4, l5, l6, .int x] (.int x :: st) h := Rr_nx d_MRm_frames_131 rfl
theorem r_MRm_frames_133 : Rr X d MRm_frames 133 L st h = Rr X d MRm_frames 134 L (.int (1) :: st) h := Rr_nx d_MRm_frames_133 rfl
theorem r_MRm_frames_134 {x y : Int32} : Rr X d MRm_frames 134 L (.int y :: .int x :: st) h = Rr X d MRm_frames 135 L (.int (x + y) :: st) h := Rr_nx d_MRm_frames_134 rfl
theorem r_MRm_frames_135 {a : Nat} {j : Int32} (hq : (qJ a).isSome = true) : Rr X d MRm_frames 135 L (.int j :: .ref a :: st) (Wd mu la ro et) = if j < 0 ∨ qJd a ≤ j.toNatClampNeg then none else Rr X d MRm_frames 136 L (.long (la a j.toNatClampNeg) :: st) (Wd mu la ro et) := R_lalW d_MRm_frames_135 hq
theorem r_MRm_frames_136 {x : Int64} : Rr X d MRm_frames 136 L (.long x :: st) h = Rr X d MRm_frames 137 L (.int x.toInt32 :: st) h := Rr_nx d_MRm_frames_136 rfl
theorem r_MRm_frames_137 {y0 : Int32} {y1 : Int32} {a : Nat} (hO : qO a 10 = true) (hc : ckS st = true) : Rr X (d + 1) MRm_frames 137 L (.int y1 :: .int y0 :: .ref a :: st) (Wd mu la ro et) = (Rr X d MRm_isFrame 0 [.ref a, .int y0, .int y1] [] (Wd mu la ro et)).bind fun q => Rr X (d + 1) MRm_frames 140 L (psh q.1 st) q.2 := R_iv (av := [.int y1, .int y0]) d_MRm_frames_137 fc_10_342 hO (ckS_le hc) rfl (Nat.le_of_ble_eq_true rfl) (Nat.le_of_ble_eq_true rfl)
theorem r_MRm_frames_140 {x : Int32} : Rr X d MRm_frames 140 L (.int x :: st) h = if ¬ x = 0 then Rr X d MRm_frames 146 L st h else Rr X d MRm_frames 143 L st h := R_if_ne d_MRm_frames_140 (by decide)
theorem r_MRm_frames_143 {l0 l1 l2 l3 l5 l6 l7 : Value} {x : Int32} : Rr X d MRm_frames 143 [l0, l1, l2, l3, .int x, l5, l6, l7] st h = Rr X d MRm_frames 145 [l0, l1, l2, l3, .int x, l5, l6, l7] (.int x :: st) h := Rr_nx d_MRm_frames_143 rfl
theorem r_MRm_frames_145 {x : Int32} : Rr X d MRm_frames 145 L [.int x] h = some (some (.int x), h) := R_ir d_MRm_frames_145 rfl
theorem r_MRm_frames_146 {l1 l2 l3 l4 l5 l6 l7 : Value} {x : Nat} : Rr X d MRm_frames 146 [.ref x, l1, l2, l3, l4, l5, l6, l7] st h = Rr X d MRm_frames 147 [.ref x, l1, l2, l3, l4, l5, l6, l7] (.ref x :: st) h := Rr_nx d_MRm_frames_146 rfl
theorem r_MRm_frames_147 {l1 l2 l3 l4 l5 l6 l7 : Value} {x : Nat} : Rr X d MRm_frames 147 [.ref x, l1, l2, l3, l4, l5, l6, l7] st h = Rr X d MRm_frames 148 [.ref x, l1, l2, l3, l4, l5, l6, l7] (.ref x :: st) h := Rr_nx d_MRm_frames_147 rfl
theorem r_MRm_frames_148 {a : Nat} (hq : (qR a 10 57).isSome = true) : Rr X d MRm_frames 148 L (.ref a :: st) (Wd mu la ro et) = Rr X d MRm_frames 151 L (.ref (qRd a 10 57) :: st) (Wd mu la ro et) := R_gfR d_MRm_frames_148 ff_10_98 hq
theorem r_MRm_frames_151 {l0 l1 l2 l3 l4 l5 l6 : Value} {x : Int32} : Rr X d MRm_frames 151 [l0, l1, l2, l3, l4, l5, l6, .int x] st h = Rr X d MRm_frames 153 [l0, l1, l2, l3, l4, l5, l6, .int x] (.int x :: st) h := Rr_nx d_MRm_frames_151 rfl
theorem r_MRm_frames_153 {a : Nat} {j : Int32} (hq : (qJ a).isSome = true) : Rr X d MRm_frames 153 L (.int j :: .ref a :: st) (Wd mu la ro et) = if j < 0 ∨ qJd a ≤ j.toNatClampNeg then none else Rr X d MRm_frames 154 L (.long (la a j.toNatClampNeg) :: st) (Wd mu la ro et) := R_lalW d_MRm_frames_153 hq
theorem r_MRm_frames_154 {x : Int64} : Rr X d MRm_frames 154 L (.long x :: st) h = Rr X d MRm_frames 155 L (.int x.toInt32 :: st) h := Rr_nx d_MRm_frames_154 rfl
theorem r_MRm_frames_155 {l1 l2 l3 l4 l5 l6 l7 : Value} {x : Nat} : Rr X d MRm_frames 155 [.ref x, l1, l2, l3, l4, l5, l6, l7] st h = Rr X d MRm_frames 156 [.ref x, l1, l2, l3, l4, l5, l6, l7] (.ref x :: st) h := Rr_nx d_MRm_frames_155 rfl
theorem r_MRm_frames_156 {a : Nat} (hq : (qR a 10 57).isSome = true) : Rr X d MRm_frames 156 L (.ref a :: st) (Wd mu la ro et) = Rr X d MRm_frames 159 L (.ref (qRd a 10 57) :: st) (Wd mu la ro et) := R_gfR d_MRm_frames_156 ff_10_98 hq
theorem r_MRm_frames_159 {l0 l1 l2 l3 l4 l5 l6 : Value} {x : Int32} : Rr X d MRm_frames 159 [l0, l1, l2, l3, l4, l5, l6, .int x] st h = Rr X d MRm_frames 161 [l0, l1, l2, l3, l4, l5, l6, .int x] (.int x :: st) h := Rr_nx d_MRm_frames_159 rfl
theorem r_MRm_frames_161 : Rr X d MRm_frames 161 L st h = Rr X d MRm_frames 162 L (.int (1) :: st) h := Rr_nx d_MRm_frames_161 rfl
theorem r_MRm_frames_162 {x y : Int32} : Rr X d MRm_frames 162 L (.int y :: .int x :: st) h = Rr X d MRm_frames 163 L (.int (x + y) :: st) h := Rr_nx d_MRm_frames_162 rfl
theorem r_MRm_frames_163 {a : Nat} {j : Int32} (hq : (qJ a).isSome = true) : Rr X d MRm_frames 163 L (.int j :: .ref a :: st) (Wd mu la ro et) = if j < 0 ∨ qJd a ≤ j.toNatClampNeg then none else Rr X d MRm_frames 164 L (.long (la a j.toNatClampNeg) :: st) (Wd mu la ro et) := R_lalW d_MRm_frames_163 hq
theorem r_MRm_frames_164 {x : Int64} : Rr X d MRm_frames 164 L (.long x :: st) h = Rr X d MRm_frames 165 L (.int x.toInt32 :: st) h := Rr_nx d_MRm_frames_164 rfl
theorem r_MRm_frames_165 {y0 : Int32} {y1 : Int32} {a : Nat} (hO : qO a 10 = true) (hc : ckS st = true) : Rr X (d + 1) MRm_frames 165 L (.int y1 :: .int y0 :: .ref a :: st) (Wd mu la ro et) = (Rr X d MRm_addFrame 0 [.ref a, .int y0, .int y1] [] (Wd mu la ro et)).bind fun q => Rr X (d + 1) MRm_frames 168 L (psh q.1 st) q.2 := R_iv (av := [.int y1, .int y0]) d_MRm_frames_165 fc_10_345 hO (ckS_le hc) rfl (Nat.le_of_ble_eq_true rfl) (Nat.le_of_ble_eq_true rfl)
theorem r_MRm_frames_168 {l0 l1 l2 l3 l5 l6 l7 : Value} {x : Int32} : Rr X d MRm_frames 168 [l0, l1, l2, l3, .int x, l5, l6, l7] st h = Rr X d MRm_frames 171 (sL [l0, l1, l2, l3, .int x, l5, l6, l7] 4 (.int (x + (1)))) st h := Rr_nx d_MRm_frames_168 rfl
theorem r_MRm_frames_171 : Rr X d MRm_frames 171 L st h = Rr X d MRm_frames 58 L st h := R_goto d_MRm_frames_171 (by decide)
theorem r_MRm_frames_174 {l0 l1 l2 l4 l5 l6 l7 : Value} {x : Int32} : Rr X d MRm_frames 174 [l0, l1, l2, .int x, l4, l5, l6, l7] st h = Rr X d MRm_frames 175 [l0, l1, l2, .int x, l4, l5, l6, l7] (.int x :: st) h := Rr_nx d_MRm_frames_174 rfl
theorem r_MRm_frames_175 {x : Int32} : Rr X d MRm_frames 175 L [.int x] h = some (some (.int x), h) := R_ir d_MRm_frames_175 rfl
theorem d_MRm_cut_0 : decode MRm_cut.2.2.1 0 = .ok (.aload_n 0, 1) := lkT_ok tk_MRm_cut rfl
theorem d_MRm_cut_1 : decode MRm_cut.2.2.1 1 = .ok (.getfield 339, 3) := lkT_ok tk_MRm_cut rfl
theorem d_MRm_cut_4 : decode MRm_cut.2.2.1 4 = .ok (.istore_n 1, 1) := lkT_ok tk_MRm_cut rfl
theorem d_MRm_cut_5 : decode MRm_cut.2.2.1 5 = .ok (.aload_n 0, 1) := lkT_ok tk_MRm_cut rfl
theorem d_MRm_cut_6 : decode MRm_cut.2.2.1 6 = .ok (.iconst 0, 1) := lkT_ok tk_MRm_cut rfl
theorem d_MRm_cut_7 : decode MRm_cut.2.2.1 7 = .ok (.putfield 339, 3) := lkT_ok tk_MRm_cut rfl
theorem d_MRm_cut_10 : decode MRm_cut.2.2.1 10 = .ok (.iload_n 1, 1) := lkT_ok tk_MRm_cut rfl
theorem d_MRm_cut_11 : decode MRm_cut.2.2.1 11 = .ok (.ireturn, 1) := lkT_ok tk_MRm_cut rfl
theorem r_MRm_cut_0 {l1 : Value} {x : Nat} : Rr X d MRm_cut 0 [.ref x, l1] st h = Rr X d MRm_cut 1 [.ref x, l1] (.ref x :: st) h := Rr_nx d_MRm_cut_0 rfl
theorem r_MRm_cut_1 {a : Nat} (hq : qI a 10 47 = true) : Rr X d MRm_cut 1 L (.ref a :: st) (Wd mu la ro et) = Rr X d MRm_cut 4 L (.int (mu a 47) :: st) (Wd mu la ro et) := R_gfI d_MRm_cut_1 ff_10_339 hq
theorem r_MRm_cut_4 {l0 l1 : Value} {x : Int32} : Rr X d MRm_cut 4 [l0, l1] (.int x :: st) h = Rr X d MRm_cut 5 (sL [l0, l1] 1 (.int x)) st h := Rr_nx d_MRm_cut_4 rfl
theorem r_MRm_cut_5 {l1 : Value} {x : Nat} : Rr X d MRm_cut 5 [.ref x, l1] st h = Rr X d MRm_cut 6 [.ref x, l1] (.ref x :: st) h := Rr_nx d_MRm_cut_5 rfl
theorem r_MRm_cut_6 : Rr X d MRm_cut 6 L st h = Rr X d MRm_cut 7 L (.int (0) :: st) h := Rr_nx d_MRm_cut_6 rfl
theorem r_MRm_cut_7 {a : Nat} {x : Int32} (hq : qI a 10 47 = true) : Rr X d MRm_cut 7 L (.int x :: .ref a :: st) (Wd mu la ro et) = Rr X d MRm_cut 10 L st (Wd (up2 mu a 47 x) la ro et) := R_pfI d_MRm_cut_7 ff_10_339 hq
theorem r_MRm_cut_10 {l0 : Value} {x : Int32} : Rr X d MRm_cut 10 [l0, .int x] st h = Rr X d MRm_cut 11 [l0, .int x] (.int x :: st) h := Rr_nx d_MRm_cut_10 rfl
theorem r_MRm_cut_11 {x : Int32} : Rr X d MRm_cut 11 L [.int x] h = some (some (.int x), h) := R_ir d_MRm_cut_11 rfl
theorem d_MRm_offBy_0 : decode MRm_offBy.2.2.1 0 = .ok (.aload_n 0, 1) := lkT_ok tk_MRm_offBy rfl
theorem d_MRm_offBy_1 : decode MRm_offBy.2.2.1 1 = .ok (.aload_n 0, 1) := lkT_ok tk_MRm_offBy rfl
theorem d_MRm_offBy_2 : decode MRm_offBy.2.2.1 2 = .ok (.getfield 79, 3) := lkT_ok tk_MRm_offBy rfl
theorem d_MRm_offBy_5 : decode MRm_offBy.2.2.1 5 = .ok (.iconst 0, 1) := lkT_ok tk_MRm_offBy rfl
theorem d_MRm_offBy_6 : decode MRm_offBy.2.2.1 6 = .ok (.iaload, 1) := lkT_ok tk_MRm_offBy rfl
theorem d_MRm_offBy_7 : decode MRm_offBy.2.2.1 7 = .ok (.iload 4, 2) := lkT_ok tk_MRm_offBy rfl
theorem d_MRm_offBy_9 : decode MRm_offBy.2.2.1 9 = .ok (.invokevirtual 294, 3) := lkT_ok tk_MRm_offBy rfl
theorem d_MRm_offBy_12 : decode MRm_offBy.2.2.1 12 = .ok (.iconst 0, 1) := lkT_ok tk_MRm_offBy rfl
theorem d_MRm_offBy_13 : decode MRm_offBy.2.2.1 13 = .ok (.istore 5, 2) := lkT_ok tk_MRm_offBy rfl
theorem d_MRm_offBy_15 : decode MRm_offBy.2.2.1 15 = .ok (.iconst 1, 1) := lkT_ok tk_MRm_offBy rfl
theorem d_MRm_offBy_16 : decode MRm_offBy.2.2.1 16 = .ok (.istore 6, 2) := lkT_ok tk_MRm_offBy rfl
theorem d_MRm_offBy_18 : decode MRm_offBy.2.2.1 18 = .ok (.iconst 1, 1) := lkT_ok tk_MRm_offBy rfl
theorem d_MRm_offBy_19 : decode MRm_offBy.2.2.1 19 = .ok (.istore 7, 2) := lkT_ok tk_MRm_offBy rfl
theorem d_MRm_offBy_21 : decode MRm_offBy.2.2.1 21 = .ok (.iload 6, 2) := lkT_ok tk_MRm_offBy rfl
theorem d_MRm_offBy_23 : decode MRm_offBy.2.2.1 23 = .ok (.aload_n 0, 1) := lkT_ok tk_MRm_offBy rfl
theorem d_MRm_offBy_24 : decode MRm_offBy.2.2.1 24 = .ok (.getfield 339, 3) := lkT_ok tk_MRm_offBy rfl
theorem d_MRm_offBy_27 : decode MRm_offBy.2.2.1 27 = .ok (.if_icmp .ge 63, 3) := lkT_ok tk_MRm_offBy rfl
theorem d_MRm_offBy_30 : decode MRm_offBy.2.2.1 30 = .ok (.aload_n 0, 1) := lkT_ok tk_MRm_offBy rfl
theorem d_MRm_offBy_31 : decode MRm_offBy.2.2.1 31 = .ok (.iload_n 1, 1) := lkT_ok tk_MRm_offBy rfl
theorem d_MRm_offBy_32 : decode MRm_offBy.2.2.1 32 = .ok (.iload_n 2, 1) := lkT_ok tk_MRm_offBy rfl
theorem d_MRm_offBy_33 : decode MRm_offBy.2.2.1 33 = .ok (.iload_n 3, 1) := lkT_ok tk_MRm_offBy rfl
theorem d_MRm_offBy_34 : decode MRm_offBy.2.2.1 34 = .ok (.iload 7, 2) := lkT_ok tk_MRm_offBy rfl
theorem d_MRm_offBy_36 : decode MRm_offBy.2.2.1 36 = .ok (.invokevirtual 300, 3) := lkT_ok tk_MRm_offBy rfl
theorem d_MRm_offBy_39 : decode MRm_offBy.2.2.1 39 = .ok (.aload_n 0, 1) := lkT_ok tk_MRm_offBy rfl
theorem d_MRm_offBy_40 : decode MRm_offBy.2.2.1 40 = .ok (.getfield 76, 3) := lkT_ok tk_MRm_offBy rfl
theorem d_MRm_offBy_43 : decode MRm_offBy.2.2.1 43 = .ok (.iconst 0, 1) := lkT_ok tk_MRm_offBy rfl
theorem d_MRm_offBy_44 : decode MRm_offBy.2.2.1 44 = .ok (.iaload, 1) := lkT_ok tk_MRm_offBy rfl
theorem d_MRm_offBy_45 : decode MRm_offBy.2.2.1 45 = .ok (.iload 7, 2) := lkT_ok tk_MRm_offBy rfl
theorem d_MRm_offBy_47 : decode MRm_offBy.2.2.1 47 = .ok (.iadd, 1) := lkT_ok tk_MRm_offBy rfl
theorem d_MRm_offBy_48 : decode MRm_offBy.2.2.1 48 = .ok (.aload_n 0, 1) := lkT_ok tk_MRm_offBy rfl
theorem d_MRm_offBy_49 : decode MRm_offBy.2.2.1 49 = .ok (.getfield 76, 3) := lkT_ok tk_MRm_offBy rfl
theorem d_MRm_offBy_52 : decode MRm_offBy.2.2.1 52 = .ok (.iload 6, 2) := lkT_ok tk_MRm_offBy rfl
theorem d_MRm_offBy_54 : decode MRm_offBy.2.2.1 54 = .ok (.iaload, 1) := lkT_ok tk_MRm_offBy rfl
theorem d_MRm_offBy_55 : decode MRm_offBy.2.2.1 55 = .ok (.if_icmp .eq 6, 3) := lkT_ok tk_MRm_offBy rfl
theorem d_MRm_offBy_58 : decode MRm_offBy.2.2.1 58 = .ok (.goto 26, 3) := lkT_ok tk_MRm_offBy rfl
theorem d_MRm_offBy_61 : decode MRm_offBy.2.2.1 61 = .ok (.iload 5, 2) := lkT_ok tk_MRm_offBy rfl
theorem d_MRm_offBy_63 : decode MRm_offBy.2.2.1 63 = .ok (.aload_n 0, 1) := lkT_ok tk_MRm_offBy rfl
theorem d_MRm_offBy_64 : decode MRm_offBy.2.2.1 64 = .ok (.getfield 260, 3) := lkT_ok tk_MRm_offBy rfl
theorem d_MRm_offBy_67 : decode MRm_offBy.2.2.1 67 = .ok (.aload_n 0, 1) := lkT_ok tk_MRm_offBy rfl
theorem d_MRm_offBy_68 : decode MRm_offBy.2.2.1 68 = .ok (.getfield 79, 3) := lkT_ok tk_MRm_offBy rfl
theorem d_MRm_offBy_71 : decode MRm_offBy.2.2.1 71 = .ok (.iload 6, 2) := lkT_ok tk_MRm_offBy rfl
theorem d_MRm_offBy_73 : decode MRm_offBy.2.2.1 73 = .ok (.iaload, 1) := lkT_ok tk_MRm_offBy rfl
theorem d_MRm_offBy_74 : decode MRm_offBy.2.2.1 74 = .ok (.isub, 1) := lkT_ok tk_MRm_offBy rfl
theorem d_MRm_offBy_75 : decode MRm_offBy.2.2.1 75 = .ok (.invokestatic 167, 3) := lkT_ok tk_MRm_offBy rfl
theorem d_MRm_offBy_78 : decode MRm_offBy.2.2.1 78 = .ok (.iadd, 1) := lkT_ok tk_MRm_offBy rfl
theorem d_MRm_offBy_79 : decode MRm_offBy.2.2.1 79 = .ok (.istore 5, 2) := lkT_ok tk_MRm_offBy rfl
theorem d_MRm_offBy_81 : decode MRm_offBy.2.2.1 81 = .ok (.iinc 6 1, 3) := lkT_ok tk_MRm_offBy rfl
theorem d_MRm_offBy_84 : decode MRm_offBy.2.2.1 84 = .ok (.iinc 7 1, 3) := lkT_ok tk_MRm_offBy rfl
theorem d_MRm_offBy_87 : decode MRm_offBy.2.2.1 87 = .ok (.goto (-66), 3) := lkT_ok tk_MRm_offBy rfl
theorem d_MRm_offBy_90 : decode MRm_offBy.2.2.1 90 = .ok (.iload 5, 2) := lkT_ok tk_MRm_offBy rfl
theorem d_MRm_offBy_92 : decode MRm_offBy.2.2.1 92 = .ok (.ireturn, 1) := lkT_ok tk_MRm_offBy rfl
theorem r_MRm_offBy_0 {l1 l2 l3 l4 l5 l6 l7 : Value} {x : Nat} : Rr X d MRm_offBy 0 [.ref x, l1, l2, l3, l4, l5, l6, l7] st h = Rr X d MRm_offBy 1 [.ref x, l1, l2, l3, l4, l5, l6, l7] (.ref x :: st) h := Rr_nx d_MRm_offBy_0 rfl
theorem r_MRm_offBy_1 {l1 l2 l3 l4 l5 l6 l7 : Value} {x : Nat} : Rr X d MRm_offBy 1 [.ref x, l1, l2, l3, l4, l5, l6, l7] st h = Rr X d MRm_offBy 2 [.ref x, l1, l2, l3, l4, l5, l6, l7] (.ref x :: st) h := Rr_nx d_MRm_offBy_1 rfl
theorem r_MRm_offBy_2 {a : Nat} (hq : (qR a 10 49).isSome = true) : Rr X d MRm_offBy 2 L (.ref a :: st) (Wd mu la ro et) = Rr X d MRm_offBy 5 L (.ref (qRd a 10 49) :: st) (Wd mu la ro et) := R_gfR d_MRm_offBy_2 ff_10_79 hq
theorem r_MRm_offBy_5 : Rr X d MRm_offBy 5 L st h = Rr X d MRm_offBy 6 L (.int (0) :: st) h := Rr_nx d_MRm_offBy_5 rfl
theorem r_MRm_offBy_6 {a : Nat} {j : Int32} (hq : (qA a 0).isSome = true) : Rr X d MRm_offBy 6 L (.int j :: .ref a :: st) (Wd mu la ro et) = if j < 0 ∨ qAd a 0 ≤ j.toNatClampNeg then none else Rr X d MRm_offBy 7 L (.int (mu a j.toNatClampNeg) :: st) (Wd mu la ro et) := R_ialW d_MRm_offBy_6 hq
theorem r_MRm_offBy_7 {l0 l1 l2 l3 l5 l6 l7 : Value} {x : Int32} : Rr X d MRm_offBy 7 [l0, l1, l2, l3, .int x, l5, l6, l7] st h = Rr X d MRm_offBy 9 [l0, l1, l2, l3, .int x, l5, l6, l7] (.int x :: st) h := Rr_nx d_MRm_offBy_7 rfl
theorem fc_10_294 : fC 10 294 = some (0, 10, 2, MRm_begin) := rfl
theorem r_MRm_offBy_9 {y0 : Int32} {y1 : Int32} {a : Nat} (hO : qO a 10 = true) (hc : ckS st = true) : Rr X (d + 1) MRm_offBy 9 L (.int y1 :: .int y0 :: .ref a :: st) (Wd mu la ro et) = (Rr X d MRm_begin 0 [.ref a, .int y0, .int y1] [] (Wd mu la ro et)).bind fun q => Rr X (d + 1) MRm_offBy 12 L (psh q.1 st) q.2 := R_iv (av := [.int y1, .int y0]) d_MRm_offBy_9 fc_10_294 hO (ckS_le hc) rfl (Nat.le_of_ble_eq_true rfl) (Nat.le_of_ble_eq_true rfl)
theorem r_MRm_offBy_12 : Rr X d MRm_offBy 12 L st h = Rr X d MRm_offBy 13 L (.int (0) :: st) h := Rr_nx d_MRm_offBy_12 rfl
theorem r_MRm_offBy_13 {l0 l1 l2 l3 l4 l5 l6 l7 : Value} {x : Int32} : Rr X d MRm_offBy 13 [l0, l1, l2, l3, l4, l5, l6, l7] (.int x :: st) h = Rr X d MRm_offBy 15 (sL [l0, l1, l2, l3, l4, l5, l6, l7] 5 (.int x)) st h := Rr_nx d_MRm_offBy_13 rfl
theorem r_MRm_offBy_15 : Rr X d MRm_offBy 15 L st h = Rr X d MRm_offBy 16 L (.int (1) :: st) h := Rr_nx d_MRm_offBy_15 rfl
theorem r_MRm_offBy_16 {l0 l1 l2 l3 l4 l5 l6 l7 : Value} {x : Int32} : Rr X d MRm_offBy 16 [l0, l1, l2, l3, l4, l5, l6, l7] (.int x :: st) h = Rr X d MRm_offBy 18 (sL [l0, l1, l2, l3, l4, l5, l6, l7] 6 (.int x)) st h := Rr_nx d_MRm_offBy_16 rfl
theorem r_MRm_offBy_18 : Rr X d MRm_offBy 18 L st h = Rr X d MRm_offBy 19 L (.int (1) :: st) h := Rr_nx d_MRm_offBy_18 rfl
theorem r_MRm_offBy_19 {l0 l1 l2 l3 l4 l5 l6 l7 : Value} {x : Int32} : Rr X d MRm_offBy 19 [l0, l1, l2, l3, l4, l5, l6, l7] (.int x :: st) h = Rr X d MRm_offBy 21 (sL [l0, l1, l2, l3, l4, l5, l6, l7] 7 (.int x)) st h := Rr_nx d_MRm_offBy_19 rfl
theorem r_MRm_offBy_21 {l0 l1 l2 l3 l4 l5 l7 : Value} {x : Int32} : Rr X d MRm_offBy 21 [l0, l1, l2, l3, l4, l5, .int x, l7] st h = Rr X d MRm_offBy 23 [l0, l1, l2, l3, l4, l5, .int x, l7] (.int x :: st) h := Rr_nx d_MRm_offBy_21 rfl
theorem r_MRm_offBy_23 {l1 l2 l3 l4 l5 l6 l7 : Value} {x : Nat} : Rr X d MRm_offBy 23 [.ref x, l1, l2, l3, l4, l5, l6, l7] st h = Rr X d MRm_offBy 24 [.ref x, l1, l2, l3, l4, l5, l6, l7] (.ref x :: st) h := Rr_nx d_MRm_offBy_23 rfl
theorem r_MRm_offBy_24 {a : Nat} (hq : qI a 10 47 = true) : Rr X d MRm_offBy 24 L (.ref a :: st) (Wd mu la ro et) = Rr X d MRm_offBy 27 L (.int (mu a 47) :: st) (Wd mu la ro et) := R_gfI d_MRm_offBy_24 ff_10_339 hq
theorem r_MRm_offBy_27 {x y : Int32} : Rr X d MRm_offBy 27 L (.int y :: .int x :: st) h = if y ≤ x then Rr X d MRm_offBy 90 L st h else Rr X d MRm_offBy 30 L st h := R_ic_ge d_MRm_offBy_27 (by decide)
theorem r_MRm_offBy_30 {l1 l2 l3 l4 l5 l6 l7 : Value} {x : Nat} : Rr X d MRm_offBy 30 [.ref x, l1, l2, l3, l4, l5, l6, l7] st h = Rr X d MRm_offBy 31 [.ref x, l1, l2, l3, l4, l5, l6, l7] (.ref x :: st) h := Rr_nx d_MRm_offBy_30 rfl
theorem r_MRm_offBy_31 {l0 l2 l3 l4 l5 l6 l7 : Value} {x : Int32} : Rr X d MRm_offBy 31 [l0, .int x, l2, l3, l4, l5, l6, l7] st h = Rr X d MRm_offBy 32 [l0, .int x, l2, l3, l4, l5, l6, l7] (.int x :: st) h := Rr_nx d_MRm_offBy_31 rfl
theorem r_MRm_offBy_32 {l0 l1 l3 l4 l5 l6 l7 : Value} {x : Int32} : Rr X d MRm_offBy 32 [l0, l1, .int x, l3, l4, l5, l6, l7] st h = Rr X d MRm_offBy 33 [l0, l1, .int x, l3, l4, l5, l6, l7] (.int x :: st) h := Rr_nx d_MRm_offBy_32 rfl
theorem r_MRm_offBy_33 {l0 l1 l2 l4 l5 l6 l7 : Value} {x : Int32} : Rr X d MRm_offBy 33 [l0, l1, l2, .int x, l4, l5, l6, l7] st h = Rr X d MRm_offBy 34 [l0, l1, l2, .int x, l4, l5, l6, l7] (.int x :: st) h := Rr_nx d_MRm_offBy_33 rfl
theorem r_MRm_offBy_34 {l0 l1 l2 l3 l4 l5 l6 : Value} {x : Int32} : Rr X d MRm_offBy 34 [l0, l1, l2, l3, l4, l5, l6, .int x] st h = Rr X d MRm_offBy 36 [l0, l1, l2, l3, l4, l5, l6, .int x] (.int x :: st) h := Rr_nx d_MRm_offBy_34 rfl
theorem fc_10_300 : fC 10 300 = some (0, 10, 4, MRm_go) := rfl
theorem r_MRm_offBy_36 {y0 : Int32} {y1 : Int32} {y2 : Int32} {y3 : Int32} {a : Nat} (hO : qO a 10 = true) (hc : ckS st = true) : Rr X (d + 1) MRm_offBy 36 L (.int y3 :: .int y2 :: .int y1 :: .int y0 :: .ref a :: st) (Wd mu la ro et) = (Rr X d MRm_go 0 [.ref a, .int y0, .int y1, .int y2, .int y3, mkU, mkU, mkU, mkU, mkU] [] (Wd mu la ro et)).bind fun q => Rr X (d + 1) MRm_offBy 39 L (psh q.1 st) q.2 := R_iv (av := [.int y3, .int y2, .int y1, .int y0]) d_MRm_offBy_36 fc_10_300 hO (ckS_le hc) rfl (Nat.le_of_ble_eq_true rfl) (Nat.le_of_ble_eq_true rfl)
theorem r_MRm_offBy_39 {l1 l2 l3 l4 l5 l6 l7 : Value} {x : Nat} : Rr X d MRm_offBy 39 [.ref x, l1, l2, l3, l4, l5, l6, l7] st h = Rr X d MRm_offBy 40 [.ref x, l1, l2, l3, l4, l5, l6, l7] (.ref x :: st) h := Rr_nx d_MRm_offBy_39 rfl
theorem r_MRm_offBy_40 {a : Nat} (hq : (qR a 10 48).isSome = true) : Rr X d MRm_offBy 40 L (.ref a :: st) (Wd mu la ro et) = Rr X d MRm_offBy 43 L (.ref (qRd a 10 48) :: st) (Wd mu la ro et) := R_gfR d_MRm_offBy_40 ff_10_76 hq
theorem r_MRm_offBy_43 : Rr X d MRm_offBy 43 L st h = Rr X d MRm_offBy 44 L (.int (0) :: st) h := Rr_nx d_MRm_offBy_43 rfl
theorem r_MRm_offBy_44 {a : Nat} {j : Int32} (hq : (qA a 0).isSome = true) : Rr X d MRm_offBy 44 L (.int j :: .ref a :: st) (Wd mu la ro et) = if j < 0 ∨ qAd a 0 ≤ j.toNatClampNeg then none else Rr X d MRm_offBy 45 L (.int (mu a j.toNatClampNeg) :: st) (Wd mu la ro et) := R_ialW d_MRm_offBy_44 hq
theorem r_MRm_offBy_45 {l0 l1 l2 l3 l4 l5 l6 : Value} {x : Int32} : Rr X d MRm_offBy 45 [l0, l1, l2, l3, l4, l5, l6, .int x] st h = Rr X d MRm_offBy 47 [l0, l1, l2, l3, l4, l5, l6, .int x] (.int x :: st) h := Rr_nx d_MRm_offBy_45 rfl
theorem r_MRm_offBy_47 {x y : Int32} : Rr X d MRm_offBy 47 L (.int y :: .int x :: st) h = Rr X d MRm_offBy 48 L (.int (x + y) :: st) h := Rr_nx d_MRm_offBy_47 rfl
theorem r_MRm_offBy_48 {l1 l2 l3 l4 l5 l6 l7 : Value} {x : Nat} : Rr X d MRm_offBy 48 [.ref x, l1, l2, l3, l4, l5, l6, l7] st h = Rr X d MRm_offBy 49 [.ref x, l1, l2, l3, l4, l5, l6, l7] (.ref x :: st) h := Rr_nx d_MRm_offBy_48 rfl
theorem r_MRm_offBy_49 {a : Nat} (hq : (qR a 10 48).isSome = true) : Rr X d MRm_offBy 49 L (.ref a :: st) (Wd mu la ro et) = Rr X d MRm_offBy 52 L (.ref (qRd a 10 48) :: st) (Wd mu la ro et) := R_gfR d_MRm_offBy_49 ff_10_76 hq
theorem r_MRm_offBy_52 {l0 l1 l2 l3 l4 l5 l7 : Value} {x : Int32} : Rr X d MRm_offBy 52 [l0, l1, l2, l3, l4, l5, .int x, l7] st h = Rr X d MRm_offBy 54 [l0, l1, l2, l3, l4, l5, .int x, l7] (.int x :: st) h := Rr_nx d_MRm_offBy_52 rfl
theorem r_MRm_offBy_54 {a : Nat} {j : Int32} (hq : (qA a 0).isSome = true) : Rr X d MRm_offBy 54 L (.int j :: .ref a :: st) (Wd mu la ro et) = if j < 0 ∨ qAd a 0 ≤ j.toNatClampNeg then none else Rr X d MRm_offBy 55 L (.int (mu a j.toNatClampNeg) :: st) (Wd mu la ro et) := R_ialW d_MRm_offBy_54 hq
theorem r_MRm_offBy_55 {x y : Int32} : Rr X d MRm_offBy 55 L (.int y :: .int x :: st) h = if x = y then Rr X d MRm_offBy 61 L st h else Rr X d MRm_offBy 58 L st h := R_ic_eq d_MRm_offBy_55 (by decide)
theorem r_MRm_offBy_58 : Rr X d MRm_offBy 58 L st h = Rr X d MRm_offBy 84 L st h := R_goto d_MRm_offBy_58 (by decide)
theorem r_MRm_offBy_61 {l0 l1 l2 l3 l4 l6 l7 : Value} {x : Int32} : Rr X d MRm_offBy 61 [l0, l1, l2, l3, l4, .int x, l6, l7] st h = Rr X d MRm_offBy 63 [l0, l1, l2, l3, l4, .int x, l6, l7] (.int x :: st) h := Rr_nx d_MRm_offBy_61 rfl
theorem r_MRm_offBy_63 {l1 l2 l3 l4 l5 l6 l7 : Value} {x : Nat} : Rr X d MRm_offBy 63 [.ref x, l1, l2, l3, l4, l5, l6, l7] st h = Rr X d MRm_offBy 64 [.ref x, l1, l2, l3, l4, l5, l6, l7] (.ref x :: st) h := Rr_nx d_MRm_offBy_63 rfl
theorem ff_10_260 : fF 10 260 = some (10, 30, 0, 0) := rfl
theorem r_MRm_offBy_64 {a : Nat} (hq : qI a 10 30 = true) : Rr X d MRm_offBy 64 L (.ref a :: st) (Wd mu la ro et) = Rr X d MRm_offBy 67 L (.int (mu a 30) :: st) (Wd mu la ro et) := R_gfI d_MRm_offBy_64 ff_10_260 hq
theorem r_MRm_offBy_67 {l1 l2 l3 l4 l5 l6 l7 : Value} {x : Nat} : Rr X d MRm_offBy 67 [.ref x, l1, l2, l3, l4, l5, l6, l7] st h = Rr X d MRm_offBy 68 [.ref x, l1, l2, l3, l4, l5, l6, l7] (.ref x :: st) h := Rr_nx d_MRm_offBy_67 rfl
theorem r_MRm_offBy_68 {a : Nat} (hq : (qR a 10 49).isSome = true) : Rr X d MRm_offBy 68 L (.ref a :: st) (Wd mu la ro et) = Rr X d MRm_offBy 71 L (.ref (qRd a 10 49) :: st) (Wd mu la ro et) := R_gfR d_MRm_offBy_68 ff_10_79 hq
theorem r_MRm_offBy_71 {l0 l1 l2 l3 l4 l5 l7 : Value} {x : Int32} : Rr X d MRm_offBy 71 [l0, l1, l2, l3, l4, l5, .int x, l7] st h = Rr X d MRm_offBy 73 [l0, l1, l2, l3, l4, l5, .int x, l7] (.int x :: st) h := Rr_nx d_MRm_offBy_71 rfl
theorem r_MRm_offBy_73 {a : Nat} {j : Int32} (hq : (qA a 0).isSome = true) : Rr X d MRm_offBy 73 L (.int j :: .ref a :: st) (Wd mu la ro et) = if j < 0 ∨ qAd a 0 ≤ j.toNatClampNeg then none else Rr X d MRm_offBy 74 L (.int (mu a j.toNatClampNeg) :: st) (Wd mu la ro et) := R_ialW d_MRm_offBy_73 hq
theorem r_MRm_offBy_74 {x y : Int32} : Rr X d MRm_offBy 74 L (.int y :: .int x :: st) h = Rr X d MRm_offBy 75 L (.int (x - y) :: st) h := Rr_nx d_MRm_offBy_74 rfl
theorem fc_10_167 : fC 10 167 = some (1, 0, 1, MRm_sizeOf) := rfl
theorem r_MRm_offBy_75 {y0 : Int32} (hc : ckS st = true) : Rr X (d + 1) MRm_offBy 75 L (.int y0 :: st) h = (Rr X d MRm_sizeOf 0 [.int y0] [] h).bind fun q => Rr X (d + 1) MRm_offBy 78 L (psh q.1 st) q.2 := R_is (av := [.int y0]) d_MRm_offBy_75 (Or.inl fc_10_167) (ckS_le hc) rfl (Nat.le_of_ble_eq_true rfl) (Nat.le_of_ble_eq_true rfl)
theorem r_MRm_offBy_78 {x y : Int32} : Rr X d MRm_offBy 78 L (.int y :: .int x :: st) h = Rr X d MRm_offBy 79 L (.int (x + y) :: st) h := Rr_nx d_MRm_offBy_78 rfl
theorem r_MRm_offBy_79 {l0 l1 l2 l3 l4 l5 l6 l7 : Value} {x : Int32} : Rr X d MRm_offBy 79 [l0, l1, l2, l3, l4, l5, l6, l7] (.int x :: st) h = Rr X d MRm_offBy 81 (sL [l0, l1, l2, l3, l4, l5, l6, l7] 5 (.int x)) st h := Rr_nx d_MRm_offBy_79 rfl
theorem r_MRm_offBy_81 {l0 l1 l2 l3 l4 l5 l7 : Value} {x : Int32} : Rr X d MRm_offBy 81 [l0, l1, l2, l3, l4, l5, .int x, l7] st h = Rr X d MRm_offBy 84 (sL [l0, l1, l2, l3, l4, l5, .int x, l7] 6 (.int (x + (1)))) st h := Rr_nx d_MRm_offBy_81 rfl
theorem r_MRm_offBy_84 {l0 l1 l2 l3 l4 l5 l6 : Value} {x : Int32} : Rr X d MRm_offBy 84 [l0, l1, l2, l3, l4, l5, l6, .int x] st h = Rr X d MRm_offBy 87 (sL [l0, l1, l2, l3, l4, l5, l6, .int x] 7 (.int (x + (1)))) st h := Rr_nx d_MRm_offBy_84 rfl
theorem r_MRm_offBy_87 : Rr X d MRm_offBy 87 L st h = Rr X d MRm_offBy 21 L st h := R_goto d_MRm_offBy_87 (by decide)
theorem r_MRm_offBy_90 {l0 l1 l2 l3 l4 l6 l7 : Value} {x : Int32} : Rr X d MRm_offBy 90 [l0, l1, l2, l3, l4, .int x, l6, l7] st h = Rr X d MRm_offBy 92 [l0, l1, l2, l3, l4, .int x, l6, l7] (.int x :: st) h := Rr_nx d_MRm_offBy_90 rfl
theorem r_MRm_offBy_92 {x : Int32} : Rr X d MRm_offBy 92 L [.int x] h = some (some (.int x), h) := R_ir d_MRm_offBy_92 rfl
theorem d_MRm_look_0 : decode MRm_look.2.2.1 0 = .ok (.aload_n 0, 1) := lkT_ok tk_MRm_look rfl
theorem d_MRm_look_1 : decode MRm_look.2.2.1 1 = .ok (.getfield 120, 3) := lkT_ok tk_MRm_look rfl
theorem d_MRm_look_4 : decode MRm_look.2.2.1 4 = .ok (.aload_n 0, 1) := lkT_ok tk_MRm_look rfl
theorem d_MRm_look_5 : decode MRm_look.2.2.1 5 = .ok (.getfield 111, 3) := lkT_ok tk_MRm_look rfl
theorem d_MRm_look_8 : decode MRm_look.2.2.1 8 = .ok (.if_icmp .ge 15, 3) := lkT_ok tk_MRm_look rfl
theorem d_MRm_look_11 : decode MRm_look.2.2.1 11 = .ok (.aload_n 0, 1) := lkT_ok tk_MRm_look rfl
theorem d_MRm_look_12 : decode MRm_look.2.2.1 12 = .ok (.getfield 7, 3) := lkT_ok tk_MRm_look rfl
theorem d_MRm_look_15 : decode MRm_look.2.2.1 15 = .ok (.aload_n 0, 1) := lkT_ok tk_MRm_look rfl
theorem d_MRm_look_16 : decode MRm_look.2.2.1 16 = .ok (.getfield 120, 3) := lkT_ok tk_MRm_look rfl
theorem d_MRm_look_19 : decode MRm_look.2.2.1 19 = .ok (.baload, 1) := lkT_ok tk_MRm_look rfl
theorem d_MRm_look_20 : decode MRm_look.2.2.1 20 = .ok (.goto 4, 3) := lkT_ok tk_MRm_look rfl
theorem d_MRm_look_23 : decode MRm_look.2.2.1 23 = .ok (.iconst (-1), 1) := lkT_ok tk_MRm_look rfl
theorem d_MRm_look_24 : decode MRm_look.2.2.1 24 = .ok (.ireturn, 1) := lkT_ok tk_MRm_look rfl
theorem r_MRm_look_0 {x : Nat} : Rr X d MRm_look 0 [.ref x] st h = Rr X d MRm_look 1 [.ref x] (.ref x :: st) h := Rr_nx d_MRm_look_0 rfl
theorem ff_10_120 : fF 10 120 = some (10, 18, 0, 0) := rfl
theorem r_MRm_look_1 {a : Nat} (hq : qI a 10 18 = true) : Rr X d MRm_look 1 L (.ref a :: st) (Wd mu la ro et) = Rr X d MRm_look 4 L (.int (mu a 18) :: st) (Wd mu la ro et) := R_gfI d_MRm_look_1 ff_10_120 hq
theorem r_MRm_look_4 {x : Nat} : Rr X d MRm_look 4 [.ref x] st h = Rr X d MRm_look 5 [.ref x] (.ref x :: st) h := Rr_nx d_MRm_look_4 rfl
theorem ff_10_111 : fF 10 111 = some (10, 2, 0, 0) := rfl
theorem r_MRm_look_5 {a : Nat} (hq : qI a 10 2 = true) : Rr X d MRm_look 5 L (.ref a :: st) (Wd mu la ro et) = Rr X d MRm_look 8 L (.int (mu a 2) :: st) (Wd mu la ro et) := R_gfI d_MRm_look_5 ff_10_111 hq
theorem r_MRm_look_8 {x y : Int32} : Rr X d MRm_look 8 L (.int y :: .int x :: st) h = if y ≤ x then Rr X d MRm_look 23 L st h else Rr X d MRm_look 11 L st h := R_ic_ge d_MRm_look_8 (by decide)
theorem r_MRm_look_11 {x : Nat} : Rr X d MRm_look 11 [.ref x] st h = Rr X d MRm_look 12 [.ref x] (.ref x :: st) h := Rr_nx d_MRm_look_11 rfl
theorem ff_10_7 : fF 10 7 = some (10, 1, 1, 1) := rfl
theorem r_MRm_look_12 {a : Nat} (hq : (qR a 10 1).isSome = true) : Rr X d MRm_look 12 L (.ref a :: st) (Wd mu la ro et) = Rr X d MRm_look 15 L (.ref (qRd a 10 1) :: st) (Wd mu la ro et) := R_gfR d_MRm_look_12 ff_10_7 hq
theorem r_MRm_look_15 {x : Nat} : Rr X d MRm_look 15 [.ref x] st h = Rr X d MRm_look 16 [.ref x] (.ref x :: st) h := Rr_nx d_MRm_look_15 rfl
theorem r_MRm_look_16 {a : Nat} (hq : qI a 10 18 = true) : Rr X d MRm_look 16 L (.ref a :: st) (Wd mu la ro et) = Rr X d MRm_look 19 L (.int (mu a 18) :: st) (Wd mu la ro et) := R_gfI d_MRm_look_16 ff_10_120 hq
theorem r_MRm_look_19 {a : Nat} {j : Int32} (hq : (qA a 2).isSome = true) : Rr X d MRm_look 19 L (.int j :: .ref a :: st) (Wd mu la ro et) = if j < 0 ∨ qAd a 2 ≤ j.toNatClampNeg then none else Rr X d MRm_look 20 L (.int (mu a j.toNatClampNeg) :: st) (Wd mu la ro et) := R_balW d_MRm_look_19 hq
theorem r_MRm_look_20 : Rr X d MRm_look 20 L st h = Rr X d MRm_look 24 L st h := R_goto d_MRm_look_20 (by decide)
theorem r_MRm_look_23 : Rr X d MRm_look 23 L st h = Rr X d MRm_look 24 L (.int (-1) :: st) h := Rr_nx d_MRm_look_23 rfl
theorem r_MRm_look_24 {x : Int32} : Rr X d MRm_look 24 L [.int x] h = some (some (.int x), h) := R_ir d_MRm_look_24 rfl
theorem d_MRm_wrong_0 : decode MRm_wrong.2.2.1 0 = .ok (.aload_n 0, 1) := lkT_ok tk_MRm_wrong rfl
theorem d_MRm_wrong_1 : decode MRm_wrong.2.2.1 1 = .ok (.getfield 117, 3) := lkT_ok tk_MRm_wrong rfl
theorem d_MRm_wrong_4 : decode MRm_wrong.2.2.1 4 = .ok (.ifCond .ge 11, 3) := lkT_ok tk_MRm_wrong rfl
theorem d_MRm_wrong_7 : decode MRm_wrong.2.2.1 7 = .ok (.aload_n 0, 1) := lkT_ok tk_MRm_wrong rfl
theorem d_MRm_wrong_8 : decode MRm_wrong.2.2.1 8 = .ok (.aload_n 0, 1) := lkT_ok tk_MRm_wrong rfl
theorem d_MRm_wrong_9 : decode MRm_wrong.2.2.1 9 = .ok (.getfield 120, 3) := lkT_ok tk_MRm_wrong rfl
theorem d_MRm_wrong_12 : decode MRm_wrong.2.2.1 12 = .ok (.putfield 117, 3) := lkT_ok tk_MRm_wrong rfl
theorem d_MRm_wrong_15 : decode MRm_wrong.2.2.1 15 = .ok (.return_, 1) := lkT_ok tk_MRm_wrong rfl
theorem r_MRm_wrong_0 {x : Nat} : Rr X d MRm_wrong 0 [.ref x] st h = Rr X d MRm_wrong 1 [.ref x] (.ref x :: st) h := Rr_nx d_MRm_wrong_0 rfl
theorem ff_10_117 : fF 10 117 = some (10, 19, 0, 0) := rfl
theorem r_MRm_wrong_1 {a : Nat} (hq : qI a 10 19 = true) : Rr X d MRm_wrong 1 L (.ref a :: st) (Wd mu la ro et) = Rr X d MRm_wrong 4 L (.int (mu a 19) :: st) (Wd mu la ro et) := R_gfI d_MRm_wrong_1 ff_10_117 hq
theorem r_MRm_wrong_4 {x : Int32} : Rr X d MRm_wrong 4 L (.int x :: st) h = if 0 ≤ x then Rr X d MRm_wrong 15 L st h else Rr X d MRm_wrong 7 L st h := R_if_ge d_MRm_wrong_4 (by decide)
theorem r_MRm_wrong_7 {x : Nat} : Rr X d MRm_wrong 7 [.ref x] st h = Rr X d MRm_wrong 8 [.ref x] (.ref x :: st) h := Rr_nx d_MRm_wrong_7 rfl
theorem r_MRm_wrong_8 {x : Nat} : Rr X d MRm_wrong 8 [.ref x] st h = Rr X d MRm_wrong 9 [.ref x] (.ref x :: st) h := Rr_nx d_MRm_wrong_8 rfl
theorem r_MRm_wrong_9 {a : Nat} (hq : qI a 10 18 = true) : Rr X d MRm_wrong 9 L (.ref a :: st) (Wd mu la ro et) = Rr X d MRm_wrong 12 L (.int (mu a 18) :: st) (Wd mu la ro et) := R_gfI d_MRm_wrong_9 ff_10_120 hq
theorem r_MRm_wrong_12 {a : Nat} {x : Int32} (hq : qI a 10 19 = true) : Rr X d MRm_wrong 12 L (.int x :: .ref a :: st) (Wd mu la ro et) = Rr X d MRm_wrong 15 L st (Wd (up2 mu a 19 x) la ro et) := R_pfI d_MRm_wrong_12 ff_10_117 hq
theorem r_MRm_wrong_15 : Rr X d MRm_wrong 15 L [] h = some (none, h) := Rr_rt d_MRm_wrong_15 rfl
theorem d_MRm_addStep_0 : decode MRm_addStep.2.2.1 0 = .ok (.aload_n 0, 1) := lkT_ok tk_MRm_addStep rfl
theorem d_MRm_addStep_1 : decode MRm_addStep.2.2.1 1 = .ok (.getfield 41, 3) := lkT_ok tk_MRm_addStep rfl
theorem d_MRm_addStep_4 : decode MRm_addStep.2.2.1 4 = .ok (.sipush 520, 3) := lkT_ok tk_MRm_addStep rfl
theorem d_MRm_addStep_7 : decode MRm_addStep.2.2.1 7 = .ok (.aload_n 0, 1) := lkT_ok tk_MRm_addStep rfl
theorem d_MRm_addStep_8 : decode MRm_addStep.2.2.1 8 = .ok (.getfield 197, 3) := lkT_ok tk_MRm_addStep rfl
theorem d_MRm_addStep_11 : decode MRm_addStep.2.2.1 11 = .ok (.iadd, 1) := lkT_ok tk_MRm_addStep rfl
theorem d_MRm_addStep_12 : decode MRm_addStep.2.2.1 12 = .ok (.iload_n 1, 1) := lkT_ok tk_MRm_addStep rfl
theorem d_MRm_addStep_13 : decode MRm_addStep.2.2.1 13 = .ok (.i2b, 1) := lkT_ok tk_MRm_addStep rfl
theorem d_MRm_addStep_14 : decode MRm_addStep.2.2.1 14 = .ok (.bastore, 1) := lkT_ok tk_MRm_addStep rfl
theorem d_MRm_addStep_15 : decode MRm_addStep.2.2.1 15 = .ok (.aload_n 0, 1) := lkT_ok tk_MRm_addStep rfl
theorem d_MRm_addStep_16 : decode MRm_addStep.2.2.1 16 = .ok (.getfield 44, 3) := lkT_ok tk_MRm_addStep rfl
theorem d_MRm_addStep_19 : decode MRm_addStep.2.2.1 19 = .ok (.sipush 520, 3) := lkT_ok tk_MRm_addStep rfl
theorem d_MRm_addStep_22 : decode MRm_addStep.2.2.1 22 = .ok (.aload_n 0, 1) := lkT_ok tk_MRm_addStep rfl
theorem d_MRm_addStep_23 : decode MRm_addStep.2.2.1 23 = .ok (.getfield 197, 3) := lkT_ok tk_MRm_addStep rfl
theorem d_MRm_addStep_26 : decode MRm_addStep.2.2.1 26 = .ok (.iadd, 1) := lkT_ok tk_MRm_addStep rfl
theorem d_MRm_addStep_27 : decode MRm_addStep.2.2.1 27 = .ok (.iload_n 2, 1) := lkT_ok tk_MRm_addStep rfl
theorem d_MRm_addStep_28 : decode MRm_addStep.2.2.1 28 = .ok (.iastore, 1) := lkT_ok tk_MRm_addStep rfl
theorem d_MRm_addStep_29 : decode MRm_addStep.2.2.1 29 = .ok (.aload_n 0, 1) := lkT_ok tk_MRm_addStep rfl
theorem d_MRm_addStep_30 : decode MRm_addStep.2.2.1 30 = .ok (.dup, 1) := lkT_ok tk_MRm_addStep rfl
theorem d_MRm_addStep_31 : decode MRm_addStep.2.2.1 31 = .ok (.getfield 197, 3) := lkT_ok tk_MRm_addStep rfl
theorem d_MRm_addStep_34 : decode MRm_addStep.2.2.1 34 = .ok (.iconst 1, 1) := lkT_ok tk_MRm_addStep rfl
theorem d_MRm_addStep_35 : decode MRm_addStep.2.2.1 35 = .ok (.iadd, 1) := lkT_ok tk_MRm_addStep rfl
theorem d_MRm_addStep_36 : decode MRm_addStep.2.2.1 36 = .ok (.putfield 197, 3) := lkT_ok tk_MRm_addStep rfl
theorem d_MRm_addStep_39 : decode MRm_addStep.2.2.1 39 = .ok (.return_, 1) := lkT_ok tk_MRm_addStep rfl
theorem r_MRm_addStep_0 {l1 l2 : Value} {x : Nat} : Rr X d MRm_addStep 0 [.ref x, l1, l2] st h = Rr X d MRm_addStep 1 [.ref x, l1, l2] (.ref x :: st) h := Rr_nx d_MRm_addStep_0 rfl
theorem ff_10_41 : fF 10 41 = some (10, 22, 1, 1) := rfl
theorem r_MRm_addStep_1 {a : Nat} (hq : (qR a 10 22).isSome = true) : Rr X d MRm_addStep 1 L (.ref a :: st) (Wd mu la ro et) = Rr X d MRm_addStep 4 L (.ref (qRd a 10 22) :: st) (Wd mu la ro et) := R_gfR d_MRm_addStep_1 ff_10_41 hq
theorem r_MRm_addStep_4 : Rr X d MRm_addStep 4 L st h = Rr X d MRm_addStep 7 L (.int (520) :: st) h := Rr_nx d_MRm_addStep_4 rfl
theorem r_MRm_addStep_7 {l1 l2 : Value} {x : Nat} : Rr X d MRm_addStep 7 [.ref x, l1, l2] st h = Rr X d MRm_addStep 8 [.ref x, l1, l2] (.ref x :: st) h := Rr_nx d_MRm_addStep_7 rfl
theorem ff_10_197 : fF 10 197 = some (10, 21, 0, 0) := rfl
theorem r_MRm_addStep_8 {a : Nat} (hq : qI a 10 21 = true) : Rr X d MRm_addStep 8 L (.ref a :: st) (Wd mu la ro et) = Rr X d MRm_addStep 11 L (.int (mu a 21) :: st) (Wd mu la ro et) := R_gfI d_MRm_addStep_8 ff_10_197 hq
theorem r_MRm_addStep_11 {x y : Int32} : Rr X d MRm_addStep 11 L (.int y :: .int x :: st) h = Rr X d MRm_addStep 12 L (.int (x + y) :: st) h := Rr_nx d_MRm_addStep_11 rfl
theorem r_MRm_addStep_12 {l0 l2 : Value} {x : Int32} : Rr X d MRm_addStep 12 [l0, .int x, l2] st h = Rr X d MRm_addStep 13 [l0, .int x, l2] (.int x :: st) h := Rr_nx d_MRm_addStep_12 rfl
theorem r_MRm_addStep_13 {x : Int32} : Rr X d MRm_addStep 13 L (.int x :: st) h = Rr X d MRm_addStep 14 L (.int (x.toInt8.toInt32) :: st) h := Rr_nx d_MRm_addStep_13 rfl
theorem r_MRm_addStep_14 {a : Nat} {j x : Int32} (hq : (qA a 2).isSome = true) : Rr X d MRm_addStep 14 L (.int x :: .int j :: .ref a :: st) (Wd mu la ro et) = if j < 0 ∨ qAd a 2 ≤ j.toNatClampNeg then none else Rr X d MRm_addStep 15 L st (Wd (up2 mu a j.toNatClampNeg (x.toInt8.toInt32)) la ro et) := R_basW d_MRm_addStep_14 hq
theorem r_MRm_addStep_15 {l1 l2 : Value} {x : Nat} : Rr X d MRm_addStep 15 [.ref x, l1, l2] st h = Rr X d MRm_addStep 16 [.ref x, l1, l2] (.ref x :: st) h := Rr_nx d_MRm_addStep_15 rfl
theorem ff_10_44 : fF 10 44 = some (10, 23, 1, 1) := rfl
theorem r_MRm_addStep_16 {a : Nat} (hq : (qR a 10 23).isSome = true) : Rr X d MRm_addStep 16 L (.ref a :: st) (Wd mu la ro et) = Rr X d MRm_addStep 19 L (.ref (qRd a 10 23) :: st) (Wd mu la ro et) := R_gfR d_MRm_addStep_16 ff_10_44 hq
theorem r_MRm_addStep_19 : Rr X d MRm_addStep 19 L st h = Rr X d MRm_addStep 22 L (.int (520) :: st) h := Rr_nx d_MRm_addStep_19 rfl
theorem r_MRm_addStep_22 {l1 l2 : Value} {x : Nat} : Rr X d MRm_addStep 22 [.ref x, l1, l2] st h = Rr X d MRm_addStep 23 [.ref x, l1, l2] (.ref x :: st) h := Rr_nx d_MRm_addStep_22 rfl
theorem r_MRm_addStep_23 {a : Nat} (hq : qI a 10 21 = true) : Rr X d MRm_addStep 23 L (.ref a :: st) (Wd mu la ro et) = Rr X d MRm_addStep 26 L (.int (mu a 21) :: st) (Wd mu la ro et) := R_gfI d_MRm_addStep_23 ff_10_197 hq
theorem r_MRm_addStep_26 {x y : Int32} : Rr X d MRm_addStep 26 L (.int y :: .int x :: st) h = Rr X d MRm_addStep 27 L (.int (x + y) :: st) h := Rr_nx d_MRm_addStep_26 rfl
theorem r_MRm_addStep_27 {l0 l1 : Value} {x : Int32} : Rr X d MRm_addStep 27 [l0, l1, .int x] st h = Rr X d MRm_addStep 28 [l0, l1, .int x] (.int x :: st) h := Rr_nx d_MRm_addStep_27 rfl
theorem r_MRm_addStep_28 {a : Nat} {j x : Int32} (hq : (qA a 0).isSome = true) : Rr X d MRm_addStep 28 L (.int x :: .int j :: .ref a :: st) (Wd mu la ro et) = if j < 0 ∨ qAd a 0 ≤ j.toNatClampNeg then none else Rr X d MRm_addStep 29 L st (Wd (up2 mu a j.toNatClampNeg (x)) la ro et) := R_iasW d_MRm_addStep_28 hq
theorem r_MRm_addStep_29 {l1 l2 : Value} {x : Nat} : Rr X d MRm_addStep 29 [.ref x, l1, l2] st h = Rr X d MRm_addStep 30 [.ref x, l1, l2] (.ref x :: st) h := Rr_nx d_MRm_addStep_29 rfl
theorem r_MRm_addStep_30 {x : Nat} : Rr X d MRm_addStep 30 L (.ref x :: st) h = Rr X d MRm_addStep 31 L (.ref x :: .ref x :: st) h := Rr_nx d_MRm_addStep_30 rfl
theorem r_MRm_addStep_30i {x : Int32} : Rr X d MRm_addStep 30 L (.int x :: st) h = Rr X d MRm_addStep 31 L (.int x :: .int x :: st) h := Rr_nx d_MRm_addStep_30 rfl
theorem r_MRm_addStep_31 {a : Nat} (hq : qI a 10 21 = true) : Rr X d MRm_addStep 31 L (.ref a :: st) (Wd mu la ro et) = Rr X d MRm_addStep 34 L (.int (mu a 21) :: st) (Wd mu la ro et) := R_gfI d_MRm_addStep_31 ff_10_197 hq
theorem r_MRm_addStep_34 : Rr X d MRm_addStep 34 L st h = Rr X d MRm_addStep 35 L (.int (1) :: st) h := Rr_nx d_MRm_addStep_34 rfl
theorem r_MRm_addStep_35 {x y : Int32} : Rr X d MRm_addStep 35 L (.int y :: .int x :: st) h = Rr X d MRm_addStep 36 L (.int (x + y) :: st) h := Rr_nx d_MRm_addStep_35 rfl
theorem r_MRm_addStep_36 {a : Nat} {x : Int32} (hq : qI a 10 21 = true) : Rr X d MRm_addStep 36 L (.int x :: .ref a :: st) (Wd mu la ro et) = Rr X d MRm_addStep 39 L st (Wd (up2 mu a 21 x) la ro et) := R_pfI d_MRm_addStep_36 ff_10_197 hq
theorem r_MRm_addStep_39 : Rr X d MRm_addStep 39 L [] h = some (none, h) := Rr_rt d_MRm_addStep_39 rfl
theorem d_MRm_nameOf_0 : decode MRm_nameOf.2.2.1 0 = .ok (.iload_n 0, 1) := lkT_ok tk_MRm_nameOf rfl
theorem d_MRm_nameOf_1 : decode MRm_nameOf.2.2.1 1 = .ok (.tableswitch 87 105 119 #[85, 87, 87, 87, 87, 87, 87, 81, 83, 87, 79, 87, 87, 77, 75], 75) := lkT_ok tk_MRm_nameOf rfl
theorem d_MRm_nameOf_76 : decode MRm_nameOf.2.2.1 76 = .ok (.iconst 0, 1) := lkT_ok tk_MRm_nameOf rfl
theorem d_MRm_nameOf_77 : decode MRm_nameOf.2.2.1 77 = .ok (.ireturn, 1) := lkT_ok tk_MRm_nameOf rfl
theorem d_MRm_nameOf_78 : decode MRm_nameOf.2.2.1 78 = .ok (.iconst 1, 1) := lkT_ok tk_MRm_nameOf rfl
theorem d_MRm_nameOf_79 : decode MRm_nameOf.2.2.1 79 = .ok (.ireturn, 1) := lkT_ok tk_MRm_nameOf rfl
theorem d_MRm_nameOf_80 : decode MRm_nameOf.2.2.1 80 = .ok (.iconst 2, 1) := lkT_ok tk_MRm_nameOf rfl
theorem d_MRm_nameOf_81 : decode MRm_nameOf.2.2.1 81 = .ok (.ireturn, 1) := lkT_ok tk_MRm_nameOf rfl
theorem d_MRm_nameOf_82 : decode MRm_nameOf.2.2.1 82 = .ok (.iconst 3, 1) := lkT_ok tk_MRm_nameOf rfl
theorem d_MRm_nameOf_83 : decode MRm_nameOf.2.2.1 83 = .ok (.ireturn, 1) := lkT_ok tk_MRm_nameOf rfl
theorem d_MRm_nameOf_84 : decode MRm_nameOf.2.2.1 84 = .ok (.iconst 4, 1) := lkT_ok tk_MRm_nameOf rfl
theorem d_MRm_nameOf_85 : decode MRm_nameOf.2.2.1 85 = .ok (.ireturn, 1) := lkT_ok tk_MRm_nameOf rfl
theorem d_MRm_nameOf_86 : decode MRm_nameOf.2.2.1 86 = .ok (.iconst 5, 1) := lkT_ok tk_MRm_nameOf rfl
theorem d_MRm_nameOf_87 : decode MRm_nameOf.2.2.1 87 = .ok (.ireturn, 1) := lkT_ok tk_MRm_nameOf rfl
theorem d_MRm_nameOf_88 : decode MRm_nameOf.2.2.1 88 = .ok (.iconst (-1), 1) := lkT_ok tk_MRm_nameOf rfl
theorem d_MRm_nameOf_89 : decode MRm_nameOf.2.2.1 89 = .ok (.ireturn, 1) := lkT_ok tk_MRm_nameOf rfl
theorem r_MRm_nameOf_0 {x : Int32} : Rr X d MRm_nameOf 0 [.int x] st h = Rr X d MRm_nameOf 1 [.int x] (.int x :: st) h := Rr_nx d_MRm_nameOf_0 rfl
theorem r_MRm_nameOf_1_105 : Rr X d MRm_nameOf 1 L (.int (105) :: st) h = Rr X d MRm_nameOf 86 L st h := R_tab (off := 85) d_MRm_nameOf_1 (by decide) (by decide) (by decide)
theorem r_MRm_nameOf_1_106 : Rr X d MRm_nameOf 1 L (.int (106) :: st) h = Rr X d MRm_nameOf 88 L st h := R_tab (off := 87) d_MRm_nameOf_1 (by decide) (by decide) (by decide)
theorem r_MRm_nameOf_1_107 : Rr X d MRm_nameOf 1 L (.int (107) :: st) h = Rr X d MRm_nameOf 88 L st h := R_tab (off := 87) d_MRm_nameOf_1 (by decide) (by decide) (by decide)
theorem r_MRm_nameOf_1_108 : Rr X d MRm_nameOf 1 L (.int (108) :: st) h = Rr X d MRm_nameOf 88 L st h := R_tab (off := 87) d_MRm_nameOf_1 (by decide) (by decide) (by decide)
theorem r_MRm_nameOf_1_109 : Rr X d MRm_nameOf 1 L (.int (109) :: st) h = Rr X d MRm_nameOf 88 L st h := R_tab (off := 87) d_MRm_nameOf_1 (by decide) (by decide) (by decide)
theorem r_MRm_nameOf_1_110 : Rr X d MRm_nameOf 1 L (.int (110) :: st) h = Rr X d MRm_nameOf 88 L st h := R_tab (off := 87) d_MRm_nameOf_1 (by decide) (by decide) (by decide)
theorem r_MRm_nameOf_1_111 : Rr X d MRm_nameOf 1 L (.int (111) :: st) h = Rr X d MRm_nameOf 88 L st h := R_tab (off := 87) d_MRm_nameOf_1 (by decide) (by decide) (by decide)
theorem r_MRm_nameOf_1_112 : Rr X d MRm_nameOf 1 L (.int (112) :: st) h = Rr X d MRm_nameOf 82 L st h := R_tab (off := 81) d_MRm_nameOf_1 (by decide) (by decide) (by decide)
theorem r_MRm_nameOf_1_113 : Rr X d MRm_nameOf 1 L (.int (113) :: st) h = Rr X d MRm_nameOf 84 L st h := R_tab (off := 83) d_MRm_nameOf_1 (by decide) (by decide) (by decide)
theorem r_MRm_nameOf_1_114 : Rr X d MRm_nameOf 1 L (.int (114) :: st) h = Rr X d MRm_nameOf 88 L st h := R_tab (off := 87) d_MRm_nameOf_1 (by decide) (by decide) (by decide)
theorem r_MRm_nameOf_1_115 : Rr X d MRm_nameOf 1 L (.int (115) :: st) h = Rr X d MRm_nameOf 80 L st h := R_tab (off := 79) d_MRm_nameOf_1 (by decide) (by decide) (by decide)
theorem r_MRm_nameOf_1_116 : Rr X d MRm_nameOf 1 L (.int (116) :: st) h = Rr X d MRm_nameOf 88 L st h := R_tab (off := 87) d_MRm_nameOf_1 (by decide) (by decide) (by decide)
theorem r_MRm_nameOf_1_117 : Rr X d MRm_nameOf 1 L (.int (117) :: st) h = Rr X d MRm_nameOf 88 L st h := R_tab (off := 87) d_MRm_nameOf_1 (by decide) (by decide) (by decide)
theorem r_MRm_nameOf_1_118 : Rr X d MRm_nameOf 1 L (.int (118) :: st) h = Rr X d MRm_nameOf 78 L st h := R_tab (off := 77) d_MRm_nameOf_1 (by decide) (by decide) (by decide)
theorem r_MRm_nameOf_1_119 : Rr X d MRm_nameOf 1 L (.int (119) :: st) h = Rr X d MRm_nameOf 76 L st h := R_tab (off := 75) d_MRm_nameOf_1 (by decide) (by decide) (by decide)
theorem r_MRm_nameOf_1D {x : Int32} (hx : x.toInt < 105 ∨ 119 < x.toInt) : Rr X d MRm_nameOf 1 L (.int x :: st) h = Rr X d MRm_nameOf 88 L st h := R_tabD d_MRm_nameOf_1 hx (by decide)
theorem r_MRm_nameOf_76 : Rr X d MRm_nameOf 76 L st h = Rr X d MRm_nameOf 77 L (.int (0) :: st) h := Rr_nx d_MRm_nameOf_76 rfl
theorem r_MRm_nameOf_77 {x : Int32} : Rr X d MRm_nameOf 77 L [.int x] h = some (some (.int x), h) := R_ir d_MRm_nameOf_77 rfl
theorem r_MRm_nameOf_78 : Rr X d MRm_nameOf 78 L st h = Rr X d MRm_nameOf 79 L (.int (1) :: st) h := Rr_nx d_MRm_nameOf_78 rfl
theorem r_MRm_nameOf_79 {x : Int32} : Rr X d MRm_nameOf 79 L [.int x] h = some (some (.int x), h) := R_ir d_MRm_nameOf_79 rfl
theorem r_MRm_nameOf_80 : Rr X d MRm_nameOf 80 L st h = Rr X d MRm_nameOf 81 L (.int (2) :: st) h := Rr_nx d_MRm_nameOf_80 rfl
theorem r_MRm_nameOf_81 {x : Int32} : Rr X d MRm_nameOf 81 L [.int x] h = some (some (.int x), h) := R_ir d_MRm_nameOf_81 rfl
theorem r_MRm_nameOf_82 : Rr X d MRm_nameOf 82 L st h = Rr X d MRm_nameOf 83 L (.int (3) :: st) h := Rr_nx d_MRm_nameOf_82 rfl
theorem r_MRm_nameOf_83 {x : Int32} : Rr X d MRm_nameOf 83 L [.int x] h = some (some (.int x), h) := R_ir d_MRm_nameOf_83 rfl
theorem r_MRm_nameOf_84 : Rr X d MRm_nameOf 84 L st h = Rr X d MRm_nameOf 85 L (.int (4) :: st) h := Rr_nx d_MRm_nameOf_84 rfl
theorem r_MRm_nameOf_85 {x : Int32} : Rr X d MRm_nameOf 85 L [.int x] h = some (some (.int x), h) := R_ir d_MRm_nameOf_85 rfl
theorem r_MRm_nameOf_86 : Rr X d MRm_nameOf 86 L st h = Rr X d MRm_nameOf 87 L (.int (5) :: st) h := Rr_nx d_MRm_nameOf_86 rfl
theorem r_MRm_nameOf_87 {x : Int32} : Rr X d MRm_nameOf 87 L [.int x] h = some (some (.int x), h) := R_ir d_MRm_nameOf_87 rfl
theorem r_MRm_nameOf_88 : Rr X d MRm_nameOf 88 L st h = Rr X d MRm_nameOf 89 L (.int (-1) :: st) h := Rr_nx d_MRm_nameOf_88 rfl
theorem r_MRm_nameOf_89 {x : Int32} : Rr X d MRm_nameOf 89 L [.int x] h = some (some (.int x), h) := R_ir d_MRm_nameOf_89 rfl
theorem d_MRm_opens_0 : decode MRm_opens.2.2.1 0 = .ok (.aload_n 0, 1) := lkT_ok tk_MRm_opens rfl
theorem d_MRm_opens_1 : decode MRm_opens.2.2.1 1 = .ok (.getfield 200, 3) := lkT_ok tk_MRm_opens rfl
theorem d_MRm_opens_4 : decode MRm_opens.2.2.1 4 = .ok (.bipush 6, 2) := lkT_ok tk_MRm_opens rfl
theorem d_MRm_opens_6 : decode MRm_opens.2.2.1 6 = .ok (.if_icmp .ne 9, 3) := lkT_ok tk_MRm_opens rfl
theorem d_MRm_opens_9 : decode MRm_opens.2.2.1 9 = .ok (.aload_n 0, 1) := lkT_ok tk_MRm_opens rfl
theorem d_MRm_opens_10 : decode MRm_opens.2.2.1 10 = .ok (.invokevirtual 203, 3) := lkT_ok tk_MRm_opens rfl
theorem d_MRm_opens_13 : decode MRm_opens.2.2.1 13 = .ok (.iconst 0, 1) := lkT_ok tk_MRm_opens rfl
theorem d_MRm_opens_14 : decode MRm_opens.2.2.1 14 = .ok (.ireturn, 1) := lkT_ok tk_MRm_opens rfl
theorem d_MRm_opens_15 : decode MRm_opens.2.2.1 15 = .ok (.aload_n 0, 1) := lkT_ok tk_MRm_opens rfl
theorem d_MRm_opens_16 : decode MRm_opens.2.2.1 16 = .ok (.dup, 1) := lkT_ok tk_MRm_opens rfl
theorem d_MRm_opens_17 : decode MRm_opens.2.2.1 17 = .ok (.getfield 200, 3) := lkT_ok tk_MRm_opens rfl
theorem d_MRm_opens_20 : decode MRm_opens.2.2.1 20 = .ok (.iconst 1, 1) := lkT_ok tk_MRm_opens rfl
theorem d_MRm_opens_21 : decode MRm_opens.2.2.1 21 = .ok (.iadd, 1) := lkT_ok tk_MRm_opens rfl
theorem d_MRm_opens_22 : decode MRm_opens.2.2.1 22 = .ok (.putfield 200, 3) := lkT_ok tk_MRm_opens rfl
theorem d_MRm_opens_25 : decode MRm_opens.2.2.1 25 = .ok (.aload_n 0, 1) := lkT_ok tk_MRm_opens rfl
theorem d_MRm_opens_26 : decode MRm_opens.2.2.1 26 = .ok (.dup, 1) := lkT_ok tk_MRm_opens rfl
theorem d_MRm_opens_27 : decode MRm_opens.2.2.1 27 = .ok (.getfield 120, 3) := lkT_ok tk_MRm_opens rfl
theorem d_MRm_opens_30 : decode MRm_opens.2.2.1 30 = .ok (.iconst 1, 1) := lkT_ok tk_MRm_opens rfl
theorem d_MRm_opens_31 : decode MRm_opens.2.2.1 31 = .ok (.iadd, 1) := lkT_ok tk_MRm_opens rfl
theorem d_MRm_opens_32 : decode MRm_opens.2.2.1 32 = .ok (.putfield 120, 3) := lkT_ok tk_MRm_opens rfl
theorem d_MRm_opens_35 : decode MRm_opens.2.2.1 35 = .ok (.iconst 1, 1) := lkT_ok tk_MRm_opens rfl
theorem d_MRm_opens_36 : decode MRm_opens.2.2.1 36 = .ok (.ireturn, 1) := lkT_ok tk_MRm_opens rfl
theorem r_MRm_opens_0 {x : Nat} : Rr X d MRm_opens 0 [.ref x] st h = Rr X d MRm_opens 1 [.ref x] (.ref x :: st) h := Rr_nx d_MRm_opens_0 rfl
theorem ff_10_200 : fF 10 200 = some (10, 20, 0, 0) := rfl
theorem r_MRm_opens_1 {a : Nat} (hq : qI a 10 20 = true) : Rr X d MRm_opens 1 L (.ref a :: st) (Wd mu la ro et) = Rr X d MRm_opens 4 L (.int (mu a 20) :: st) (Wd mu la ro et) := R_gfI d_MRm_opens_1 ff_10_200 hq
theorem r_MRm_opens_4 : Rr X d MRm_opens 4 L st h = Rr X d MRm_opens 6 L (.int (6) :: st) h := Rr_nx d_MRm_opens_4 rfl
theorem r_MRm_opens_6 {x y : Int32} : Rr X d MRm_opens 6 L (.int y :: .int x :: st) h = if ¬ x = y then Rr X d MRm_opens 15 L st h else Rr X d MRm_opens 9 L st h := R_ic_ne d_MRm_opens_6 (by decide)
theorem r_MRm_opens_9 {x : Nat} : Rr X d MRm_opens 9 [.ref x] st h = Rr X d MRm_opens 10 [.ref x] (.ref x :: st) h := Rr_nx d_MRm_opens_9 rfl
theorem fc_10_203 : fC 10 203 = some (0, 10, 0, MRm_wrong) := rfl
theorem r_MRm_opens_10 {a : Nat} (hO : qO a 10 = true) (hc : ckS st = true) : Rr X (d + 1) MRm_opens 10 L (.ref a :: st) (Wd mu la ro et) = (Rr X d MRm_wrong 0 [.ref a] [] (Wd mu la ro et)).bind fun q => Rr X (d + 1) MRm_opens 13 L (psh q.1 st) q.2 := R_iv (av := []) d_MRm_opens_10 fc_10_203 hO (ckS_le hc) rfl (Nat.le_of_ble_eq_true rfl) (Nat.le_of_ble_eq_true rfl)
theorem r_MRm_opens_13 : Rr X d MRm_opens 13 L st h = Rr X d MRm_opens 14 L (.int (0) :: st) h := Rr_nx d_MRm_opens_13 rfl
theorem r_MRm_opens_14 {x : Int32} : Rr X d MRm_opens 14 L [.int x] h = if x = 0 ∨ x = 1 then some (some (.int x), h) else none := R_zr d_MRm_opens_14 rfl
theorem r_MRm_opens_15 {x : Nat} : Rr X d MRm_opens 15 [.ref x] st h = Rr X d MRm_opens 16 [.ref x] (.ref x :: st) h := Rr_nx d_MRm_opens_15 rfl
theorem r_MRm_opens_16 {x : Nat} : Rr X d MRm_opens 16 L (.ref x :: st) h = Rr X d MRm_opens 17 L (.ref x :: .ref x :: st) h := Rr_nx d_MRm_opens_16 rfl
theorem r_MRm_opens_16i {x : Int32} : Rr X d MRm_opens 16 L (.int x :: st) h = Rr X d MRm_opens 17 L (.int x :: .int x :: st) h := Rr_nx d_MRm_opens_16 rfl
theorem r_MRm_opens_17 {a : Nat} (hq : qI a 10 20 = true) : Rr X d MRm_opens 17 L (.ref a :: st) (Wd mu la ro et) = Rr X d MRm_opens 20 L (.int (mu a 20) :: st) (Wd mu la ro et) := R_gfI d_MRm_opens_17 ff_10_200 hq
theorem r_MRm_opens_20 : Rr X d MRm_opens 20 L st h = Rr X d MRm_opens 21 L (.int (1) :: st) h := Rr_nx d_MRm_opens_20 rfl
theorem r_MRm_opens_21 {x y : Int32} : Rr X d MRm_opens 21 L (.int y :: .int x :: st) h = Rr X d MRm_opens 22 L (.int (x + y) :: st) h := Rr_nx d_MRm_opens_21 rfl
theorem r_MRm_opens_22 {a : Nat} {x : Int32} (hq : qI a 10 20 = true) : Rr X d MRm_opens 22 L (.int x :: .ref a :: st) (Wd mu la ro et) = Rr X d MRm_opens 25 L st (Wd (up2 mu a 20 x) la ro et) := R_pfI d_MRm_opens_22 ff_10_200 hq
theorem r_MRm_opens_25 {x : Nat} : Rr X d MRm_opens 25 [.ref x] st h = Rr X d MRm_opens 26 [.ref x] (.ref x :: st) h := Rr_nx d_MRm_opens_25 rfl
theorem r_MRm_opens_26 {x : Nat} : Rr X d MRm_opens 26 L (.ref x :: st) h = Rr X d MRm_opens 27 L (.ref x :: .ref x :: st) h := Rr_nx d_MRm_opens_26 rfl
theorem r_MRm_opens_26i {x : Int32} : Rr X d MRm_opens 26 L (.int x :: st) h = Rr X d MRm_opens 27 L (.int x :: .int x :: st) h := Rr_nx d_MRm_opens_26 rfl
theorem r_MRm_opens_27 {a : Nat} (hq : qI a 10 18 = true) : Rr X d MRm_opens 27 L (.ref a :: st) (Wd mu la ro et) = Rr X d MRm_opens 30 L (.int (mu a 18) :: st) (Wd mu la ro et) := R_gfI d_MRm_opens_27 ff_10_120 hq
theorem r_MRm_opens_30 : Rr X d MRm_opens 30 L st h = Rr X d MRm_opens 31 L (.int (1) :: st) h := Rr_nx d_MRm_opens_30 rfl
theorem r_MRm_opens_31 {x y : Int32} : Rr X d MRm_opens 31 L (.int y :: .int x :: st) h = Rr X d MRm_opens 32 L (.int (x + y) :: st) h := Rr_nx d_MRm_opens_31 rfl
theorem r_MRm_opens_32 {a : Nat} {x : Int32} (hq : qI a 10 18 = true) : Rr X d MRm_opens 32 L (.int x :: .ref a :: st) (Wd mu la ro et) = Rr X d MRm_opens 35 L st (Wd (up2 mu a 18 x) la ro et) := R_pfI d_MRm_opens_32 ff_10_120 hq
theorem r_MRm_opens_35 : Rr X d MRm_opens 35 L st h = Rr X d MRm_opens 36 L (.int (1) :: st) h := Rr_nx d_MRm_opens_35 rfl
theorem r_MRm_opens_36 {x : Int32} : Rr X d MRm_opens 36 L [.int x] h = if x = 0 ∨ x = 1 then some (some (.int x), h) else none := R_zr d_MRm_opens_36 rfl
theorem d_MRm_figure_0 : decode MRm_figure.2.2.1 0 = .ok (.iconst 0, 1) := lkT_ok tk_MRm_figure rfl
theorem d_MRm_figure_1 : decode MRm_figure.2.2.1 1 = .ok (.istore_n 1, 1) := lkT_ok tk_MRm_figure rfl
theorem d_MRm_figure_2 : decode MRm_figure.2.2.1 2 = .ok (.iconst 0, 1) := lkT_ok tk_MRm_figure rfl
theorem d_MRm_figure_3 : decode MRm_figure.2.2.1 3 = .ok (.istore_n 2, 1) := lkT_ok tk_MRm_figure rfl
theorem d_MRm_figure_4 : decode MRm_figure.2.2.1 4 = .ok (.iload_n 2, 1) := lkT_ok tk_MRm_figure rfl
theorem d_MRm_figure_5 : decode MRm_figure.2.2.1 5 = .ok (.iconst 4, 1) := lkT_ok tk_MRm_figure rfl
theorem d_MRm_figure_6 : decode MRm_figure.2.2.1 6 = .ok (.if_icmp .ge 46, 3) := lkT_ok tk_MRm_figure rfl
theorem d_MRm_figure_9 : decode MRm_figure.2.2.1 9 = .ok (.aload_n 0, 1) := lkT_ok tk_MRm_figure rfl
theorem d_MRm_figure_10 : decode MRm_figure.2.2.1 10 = .ok (.invokevirtual 206, 3) := lkT_ok tk_MRm_figure rfl
theorem d_MRm_figure_13 : decode MRm_figure.2.2.1 13 = .ok (.bipush 48, 2) := lkT_ok tk_MRm_figure rfl
theorem d_MRm_figure_15 : decode MRm_figure.2.2.1 15 = .ok (.bipush 57, 2) := lkT_ok tk_MRm_figure rfl
theorem d_MRm_figure_17 : decode MRm_figure.2.2.1 17 = .ok (.invokestatic 107, 3) := lkT_ok tk_MRm_figure rfl
theorem d_MRm_figure_20 : decode MRm_figure.2.2.1 20 = .ok (.ifCond .eq 32, 3) := lkT_ok tk_MRm_figure rfl
theorem d_MRm_figure_23 : decode MRm_figure.2.2.1 23 = .ok (.bipush 10, 2) := lkT_ok tk_MRm_figure rfl
theorem d_MRm_figure_25 : decode MRm_figure.2.2.1 25 = .ok (.iload_n 1, 1) := lkT_ok tk_MRm_figure rfl
theorem d_MRm_figure_26 : decode MRm_figure.2.2.1 26 = .ok (.imul, 1) := lkT_ok tk_MRm_figure rfl
theorem d_MRm_figure_27 : decode MRm_figure.2.2.1 27 = .ok (.aload_n 0, 1) := lkT_ok tk_MRm_figure rfl
theorem d_MRm_figure_28 : decode MRm_figure.2.2.1 28 = .ok (.invokevirtual 206, 3) := lkT_ok tk_MRm_figure rfl
theorem d_MRm_figure_31 : decode MRm_figure.2.2.1 31 = .ok (.iadd, 1) := lkT_ok tk_MRm_figure rfl
theorem d_MRm_figure_32 : decode MRm_figure.2.2.1 32 = .ok (.bipush 48, 2) := lkT_ok tk_MRm_figure rfl
theorem d_MRm_figure_34 : decode MRm_figure.2.2.1 34 = .ok (.isub, 1) := lkT_ok tk_MRm_figure rfl
theorem d_MRm_figure_35 : decode MRm_figure.2.2.1 35 = .ok (.istore_n 1, 1) := lkT_ok tk_MRm_figure rfl
theorem d_MRm_figure_36 : decode MRm_figure.2.2.1 36 = .ok (.iinc 2 1, 3) := lkT_ok tk_MRm_figure rfl
theorem d_MRm_figure_39 : decode MRm_figure.2.2.1 39 = .ok (.aload_n 0, 1) := lkT_ok tk_MRm_figure rfl
theorem d_MRm_figure_40 : decode MRm_figure.2.2.1 40 = .ok (.dup, 1) := lkT_ok tk_MRm_figure rfl
theorem d_MRm_figure_41 : decode MRm_figure.2.2.1 41 = .ok (.getfield 120, 3) := lkT_ok tk_MRm_figure rfl
theorem d_MRm_figure_44 : decode MRm_figure.2.2.1 44 = .ok (.iconst 1, 1) := lkT_ok tk_MRm_figure rfl
theorem d_MRm_figure_45 : decode MRm_figure.2.2.1 45 = .ok (.iadd, 1) := lkT_ok tk_MRm_figure rfl
theorem d_MRm_figure_46 : decode MRm_figure.2.2.1 46 = .ok (.putfield 120, 3) := lkT_ok tk_MRm_figure rfl
theorem d_MRm_figure_49 : decode MRm_figure.2.2.1 49 = .ok (.goto (-45), 3) := lkT_ok tk_MRm_figure rfl
theorem d_MRm_figure_52 : decode MRm_figure.2.2.1 52 = .ok (.iload_n 2, 1) := lkT_ok tk_MRm_figure rfl
theorem d_MRm_figure_53 : decode MRm_figure.2.2.1 53 = .ok (.ifCond .eq 17, 3) := lkT_ok tk_MRm_figure rfl
theorem d_MRm_figure_56 : decode MRm_figure.2.2.1 56 = .ok (.aload_n 0, 1) := lkT_ok tk_MRm_figure rfl
theorem d_MRm_figure_57 : decode MRm_figure.2.2.1 57 = .ok (.invokevirtual 206, 3) := lkT_ok tk_MRm_figure rfl
theorem d_MRm_figure_60 : decode MRm_figure.2.2.1 60 = .ok (.bipush 48, 2) := lkT_ok tk_MRm_figure rfl
theorem d_MRm_figure_62 : decode MRm_figure.2.2.1 62 = .ok (.bipush 57, 2) := lkT_ok tk_MRm_figure rfl
theorem d_MRm_figure_64 : decode MRm_figure.2.2.1 64 = .ok (.invokestatic 107, 3) := lkT_ok tk_MRm_figure rfl
theorem d_MRm_figure_67 : decode MRm_figure.2.2.1 67 = .ok (.ifCond .eq 7, 3) := lkT_ok tk_MRm_figure rfl
theorem d_MRm_figure_70 : decode MRm_figure.2.2.1 70 = .ok (.aload_n 0, 1) := lkT_ok tk_MRm_figure rfl
theorem d_MRm_figure_71 : decode MRm_figure.2.2.1 71 = .ok (.invokevirtual 203, 3) := lkT_ok tk_MRm_figure rfl
theorem d_MRm_figure_74 : decode MRm_figure.2.2.1 74 = .ok (.aload_n 0, 1) := lkT_ok tk_MRm_figure rfl
theorem d_MRm_figure_75 : decode MRm_figure.2.2.1 75 = .ok (.iconst 1, 1) := lkT_ok tk_MRm_figure rfl
theorem d_MRm_figure_76 : decode MRm_figure.2.2.1 76 = .ok (.iload_n 1, 1) := lkT_ok tk_MRm_figure rfl
theorem d_MRm_figure_77 : decode MRm_figure.2.2.1 77 = .ok (.invokevirtual 209, 3) := lkT_ok tk_MRm_figure rfl
theorem d_MRm_figure_80 : decode MRm_figure.2.2.1 80 = .ok (.return_, 1) := lkT_ok tk_MRm_figure rfl
theorem r_MRm_figure_0 : Rr X d MRm_figure 0 L st h = Rr X d MRm_figure 1 L (.int (0) :: st) h := Rr_nx d_MRm_figure_0 rfl
theorem r_MRm_figure_1 {l0 l1 l2 : Value} {x : Int32} : Rr X d MRm_figure 1 [l0, l1, l2] (.int x :: st) h = Rr X d MRm_figure 2 (sL [l0, l1, l2] 1 (.int x)) st h := Rr_nx d_MRm_figure_1 rfl
theorem r_MRm_figure_2 : Rr X d MRm_figure 2 L st h = Rr X d MRm_figure 3 L (.int (0) :: st) h := Rr_nx d_MRm_figure_2 rfl
theorem r_MRm_figure_3 {l0 l1 l2 : Value} {x : Int32} : Rr X d MRm_figure 3 [l0, l1, l2] (.int x :: st) h = Rr X d MRm_figure 4 (sL [l0, l1, l2] 2 (.int x)) st h := Rr_nx d_MRm_figure_3 rfl
theorem r_MRm_figure_4 {l0 l1 : Value} {x : Int32} : Rr X d MRm_figure 4 [l0, l1, .int x] st h = Rr X d MRm_figure 5 [l0, l1, .int x] (.int x :: st) h := Rr_nx d_MRm_figure_4 rfl
theorem r_MRm_figure_5 : Rr X d MRm_figure 5 L st h = Rr X d MRm_figure 6 L (.int (4) :: st) h := Rr_nx d_MRm_figure_5 rfl
theorem r_MRm_figure_6 {x y : Int32} : Rr X d MRm_figure 6 L (.int y :: .int x :: st) h = if y ≤ x then Rr X d MRm_figure 52 L st h else Rr X d MRm_figure 9 L st h := R_ic_ge d_MRm_figure_6 (by decide)
theorem r_MRm_figure_9 {l1 l2 : Value} {x : Nat} : Rr X d MRm_figure 9 [.ref x, l1, l2] st h = Rr X d MRm_figure 10 [.ref x, l1, l2] (.ref x :: st) h := Rr_nx d_MRm_figure_9 rfl
theorem fc_10_206 : fC 10 206 = some (0, 10, 0, MRm_look) := rfl
theorem r_MRm_figure_10 {a : Nat} (hO : qO a 10 = true) (hc : ckS st = true) : Rr X (d + 1) MRm_figure 10 L (.ref a :: st) (Wd mu la ro et) = (Rr X d MRm_look 0 [.ref a] [] (Wd mu la ro et)).bind fun q => Rr X (d + 1) MRm_figure 13 L (psh q.1 st) q.2 := R_iv (av := []) d_MRm_figure_10 fc_10_206 hO (ckS_le hc) rfl (Nat.le_of_ble_eq_true rfl) (Nat.le_of_ble_eq_true rfl)
theorem r_MRm_figure_13 : Rr X d MRm_figure 13 L st h = Rr X d MRm_figure 15 L (.int (48) :: st) h := Rr_nx d_MRm_figure_13 rfl
theorem r_MRm_figure_15 : Rr X d MRm_figure 15 L st h = Rr X d MRm_figure 17 L (.int (57) :: st) h := Rr_nx d_MRm_figure_15 rfl
theorem r_MRm_figure_17 {y0 : Int32} {y1 : Int32} {y2 : Int32} (hc : ckS st = true) : Rr X (d + 1) MRm_figure 17 L (.int y2 :: .int y1 :: .int y0 :: st) h = (Rr X d MRm_in 0 [.int y0, .int y1, .int y2] [] h).bind fun q => Rr X (d + 1) MRm_figure 20 L (psh q.1 st) q.2 := R_is (av := [.int y2, .int y1, .int y0]) d_MRm_figure_17 (Or.inl fc_10_107) (ckS_le hc) rfl (Nat.le_of_ble_eq_true rfl) (Nat.le_of_ble_eq_true rfl)
theorem r_MRm_figure_20 {x : Int32} : Rr X d MRm_figure 20 L (.int x :: st) h = if x = 0 then Rr X d MRm_figure 52 L st h else Rr X d MRm_figure 23 L st h := R_if_eq d_MRm_figure_20 (by decide)
theorem r_MRm_figure_23 : Rr X d MRm_figure 23 L st h = Rr X d MRm_figure 25 L (.int (10) :: st) h := Rr_nx d_MRm_figure_23 rfl
theorem r_MRm_figure_25 {l0 l2 : Value} {x : Int32} : Rr X d MRm_figure 25 [l0, .int x, l2] st h = Rr X d MRm_figure 26 [l0, .int x, l2] (.int x :: st) h := Rr_nx d_MRm_figure_25 rfl
theorem r_MRm_figure_26 {x y : Int32} : Rr X d MRm_figure 26 L (.int y :: .int x :: st) h = Rr X d MRm_figure 27 L (.int (x * y) :: st) h := Rr_nx d_MRm_figure_26 rfl
theorem r_MRm_figure_27 {l1 l2 : Value} {x : Nat} : Rr X d MRm_figure 27 [.ref x, l1, l2] st h = Rr X d MRm_figure 28 [.ref x, l1, l2] (.ref x :: st) h := Rr_nx d_MRm_figure_27 rfl
theorem r_MRm_figure_28 {a : Nat} (hO : qO a 10 = true) (hc : ckS st = true) : Rr X (d + 1) MRm_figure 28 L (.ref a :: st) (Wd mu la ro et) = (Rr X d MRm_look 0 [.ref a] [] (Wd mu la ro et)).bind fun q => Rr X (d + 1) MRm_figure 31 L (psh q.1 st) q.2 := R_iv (av := []) d_MRm_figure_28 fc_10_206 hO (ckS_le hc) rfl (Nat.le_of_ble_eq_true rfl) (Nat.le_of_ble_eq_true rfl)
theorem r_MRm_figure_31 {x y : Int32} : Rr X d MRm_figure 31 L (.int y :: .int x :: st) h = Rr X d MRm_figure 32 L (.int (x + y) :: st) h := Rr_nx d_MRm_figure_31 rfl
theorem r_MRm_figure_32 : Rr X d MRm_figure 32 L st h = Rr X d MRm_figure 34 L (.int (48) :: st) h := Rr_nx d_MRm_figure_32 rfl
theorem r_MRm_figure_34 {x y : Int32} : Rr X d MRm_figure 34 L (.int y :: .int x :: st) h = Rr X d MRm_figure 35 L (.int (x - y) :: st) h := Rr_nx d_MRm_figure_34 rfl
theorem r_MRm_figure_35 {l0 l1 l2 : Value} {x : Int32} : Rr X d MRm_figure 35 [l0, l1, l2] (.int x :: st) h = Rr X d MRm_figure 36 (sL [l0, l1, l2] 1 (.int x)) st h := Rr_nx d_MRm_figure_35 rfl
theorem r_MRm_figure_36 {l0 l1 : Value} {x : Int32} : Rr X d MRm_figure 36 [l0, l1, .int x] st h = Rr X d MRm_figure 39 (sL [l0, l1, .int x] 2 (.int (x + (1)))) st h := Rr_nx d_MRm_figure_36 rfl
theorem r_MRm_figure_39 {l1 l2 : Value} {x : Nat} : Rr X d MRm_figure 39 [.ref x, l1, l2] st h = Rr X d MRm_figure 40 [.ref x, l1, l2] (.ref x :: st) h := Rr_nx d_MRm_figure_39 rfl
theorem r_MRm_figure_40 {x : Nat} : Rr X d MRm_figure 40 L (.ref x :: st) h = Rr X d MRm_figure 41 L (.ref x :: .ref x :: st) h := Rr_nx d_MRm_figure_40 rfl
theorem r_MRm_figure_40i {x : Int32} : Rr X d MRm_figure 40 L (.int x :: st) h = Rr X d MRm_figure 41 L (.int x :: .int x :: st) h := Rr_nx d_MRm_figure_40 rfl
theorem r_MRm_figure_41 {a : Nat} (hq : qI a 10 18 = true) : Rr X d MRm_figure 41 L (.ref a :: st) (Wd mu la ro et) = Rr X d MRm_figure 44 L (.int (mu a 18) :: st) (Wd mu la ro et) := R_gfI d_MRm_figure_41 ff_10_120 hq
theorem r_MRm_figure_44 : Rr X d MRm_figure 44 L st h = Rr X d MRm_figure 45 L (.int (1) :: st) h := Rr_nx d_MRm_figure_44 rfl
theorem r_MRm_figure_45 {x y : Int32} : Rr X d MRm_figure 45 L (.int y :: .int x :: st) h = Rr X d MRm_figure 46 L (.int (x + y) :: st) h := Rr_nx d_MRm_figure_45 rfl
theorem r_MRm_figure_46 {a : Nat} {x : Int32} (hq : qI a 10 18 = true) : Rr X d MRm_figure 46 L (.int x :: .ref a :: st) (Wd mu la ro et) = Rr X d MRm_figure 49 L st (Wd (up2 mu a 18 x) la ro et) := R_pfI d_MRm_figure_46 ff_10_120 hq
theorem r_MRm_figure_49 : Rr X d MRm_figure 49 L st h = Rr X d MRm_figure 4 L st h := R_goto d_MRm_figure_49 (by decide)
theorem r_MRm_figure_52 {l0 l1 : Value} {x : Int32} : Rr X d MRm_figure 52 [l0, l1, .int x] st h = Rr X d MRm_figure 53 [l0, l1, .int x] (.int x :: st) h := Rr_nx d_MRm_figure_52 rfl
theorem r_MRm_figure_53 {x : Int32} : Rr X d MRm_figure 53 L (.int x :: st) h = if x = 0 then Rr X d MRm_figure 70 L st h else Rr X d MRm_figure 56 L st h := R_if_eq d_MRm_figure_53 (by decide)
theorem r_MRm_figure_56 {l1 l2 : Value} {x : Nat} : Rr X d MRm_figure 56 [.ref x, l1, l2] st h = Rr X d MRm_figure 57 [.ref x, l1, l2] (.ref x :: st) h := Rr_nx d_MRm_figure_56 rfl
theorem r_MRm_figure_57 {a : Nat} (hO : qO a 10 = true) (hc : ckS st = true) : Rr X (d + 1) MRm_figure 57 L (.ref a :: st) (Wd mu la ro et) = (Rr X d MRm_look 0 [.ref a] [] (Wd mu la ro et)).bind fun q => Rr X (d + 1) MRm_figure 60 L (psh q.1 st) q.2 := R_iv (av := []) d_MRm_figure_57 fc_10_206 hO (ckS_le hc) rfl (Nat.le_of_ble_eq_true rfl) (Nat.le_of_ble_eq_true rfl)
theorem r_MRm_figure_60 : Rr X d MRm_figure 60 L st h = Rr X d MRm_figure 62 L (.int (48) :: st) h := Rr_nx d_MRm_figure_60 rfl
theorem r_MRm_figure_62 : Rr X d MRm_figure 62 L st h = Rr X d MRm_figure 64 L (.int (57) :: st) h := Rr_nx d_MRm_figure_62 rfl
theorem r_MRm_figure_64 {y0 : Int32} {y1 : Int32} {y2 : Int32} (hc : ckS st = true) : Rr X (d + 1) MRm_figure 64 L (.int y2 :: .int y1 :: .int y0 :: st) h = (Rr X d MRm_in 0 [.int y0, .int y1, .int y2] [] h).bind fun q => Rr X (d + 1) MRm_figure 67 L (psh q.1 st) q.2 := R_is (av := [.int y2, .int y1, .int y0]) d_MRm_figure_64 (Or.inl fc_10_107) (ckS_le hc) rfl (Nat.le_of_ble_eq_true rfl) (Nat.le_of_ble_eq_true rfl)
theorem r_MRm_figure_67 {x : Int32} : Rr X d MRm_figure 67 L (.int x :: st) h = if x = 0 then Rr X d MRm_figure 74 L st h else Rr X d MRm_figure 70 L st h := R_if_eq d_MRm_figure_67 (by decide)
theorem r_MRm_figure_70 {l1 l2 : Value} {x : Nat} : Rr X d MRm_figure 70 [.ref x, l1, l2] st h = Rr X d MRm_figure 71 [.ref x, l1, l2] (.ref x :: st) h := Rr_nx d_MRm_figure_70 rfl
theorem r_MRm_figure_71 {a : Nat} (hO : qO a 10 = true) (hc : ckS st = true) : Rr X (d + 1) MRm_figure 71 L (.ref a :: st) (Wd mu la ro et) = (Rr X d MRm_wrong 0 [.ref a] [] (Wd mu la ro et)).bind fun q => Rr X (d + 1) MRm_figure 74 L (psh q.1 st) q.2 := R_iv (av := []) d_MRm_figure_71 fc_10_203 hO (ckS_le hc) rfl (Nat.le_of_ble_eq_true rfl) (Nat.le_of_ble_eq_true rfl)
theorem r_MRm_figure_74 {l1 l2 : Value} {x : Nat} : Rr X d MRm_figure 74 [.ref x, l1, l2] st h = Rr X d MRm_figure 75 [.ref x, l1, l2] (.ref x :: st) h := Rr_nx d_MRm_figure_74 rfl
theorem r_MRm_figure_75 : Rr X d MRm_figure 75 L st h = Rr X d MRm_figure 76 L (.int (1) :: st) h := Rr_nx d_MRm_figure_75 rfl
theorem r_MRm_figure_76 {l0 l2 : Value} {x : Int32} : Rr X d MRm_figure 76 [l0, .int x, l2] st h = Rr X d MRm_figure 77 [l0, .int x, l2] (.int x :: st) h := Rr_nx d_MRm_figure_76 rfl
theorem fc_10_209 : fC 10 209 = some (0, 10, 2, MRm_addStep) := rfl
theorem r_MRm_figure_77 {y0 : Int32} {y1 : Int32} {a : Nat} (hO : qO a 10 = true) (hc : ckS st = true) : Rr X (d + 1) MRm_figure 77 L (.int y1 :: .int y0 :: .ref a :: st) (Wd mu la ro et) = (Rr X d MRm_addStep 0 [.ref a, .int y0, .int y1] [] (Wd mu la ro et)).bind fun q => Rr X (d + 1) MRm_figure 80 L (psh q.1 st) q.2 := R_iv (av := [.int y1, .int y0]) d_MRm_figure_77 fc_10_209 hO (ckS_le hc) rfl (Nat.le_of_ble_eq_true rfl) (Nat.le_of_ble_eq_true rfl)
theorem r_MRm_figure_80 : Rr X d MRm_figure 80 L [] h = some (none, h) := Rr_rt d_MRm_figure_80 rfl
theorem d_MRm_operand_0 : decode MRm_operand.2.2.1 0 = .ok (.aload_n 0, 1) := lkT_ok tk_MRm_operand rfl
theorem d_MRm_operand_1 : decode MRm_operand.2.2.1 1 = .ok (.invokevirtual 206, 3) := lkT_ok tk_MRm_operand rfl
theorem d_MRm_operand_4 : decode MRm_operand.2.2.1 4 = .ok (.istore_n 1, 1) := lkT_ok tk_MRm_operand rfl
theorem d_MRm_operand_5 : decode MRm_operand.2.2.1 5 = .ok (.iload_n 1, 1) := lkT_ok tk_MRm_operand rfl
theorem d_MRm_operand_6 : decode MRm_operand.2.2.1 6 = .ok (.invokestatic 213, 3) := lkT_ok tk_MRm_operand rfl
theorem d_MRm_operand_9 : decode MRm_operand.2.2.1 9 = .ok (.ifCond .lt 25, 3) := lkT_ok tk_MRm_operand rfl
theorem d_MRm_operand_12 : decode MRm_operand.2.2.1 12 = .ok (.aload_n 0, 1) := lkT_ok tk_MRm_operand rfl
theorem d_MRm_operand_13 : decode MRm_operand.2.2.1 13 = .ok (.iconst 2, 1) := lkT_ok tk_MRm_operand rfl
theorem d_MRm_operand_14 : decode MRm_operand.2.2.1 14 = .ok (.iload_n 1, 1) := lkT_ok tk_MRm_operand rfl
theorem d_MRm_operand_15 : decode MRm_operand.2.2.1 15 = .ok (.invokestatic 213, 3) := lkT_ok tk_MRm_operand rfl
theorem d_MRm_operand_18 : decode MRm_operand.2.2.1 18 = .ok (.invokevirtual 209, 3) := lkT_ok tk_MRm_operand rfl
theorem d_MRm_operand_21 : decode MRm_operand.2.2.1 21 = .ok (.aload_n 0, 1) := lkT_ok tk_MRm_operand rfl
theorem d_MRm_operand_22 : decode MRm_operand.2.2.1 22 = .ok (.dup, 1) := lkT_ok tk_MRm_operand rfl
theorem d_MRm_operand_23 : decode MRm_operand.2.2.1 23 = .ok (.getfield 120, 3) := lkT_ok tk_MRm_operand rfl
theorem d_MRm_operand_26 : decode MRm_operand.2.2.1 26 = .ok (.iconst 1, 1) := lkT_ok tk_MRm_operand rfl
theorem d_MRm_operand_27 : decode MRm_operand.2.2.1 27 = .ok (.iadd, 1) := lkT_ok tk_MRm_operand rfl
theorem d_MRm_operand_28 : decode MRm_operand.2.2.1 28 = .ok (.putfield 120, 3) := lkT_ok tk_MRm_operand rfl
theorem d_MRm_operand_31 : decode MRm_operand.2.2.1 31 = .ok (.goto 123, 3) := lkT_ok tk_MRm_operand rfl
theorem d_MRm_operand_34 : decode MRm_operand.2.2.1 34 = .ok (.iload_n 1, 1) := lkT_ok tk_MRm_operand rfl
theorem d_MRm_operand_35 : decode MRm_operand.2.2.1 35 = .ok (.bipush 33, 2) := lkT_ok tk_MRm_operand rfl
theorem d_MRm_operand_37 : decode MRm_operand.2.2.1 37 = .ok (.if_icmp .eq 9, 3) := lkT_ok tk_MRm_operand rfl
theorem d_MRm_operand_40 : decode MRm_operand.2.2.1 40 = .ok (.iload_n 1, 1) := lkT_ok tk_MRm_operand rfl
theorem d_MRm_operand_41 : decode MRm_operand.2.2.1 41 = .ok (.bipush 45, 2) := lkT_ok tk_MRm_operand rfl
theorem d_MRm_operand_43 : decode MRm_operand.2.2.1 43 = .ok (.if_icmp .ne 44, 3) := lkT_ok tk_MRm_operand rfl
theorem d_MRm_operand_46 : decode MRm_operand.2.2.1 46 = .ok (.aload_n 0, 1) := lkT_ok tk_MRm_operand rfl
theorem d_MRm_operand_47 : decode MRm_operand.2.2.1 47 = .ok (.invokevirtual 216, 3) := lkT_ok tk_MRm_operand rfl
theorem d_MRm_operand_50 : decode MRm_operand.2.2.1 50 = .ok (.ifCond .ne 4, 3) := lkT_ok tk_MRm_operand rfl
theorem d_MRm_operand_53 : decode MRm_operand.2.2.1 53 = .ok (.return_, 1) := lkT_ok tk_MRm_operand rfl
theorem d_MRm_operand_54 : decode MRm_operand.2.2.1 54 = .ok (.aload_n 0, 1) := lkT_ok tk_MRm_operand rfl
theorem d_MRm_operand_55 : decode MRm_operand.2.2.1 55 = .ok (.invokevirtual 220, 3) := lkT_ok tk_MRm_operand rfl
theorem d_MRm_operand_58 : decode MRm_operand.2.2.1 58 = .ok (.aload_n 0, 1) := lkT_ok tk_MRm_operand rfl
theorem d_MRm_operand_59 : decode MRm_operand.2.2.1 59 = .ok (.dup, 1) := lkT_ok tk_MRm_operand rfl
theorem d_MRm_operand_60 : decode MRm_operand.2.2.1 60 = .ok (.getfield 200, 3) := lkT_ok tk_MRm_operand rfl
theorem d_MRm_operand_63 : decode MRm_operand.2.2.1 63 = .ok (.iconst 1, 1) := lkT_ok tk_MRm_operand rfl
theorem d_MRm_operand_64 : decode MRm_operand.2.2.1 64 = .ok (.isub, 1) := lkT_ok tk_MRm_operand rfl
theorem d_MRm_operand_65 : decode MRm_operand.2.2.1 65 = .ok (.putfield 200, 3) := lkT_ok tk_MRm_operand rfl
theorem d_MRm_operand_68 : decode MRm_operand.2.2.1 68 = .ok (.aload_n 0, 1) := lkT_ok tk_MRm_operand rfl
theorem d_MRm_operand_69 : decode MRm_operand.2.2.1 69 = .ok (.iload_n 1, 1) := lkT_ok tk_MRm_operand rfl
theorem d_MRm_operand_70 : decode MRm_operand.2.2.1 70 = .ok (.bipush 33, 2) := lkT_ok tk_MRm_operand rfl
theorem d_MRm_operand_72 : decode MRm_operand.2.2.1 72 = .ok (.if_icmp .ne 7, 3) := lkT_ok tk_MRm_operand rfl
theorem d_MRm_operand_75 : decode MRm_operand.2.2.1 75 = .ok (.iconst 3, 1) := lkT_ok tk_MRm_operand rfl
theorem d_MRm_operand_76 : decode MRm_operand.2.2.1 76 = .ok (.goto 4, 3) := lkT_ok tk_MRm_operand rfl
theorem d_MRm_operand_79 : decode MRm_operand.2.2.1 79 = .ok (.iconst 4, 1) := lkT_ok tk_MRm_operand rfl
theorem d_MRm_operand_80 : decode MRm_operand.2.2.1 80 = .ok (.iconst 0, 1) := lkT_ok tk_MRm_operand rfl
theorem d_MRm_operand_81 : decode MRm_operand.2.2.1 81 = .ok (.invokevirtual 209, 3) := lkT_ok tk_MRm_operand rfl
theorem d_MRm_operand_84 : decode MRm_operand.2.2.1 84 = .ok (.goto 70, 3) := lkT_ok tk_MRm_operand rfl
theorem d_MRm_operand_87 : decode MRm_operand.2.2.1 87 = .ok (.iload_n 1, 1) := lkT_ok tk_MRm_operand rfl
theorem d_MRm_operand_88 : decode MRm_operand.2.2.1 88 = .ok (.bipush 40, 2) := lkT_ok tk_MRm_operand rfl
theorem d_MRm_operand_90 : decode MRm_operand.2.2.1 90 = .ok (.if_icmp .ne 60, 3) := lkT_ok tk_MRm_operand rfl
theorem d_MRm_operand_93 : decode MRm_operand.2.2.1 93 = .ok (.aload_n 0, 1) := lkT_ok tk_MRm_operand rfl
theorem d_MRm_operand_94 : decode MRm_operand.2.2.1 94 = .ok (.invokevirtual 216, 3) := lkT_ok tk_MRm_operand rfl
theorem d_MRm_operand_97 : decode MRm_operand.2.2.1 97 = .ok (.ifCond .ne 4, 3) := lkT_ok tk_MRm_operand rfl
theorem d_MRm_operand_100 : decode MRm_operand.2.2.1 100 = .ok (.return_, 1) := lkT_ok tk_MRm_operand rfl
theorem d_MRm_operand_101 : decode MRm_operand.2.2.1 101 = .ok (.aload_n 0, 1) := lkT_ok tk_MRm_operand rfl
theorem d_MRm_operand_102 : decode MRm_operand.2.2.1 102 = .ok (.invokevirtual 223, 3) := lkT_ok tk_MRm_operand rfl
theorem d_MRm_operand_105 : decode MRm_operand.2.2.1 105 = .ok (.aload_n 0, 1) := lkT_ok tk_MRm_operand rfl
theorem d_MRm_operand_106 : decode MRm_operand.2.2.1 106 = .ok (.getfield 117, 3) := lkT_ok tk_MRm_operand rfl
theorem d_MRm_operand_109 : decode MRm_operand.2.2.1 109 = .ok (.ifCond .lt 4, 3) := lkT_ok tk_MRm_operand rfl
theorem d_MRm_operand_112 : decode MRm_operand.2.2.1 112 = .ok (.return_, 1) := lkT_ok tk_MRm_operand rfl
theorem d_MRm_operand_113 : decode MRm_operand.2.2.1 113 = .ok (.aload_n 0, 1) := lkT_ok tk_MRm_operand rfl
theorem d_MRm_operand_114 : decode MRm_operand.2.2.1 114 = .ok (.invokevirtual 206, 3) := lkT_ok tk_MRm_operand rfl
theorem d_MRm_operand_117 : decode MRm_operand.2.2.1 117 = .ok (.bipush 41, 2) := lkT_ok tk_MRm_operand rfl
theorem d_MRm_operand_119 : decode MRm_operand.2.2.1 119 = .ok (.if_icmp .eq 8, 3) := lkT_ok tk_MRm_operand rfl
theorem d_MRm_operand_122 : decode MRm_operand.2.2.1 122 = .ok (.aload_n 0, 1) := lkT_ok tk_MRm_operand rfl
theorem d_MRm_operand_123 : decode MRm_operand.2.2.1 123 = .ok (.invokevirtual 203, 3) := lkT_ok tk_MRm_operand rfl
theorem d_MRm_operand_126 : decode MRm_operand.2.2.1 126 = .ok (.return_, 1) := lkT_ok tk_MRm_operand rfl
theorem d_MRm_operand_127 : decode MRm_operand.2.2.1 127 = .ok (.aload_n 0, 1) := lkT_ok tk_MRm_operand rfl
theorem d_MRm_operand_128 : decode MRm_operand.2.2.1 128 = .ok (.dup, 1) := lkT_ok tk_MRm_operand rfl
theorem d_MRm_operand_129 : decode MRm_operand.2.2.1 129 = .ok (.getfield 120, 3) := lkT_ok tk_MRm_operand rfl
theorem d_MRm_operand_132 : decode MRm_operand.2.2.1 132 = .ok (.iconst 1, 1) := lkT_ok tk_MRm_operand rfl
theorem d_MRm_operand_133 : decode MRm_operand.2.2.1 133 = .ok (.iadd, 1) := lkT_ok tk_MRm_operand rfl
theorem d_MRm_operand_134 : decode MRm_operand.2.2.1 134 = .ok (.putfield 120, 3) := lkT_ok tk_MRm_operand rfl
theorem d_MRm_operand_137 : decode MRm_operand.2.2.1 137 = .ok (.aload_n 0, 1) := lkT_ok tk_MRm_operand rfl
theorem d_MRm_operand_138 : decode MRm_operand.2.2.1 138 = .ok (.dup, 1) := lkT_ok tk_MRm_operand rfl
theorem d_MRm_operand_139 : decode MRm_operand.2.2.1 139 = .ok (.getfield 200, 3) := lkT_ok tk_MRm_operand rfl
theorem d_MRm_operand_142 : decode MRm_operand.2.2.1 142 = .ok (.iconst 1, 1) := lkT_ok tk_MRm_operand rfl
theorem d_MRm_operand_143 : decode MRm_operand.2.2.1 143 = .ok (.isub, 1) := lkT_ok tk_MRm_operand rfl
theorem d_MRm_operand_144 : decode MRm_operand.2.2.1 144 = .ok (.putfield 200, 3) := lkT_ok tk_MRm_operand rfl
theorem d_MRm_operand_147 : decode MRm_operand.2.2.1 147 = .ok (.goto 7, 3) := lkT_ok tk_MRm_operand rfl
theorem d_MRm_operand_150 : decode MRm_operand.2.2.1 150 = .ok (.aload_n 0, 1) := lkT_ok tk_MRm_operand rfl
theorem d_MRm_operand_151 : decode MRm_operand.2.2.1 151 = .ok (.invokevirtual 226, 3) := lkT_ok tk_MRm_operand rfl
theorem d_MRm_operand_154 : decode MRm_operand.2.2.1 154 = .ok (.return_, 1) := lkT_ok tk_MRm_operand rfl
theorem r_MRm_operand_0 {l1 : Value} {x : Nat} : Rr X d MRm_operand 0 [.ref x, l1] st h = Rr X d MRm_operand 1 [.ref x, l1] (.ref x :: st) h := Rr_nx d_MRm_operand_0 rfl
theorem r_MRm_operand_1 {a : Nat} (hO : qO a 10 = true) (hc : ckS st = true) : Rr X (d + 1) MRm_operand 1 L (.ref a :: st) (Wd mu la ro et) = (Rr X d MRm_look 0 [.ref a] [] (Wd mu la ro et)).bind fun q => Rr X (d + 1) MRm_operand 4 L (psh q.1 st) q.2 := R_iv (av := []) d_MRm_operand_1 fc_10_206 hO (ckS_le hc) rfl (Nat.le_of_ble_eq_true rfl) (Nat.le_of_ble_eq_true rfl)
theorem r_MRm_operand_4 {l0 l1 : Value} {x : Int32} : Rr X d MRm_operand 4 [l0, l1] (.int x :: st) h = Rr X d MRm_operand 5 (sL [l0, l1] 1 (.int x)) st h := Rr_nx d_MRm_operand_4 rfl
theorem r_MRm_operand_5 {l0 : Value} {x : Int32} : Rr X d MRm_operand 5 [l0, .int x] st h = Rr X d MRm_operand 6 [l0, .int x] (.int x :: st) h := Rr_nx d_MRm_operand_5 rfl
theorem fc_10_213 : fC 10 213 = some (1, 0, 1, MRm_nameOf) := rfl
theorem r_MRm_operand_6 {y0 : Int32} (hc : ckS st = true) : Rr X (d + 1) MRm_operand 6 L (.int y0 :: st) h = (Rr X d MRm_nameOf 0 [.int y0] [] h).bind fun q => Rr X (d + 1) MRm_operand 9 L (psh q.1 st) q.2 := R_is (av := [.int y0]) d_MRm_operand_6 (Or.inl fc_10_213) (ckS_le hc) rfl (Nat.le_of_ble_eq_true rfl) (Nat.le_of_ble_eq_true rfl)
theorem r_MRm_operand_9 {x : Int32} : Rr X d MRm_operand 9 L (.int x :: st) h = if x < 0 then Rr X d MRm_operand 34 L st h else Rr X d MRm_operand 12 L st h := R_if_lt d_MRm_operand_9 (by decide)
theorem r_MRm_operand_12 {l1 : Value} {x : Nat} : Rr X d MRm_operand 12 [.ref x, l1] st h = Rr X d MRm_operand 13 [.ref x, l1] (.ref x :: st) h := Rr_nx d_MRm_operand_12 rfl
theorem r_MRm_operand_13 : Rr X d MRm_operand 13 L st h = Rr X d MRm_operand 14 L (.int (2) :: st) h := Rr_nx d_MRm_operand_13 rfl
theorem r_MRm_operand_14 {l0 : Value} {x : Int32} : Rr X d MRm_operand 14 [l0, .int x] st h = Rr X d MRm_operand 15 [l0, .int x] (.int x :: st) h := Rr_nx d_MRm_operand_14 rfl
theorem r_MRm_operand_15 {y0 : Int32} (hc : ckS st = true) : Rr X (d + 1) MRm_operand 15 L (.int y0 :: st) h = (Rr X d MRm_nameOf 0 [.int y0] [] h).bind fun q => Rr X (d + 1) MRm_operand 18 L (psh q.1 st) q.2 := R_is (av := [.int y0]) d_MRm_operand_15 (Or.inl fc_10_213) (ckS_le hc) rfl (Nat.le_of_ble_eq_true rfl) (Nat.le_of_ble_eq_true rfl)
theorem r_MRm_operand_18 {y0 : Int32} {y1 : Int32} {a : Nat} (hO : qO a 10 = true) (hc : ckS st = true) : Rr X (d + 1) MRm_operand 18 L (.int y1 :: .int y0 :: .ref a :: st) (Wd mu la ro et) = (Rr X d MRm_addStep 0 [.ref a, .int y0, .int y1] [] (Wd mu la ro et)).bind fun q => Rr X (d + 1) MRm_operand 21 L (psh q.1 st) q.2 := R_iv (av := [.int y1, .int y0]) d_MRm_operand_18 fc_10_209 hO (ckS_le hc) rfl (Nat.le_of_ble_eq_true rfl) (Nat.le_of_ble_eq_true rfl)
theorem r_MRm_operand_21 {l1 : Value} {x : Nat} : Rr X d MRm_operand 21 [.ref x, l1] st h = Rr X d MRm_operand 22 [.ref x, l1] (.ref x :: st) h := Rr_nx d_MRm_operand_21 rfl
theorem r_MRm_operand_22 {x : Nat} : Rr X d MRm_operand 22 L (.ref x :: st) h = Rr X d MRm_operand 23 L (.ref x :: .ref x :: st) h := Rr_nx d_MRm_operand_22 rfl
theorem r_MRm_operand_22i {x : Int32} : Rr X d MRm_operand 22 L (.int x :: st) h = Rr X d MRm_operand 23 L (.int x :: .int x :: st) h := Rr_nx d_MRm_operand_22 rfl
theorem r_MRm_operand_23 {a : Nat} (hq : qI a 10 18 = true) : Rr X d MRm_operand 23 L (.ref a :: st) (Wd mu la ro et) = Rr X d MRm_operand 26 L (.int (mu a 18) :: st) (Wd mu la ro et) := R_gfI d_MRm_operand_23 ff_10_120 hq
theorem r_MRm_operand_26 : Rr X d MRm_operand 26 L st h = Rr X d MRm_operand 27 L (.int (1) :: st) h := Rr_nx d_MRm_operand_26 rfl
theorem r_MRm_operand_27 {x y : Int32} : Rr X d MRm_operand 27 L (.int y :: .int x :: st) h = Rr X d MRm_operand 28 L (.int (x + y) :: st) h := Rr_nx d_MRm_operand_27 rfl
theorem r_MRm_operand_28 {a : Nat} {x : Int32} (hq : qI a 10 18 = true) : Rr X d MRm_operand 28 L (.int x :: .ref a :: st) (Wd mu la ro et) = Rr X d MRm_operand 31 L st (Wd (up2 mu a 18 x) la ro et) := R_pfI d_MRm_operand_28 ff_10_120 hq
theorem r_MRm_operand_31 : Rr X d MRm_operand 31 L st h = Rr X d MRm_operand 154 L st h := R_goto d_MRm_operand_31 (by decide)
theorem r_MRm_operand_34 {l0 : Value} {x : Int32} : Rr X d MRm_operand 34 [l0, .int x] st h = Rr X d MRm_operand 35 [l0, .int x] (.int x :: st) h := Rr_nx d_MRm_operand_34 rfl
theorem r_MRm_operand_35 : Rr X d MRm_operand 35 L st h = Rr X d MRm_operand 37 L (.int (33) :: st) h := Rr_nx d_MRm_operand_35 rfl
theorem r_MRm_operand_37 {x y : Int32} : Rr X d MRm_operand 37 L (.int y :: .int x :: st) h = if x = y then Rr X d MRm_operand 46 L st h else Rr X d MRm_operand 40 L st h := R_ic_eq d_MRm_operand_37 (by decide)
theorem r_MRm_operand_40 {l0 : Value} {x : Int32} : Rr X d MRm_operand 40 [l0, .int x] st h = Rr X d MRm_operand 41 [l0, .int x] (.int x :: st) h := Rr_nx d_MRm_operand_40 rfl
theorem r_MRm_operand_41 : Rr X d MRm_operand 41 L st h = Rr X d MRm_operand 43 L (.int (45) :: st) h := Rr_nx d_MRm_operand_41 rfl
theorem r_MRm_operand_43 {x y : Int32} : Rr X d MRm_operand 43 L (.int y :: .int x :: st) h = if ¬ x = y then Rr X d MRm_operand 87 L st h else Rr X d MRm_operand 46 L st h := R_ic_ne d_MRm_operand_43 (by decide)
theorem r_MRm_operand_46 {l1 : Value} {x : Nat} : Rr X d MRm_operand 46 [.ref x, l1] st h = Rr X d MRm_operand 47 [.ref x, l1] (.ref x :: st) h := Rr_nx d_MRm_operand_46 rfl
theorem fc_10_216 : fC 10 216 = some (0, 10, 0, MRm_opens) := rfl
theorem r_MRm_operand_47 {a : Nat} (hO : qO a 10 = true) (hc : ckS st = true) : Rr X (d + 1) MRm_operand 47 L (.ref a :: st) (Wd mu la ro et) = (Rr X d MRm_opens 0 [.ref a] [] (Wd mu la ro et)).bind fun q => Rr X (d + 1) MRm_operand 50 L (psh q.1 st) q.2 := R_iv (av := []) d_MRm_operand_47 fc_10_216 hO (ckS_le hc) rfl (Nat.le_of_ble_eq_true rfl) (Nat.le_of_ble_eq_true rfl)
theorem r_MRm_operand_50 {x : Int32} : Rr X d MRm_operand 50 L (.int x :: st) h = if ¬ x = 0 then Rr X d MRm_operand 54 L st h else Rr X d MRm_operand 53 L st h := R_if_ne d_MRm_operand_50 (by decide)
theorem r_MRm_operand_53 : Rr X d MRm_operand 53 L [] h = some (none, h) := Rr_rt d_MRm_operand_53 rfl
theorem r_MRm_operand_54 {l1 : Value} {x : Nat} : Rr X d MRm_operand 54 [.ref x, l1] st h = Rr X d MRm_operand 55 [.ref x, l1] (.ref x :: st) h := Rr_nx d_MRm_operand_54 rfl
theorem fc_10_220 : fC 10 220 = some (0, 10, 0, MRm_operand) := rfl
theorem r_MRm_operand_55 {a : Nat} (hO : qO a 10 = true) (hc : ckS st = true) : Rr X (d + 1) MRm_operand 55 L (.ref a :: st) (Wd mu la ro et) = (Rr X d MRm_operand 0 [.ref a, mkU] [] (Wd mu la ro et)).bind fun q => Rr X (d + 1) MRm_operand 58 L (psh q.1 st) q.2 := R_iv (av := []) d_MRm_operand_55 fc_10_220 hO (ckS_le hc) rfl (Nat.le_of_ble_eq_true rfl) (Nat.le_of_ble_eq_true rfl)
theorem r_MRm_operand_58 {l1 : Value} {x : Nat} : Rr X d MRm_operand 58 [.ref x, l1] st h = Rr X d MRm_operand 59 [.ref x, l1] (.ref x :: st) h := Rr_nx d_MRm_operand_58 rfl
theorem r_MRm_operand_59 {x : Nat} : Rr X d MRm_operand 59 L (.ref x :: st) h = Rr X d MRm_operand 60 L (.ref x :: .ref x :: st) h := Rr_nx d_MRm_operand_59 rfl
theorem r_MRm_operand_59i {x : Int32} : Rr X d MRm_operand 59 L (.int x :: st) h = Rr X d MRm_operand 60 L (.int x :: .int x :: st) h := Rr_nx d_MRm_operand_59 rfl
theorem r_MRm_operand_60 {a : Nat} (hq : qI a 10 20 = true) : Rr X d MRm_operand 60 L (.ref a :: st) (Wd mu la ro et) = Rr X d MRm_operand 63 L (.int (mu a 20) :: st) (Wd mu la ro et) := R_gfI d_MRm_operand_60 ff_10_200 hq
theorem r_MRm_operand_63 : Rr X d MRm_operand 63 L st h = Rr X d MRm_operand 64 L (.int (1) :: st) h := Rr_nx d_MRm_operand_63 rfl
theorem r_MRm_operand_64 {x y : Int32} : Rr X d MRm_operand 64 L (.int y :: .int x :: st) h = Rr X d MRm_operand 65 L (.int (x - y) :: st) h := Rr_nx d_MRm_operand_64 rfl
theorem r_MRm_operand_65 {a : Nat} {x : Int32} (hq : qI a 10 20 = true) : Rr X d MRm_operand 65 L (.int x :: .ref a :: st) (Wd mu la ro et) = Rr X d MRm_operand 68 L st (Wd (up2 mu a 20 x) la ro et) := R_pfI d_MRm_operand_65 ff_10_200 hq
theorem r_MRm_operand_68 {l1 : Value} {x : Nat} : Rr X d MRm_operand 68 [.ref x, l1] st h = Rr X d MRm_operand 69 [.ref x, l1] (.ref x :: st) h := Rr_nx d_MRm_operand_68 rfl
theorem r_MRm_operand_69 {l0 : Value} {x : Int32} : Rr X d MRm_operand 69 [l0, .int x] st h = Rr X d MRm_operand 70 [l0, .int x] (.int x :: st) h := Rr_nx d_MRm_operand_69 rfl
theorem r_MRm_operand_70 : Rr X d MRm_operand 70 L st h = Rr X d MRm_operand 72 L (.int (33) :: st) h := Rr_nx d_MRm_operand_70 rfl
theorem r_MRm_operand_72 {x y : Int32} : Rr X d MRm_operand 72 L (.int y :: .int x :: st) h = if ¬ x = y then Rr X d MRm_operand 79 L st h else Rr X d MRm_operand 75 L st h := R_ic_ne d_MRm_operand_72 (by decide)
theorem r_MRm_operand_75 : Rr X d MRm_operand 75 L st h = Rr X d MRm_operand 76 L (.int (3) :: st) h := Rr_nx d_MRm_operand_75 rfl
theorem r_MRm_operand_76 : Rr X d MRm_operand 76 L st h = Rr X d MRm_operand 80 L st h := R_goto d_MRm_operand_76 (by decide)
theorem r_MRm_operand_79 : Rr X d MRm_operand 79 L st h = Rr X d MRm_operand 80 L (.int (4) :: st) h := Rr_nx d_MRm_operand_79 rfl
theorem r_MRm_operand_80 : Rr X d MRm_operand 80 L st h = Rr X d MRm_operand 81 L (.int (0) :: st) h := Rr_nx d_MRm_operand_80 rfl
theorem r_MRm_operand_81 {y0 : Int32} {y1 : Int32} {a : Nat} (hO : qO a 10 = true) (hc : ckS st = true) : Rr X (d + 1) MRm_operand 81 L (.int y1 :: .int y0 :: .ref a :: st) (Wd mu la ro et) = (Rr X d MRm_addStep 0 [.ref a, .int y0, .int y1] [] (Wd mu la ro et)).bind fun q => Rr X (d + 1) MRm_operand 84 L (psh q.1 st) q.2 := R_iv (av := [.int y1, .int y0]) d_MRm_operand_81 fc_10_209 hO (ckS_le hc) rfl (Nat.le_of_ble_eq_true rfl) (Nat.le_of_ble_eq_true rfl)
theorem r_MRm_operand_84 : Rr X d MRm_operand 84 L st h = Rr X d MRm_operand 154 L st h := R_goto d_MRm_operand_84 (by decide)
theorem r_MRm_operand_87 {l0 : Value} {x : Int32} : Rr X d MRm_operand 87 [l0, .int x] st h = Rr X d MRm_operand 88 [l0, .int x] (.int x :: st) h := Rr_nx d_MRm_operand_87 rfl
theorem r_MRm_operand_88 : Rr X d MRm_operand 88 L st h = Rr X d MRm_operand 90 L (.int (40) :: st) h := Rr_nx d_MRm_operand_88 rfl
theorem r_MRm_operand_90 {x y : Int32} : Rr X d MRm_operand 90 L (.int y :: .int x :: st) h = if ¬ x = y then Rr X d MRm_operand 150 L st h else Rr X d MRm_operand 93 L st h := R_ic_ne d_MRm_operand_90 (by decide)
theorem r_MRm_operand_93 {l1 : Value} {x : Nat} : Rr X d MRm_operand 93 [.ref x, l1] st h = Rr X d MRm_operand 94 [.ref x, l1] (.ref x :: st) h := Rr_nx d_MRm_operand_93 rfl
theorem r_MRm_operand_94 {a : Nat} (hO : qO a 10 = true) (hc : ckS st = true) : Rr X (d + 1) MRm_operand 94 L (.ref a :: st) (Wd mu la ro et) = (Rr X d MRm_opens 0 [.ref a] [] (Wd mu la ro et)).bind fun q => Rr X (d + 1) MRm_operand 97 L (psh q.1 st) q.2 := R_iv (av := []) d_MRm_operand_94 fc_10_216 hO (ckS_le hc) rfl (Nat.le_of_ble_eq_true rfl) (Nat.le_of_ble_eq_true rfl)
theorem r_MRm_operand_97 {x : Int32} : Rr X d MRm_operand 97 L (.int x :: st) h = if ¬ x = 0 then Rr X d MRm_operand 101 L st h else Rr X d MRm_operand 100 L st h := R_if_ne d_MRm_operand_97 (by decide)
theorem r_MRm_operand_100 : Rr X d MRm_operand 100 L [] h = some (none, h) := Rr_rt d_MRm_operand_100 rfl
theorem r_MRm_operand_101 {l1 : Value} {x : Nat} : Rr X d MRm_operand 101 [.ref x, l1] st h = Rr X d MRm_operand 102 [.ref x, l1] (.ref x :: st) h := Rr_nx d_MRm_operand_101 rfl
theorem fc_10_223 : fC 10 223 = some (0, 10, 0, MRm_either) := rfl
theorem r_MRm_operand_102 {a : Nat} (hO : qO a 10 = true) (hc : ckS st = true) : Rr X (d + 1) MRm_operand 102 L (.ref a :: st) (Wd mu la ro et) = (Rr X d MRm_either 0 [.ref a] [] (Wd mu la ro et)).bind fun q => Rr X (d + 1) MRm_operand 105 L (psh q.1 st) q.2 := R_iv (av := []) d_MRm_operand_102 fc_10_223 hO (ckS_le hc) rfl (Nat.le_of_ble_eq_true rfl) (Nat.le_of_ble_eq_true rfl)
theorem r_MRm_operand_105 {l1 : Value} {x : Nat} : Rr X d MRm_operand 105 [.ref x, l1] st h = Rr X d MRm_operand 106 [.ref x, l1] (.ref x :: st) h := Rr_nx d_MRm_operand_105 rfl
theorem r_MRm_operand_106 {a : Nat} (hq : qI a 10 19 = true) : Rr X d MRm_operand 106 L (.ref a :: st) (Wd mu la ro et) = Rr X d MRm_operand 109 L (.int (mu a 19) :: st) (Wd mu la ro et) := R_gfI d_MRm_operand_106 ff_10_117 hq
theorem r_MRm_operand_109 {x : Int32} : Rr X d MRm_operand 109 L (.int x :: st) h = if x < 0 then Rr X d MRm_operand 113 L st h else Rr X d MRm_operand 112 L st h := R_if_lt d_MRm_operand_109 (by decide)
theorem r_MRm_operand_112 : Rr X d MRm_operand 112 L [] h = some (none, h) := Rr_rt d_MRm_operand_112 rfl
theorem r_MRm_operand_113 {l1 : Value} {x : Nat} : Rr X d MRm_operand 113 [.ref x, l1] st h = Rr X d MRm_operand 114 [.ref x, l1] (.ref x :: st) h := Rr_nx d_MRm_operand_113 rfl
theorem r_MRm_operand_114 {a : Nat} (hO : qO a 10 = true) (hc : ckS st = true) : Rr X (d + 1) MRm_operand 114 L (.ref a :: st) (Wd mu la ro et) = (Rr X d MRm_look 0 [.ref a] [] (Wd mu la ro et)).bind fun q => Rr X (d + 1) MRm_operand 117 L (psh q.1 st) q.2 := R_iv (av := []) d_MRm_operand_114 fc_10_206 hO (ckS_le hc) rfl (Nat.le_of_ble_eq_true rfl) (Nat.le_of_ble_eq_true rfl)
theorem r_MRm_operand_117 : Rr X d MRm_operand 117 L st h = Rr X d MRm_operand 119 L (.int (41) :: st) h := Rr_nx d_MRm_operand_117 rfl
theorem r_MRm_operand_119 {x y : Int32} : Rr X d MRm_operand 119 L (.int y :: .int x :: st) h = if x = y then Rr X d MRm_operand 127 L st h else Rr X d MRm_operand 122 L st h := R_ic_eq d_MRm_operand_119 (by decide)
theorem r_MRm_operand_122 {l1 : Value} {x : Nat} : Rr X d MRm_operand 122 [.ref x, l1] st h = Rr X d MRm_operand 123 [.ref x, l1] (.ref x :: st) h := Rr_nx d_MRm_operand_122 rfl
theorem r_MRm_operand_123 {a : Nat} (hO : qO a 10 = true) (hc : ckS st = true) : Rr X (d + 1) MRm_operand 123 L (.ref a :: st) (Wd mu la ro et) = (Rr X d MRm_wrong 0 [.ref a] [] (Wd mu la ro et)).bind fun q => Rr X (d + 1) MRm_operand 126 L (psh q.1 st) q.2 := R_iv (av := []) d_MRm_operand_123 fc_10_203 hO (ckS_le hc) rfl (Nat.le_of_ble_eq_true rfl) (Nat.le_of_ble_eq_true rfl)
theorem r_MRm_operand_126 : Rr X d MRm_operand 126 L [] h = some (none, h) := Rr_rt d_MRm_operand_126 rfl
theorem r_MRm_operand_127 {l1 : Value} {x : Nat} : Rr X d MRm_operand 127 [.ref x, l1] st h = Rr X d MRm_operand 128 [.ref x, l1] (.ref x :: st) h := Rr_nx d_MRm_operand_127 rfl
theorem r_MRm_operand_128 {x : Nat} : Rr X d MRm_operand 128 L (.ref x :: st) h = Rr X d MRm_operand 129 L (.ref x :: .ref x :: st) h := Rr_nx d_MRm_operand_128 rfl
theorem r_MRm_operand_128i {x : Int32} : Rr X d MRm_operand 128 L (.int x :: st) h = Rr X d MRm_operand 129 L (.int x :: .int x :: st) h := Rr_nx d_MRm_operand_128 rfl
theorem r_MRm_operand_129 {a : Nat} (hq : qI a 10 18 = true) : Rr X d MRm_operand 129 L (.ref a :: st) (Wd mu la ro et) = Rr X d MRm_operand 132 L (.int (mu a 18) :: st) (Wd mu la ro et) := R_gfI d_MRm_operand_129 ff_10_120 hq
theorem r_MRm_operand_132 : Rr X d MRm_operand 132 L st h = Rr X d MRm_operand 133 L (.int (1) :: st) h := Rr_nx d_MRm_operand_132 rfl
theorem r_MRm_operand_133 {x y : Int32} : Rr X d MRm_operand 133 L (.int y :: .int x :: st) h = Rr X d MRm_operand 134 L (.int (x + y) :: st) h := Rr_nx d_MRm_operand_133 rfl
theorem r_MRm_operand_134 {a : Nat} {x : Int32} (hq : qI a 10 18 = true) : Rr X d MRm_operand 134 L (.int x :: .ref a :: st) (Wd mu la ro et) = Rr X d MRm_operand 137 L st (Wd (up2 mu a 18 x) la ro et) := R_pfI d_MRm_operand_134 ff_10_120 hq
theorem r_MRm_operand_137 {l1 : Value} {x : Nat} : Rr X d MRm_operand 137 [.ref x, l1] st h = Rr X d MRm_operand 138 [.ref x, l1] (.ref x :: st) h := Rr_nx d_MRm_operand_137 rfl
theorem r_MRm_operand_138 {x : Nat} : Rr X d MRm_operand 138 L (.ref x :: st) h = Rr X d MRm_operand 139 L (.ref x :: .ref x :: st) h := Rr_nx d_MRm_operand_138 rfl
theorem r_MRm_operand_138i {x : Int32} : Rr X d MRm_operand 138 L (.int x :: st) h = Rr X d MRm_operand 139 L (.int x :: .int x :: st) h := Rr_nx d_MRm_operand_138 rfl
theorem r_MRm_operand_139 {a : Nat} (hq : qI a 10 20 = true) : Rr X d MRm_operand 139 L (.ref a :: st) (Wd mu la ro et) = Rr X d MRm_operand 142 L (.int (mu a 20) :: st) (Wd mu la ro et) := R_gfI d_MRm_operand_139 ff_10_200 hq
theorem r_MRm_operand_142 : Rr X d MRm_operand 142 L st h = Rr X d MRm_operand 143 L (.int (1) :: st) h := Rr_nx d_MRm_operand_142 rfl
theorem r_MRm_operand_143 {x y : Int32} : Rr X d MRm_operand 143 L (.int y :: .int x :: st) h = Rr X d MRm_operand 144 L (.int (x - y) :: st) h := Rr_nx d_MRm_operand_143 rfl
theorem r_MRm_operand_144 {a : Nat} {x : Int32} (hq : qI a 10 20 = true) : Rr X d MRm_operand 144 L (.int x :: .ref a :: st) (Wd mu la ro et) = Rr X d MRm_operand 147 L st (Wd (up2 mu a 20 x) la ro et) := R_pfI d_MRm_operand_144 ff_10_200 hq
theorem r_MRm_operand_147 : Rr X d MRm_operand 147 L st h = Rr X d MRm_operand 154 L st h := R_goto d_MRm_operand_147 (by decide)
theorem r_MRm_operand_150 {l1 : Value} {x : Nat} : Rr X d MRm_operand 150 [.ref x, l1] st h = Rr X d MRm_operand 151 [.ref x, l1] (.ref x :: st) h := Rr_nx d_MRm_operand_150 rfl
theorem fc_10_226 : fC 10 226 = some (0, 10, 0, MRm_figure) := rfl
theorem r_MRm_operand_151 {a : Nat} (hO : qO a 10 = true) (hc : ckS st = true) : Rr X (d + 1) MRm_operand 151 L (.ref a :: st) (Wd mu la ro et) = (Rr X d MRm_figure 0 [.ref a, mkU, mkU] [] (Wd mu la ro et)).bind fun q => Rr X (d + 1) MRm_operand 154 L (psh q.1 st) q.2 := R_iv (av := []) d_MRm_operand_151 fc_10_226 hO (ckS_le hc) rfl (Nat.le_of_ble_eq_true rfl) (Nat.le_of_ble_eq_true rfl)
theorem r_MRm_operand_154 : Rr X d MRm_operand 154 L [] h = some (none, h) := Rr_rt d_MRm_operand_154 rfl
theorem d_MRm_product_0 : decode MRm_product.2.2.1 0 = .ok (.aload_n 0, 1) := lkT_ok tk_MRm_product rfl
theorem d_MRm_product_1 : decode MRm_product.2.2.1 1 = .ok (.invokevirtual 220, 3) := lkT_ok tk_MRm_product rfl
theorem d_MRm_product_4 : decode MRm_product.2.2.1 4 = .ok (.aload_n 0, 1) := lkT_ok tk_MRm_product rfl
theorem d_MRm_product_5 : decode MRm_product.2.2.1 5 = .ok (.getfield 117, 3) := lkT_ok tk_MRm_product rfl
theorem d_MRm_product_8 : decode MRm_product.2.2.1 8 = .ok (.ifCond .ge 58, 3) := lkT_ok tk_MRm_product rfl
theorem d_MRm_product_11 : decode MRm_product.2.2.1 11 = .ok (.aload_n 0, 1) := lkT_ok tk_MRm_product rfl
theorem d_MRm_product_12 : decode MRm_product.2.2.1 12 = .ok (.invokevirtual 206, 3) := lkT_ok tk_MRm_product rfl
theorem d_MRm_product_15 : decode MRm_product.2.2.1 15 = .ok (.bipush 42, 2) := lkT_ok tk_MRm_product rfl
theorem d_MRm_product_17 : decode MRm_product.2.2.1 17 = .ok (.if_icmp .eq 21, 3) := lkT_ok tk_MRm_product rfl
theorem d_MRm_product_20 : decode MRm_product.2.2.1 20 = .ok (.aload_n 0, 1) := lkT_ok tk_MRm_product rfl
theorem d_MRm_product_21 : decode MRm_product.2.2.1 21 = .ok (.invokevirtual 206, 3) := lkT_ok tk_MRm_product rfl
theorem d_MRm_product_24 : decode MRm_product.2.2.1 24 = .ok (.bipush 47, 2) := lkT_ok tk_MRm_product rfl
theorem d_MRm_product_26 : decode MRm_product.2.2.1 26 = .ok (.if_icmp .eq 12, 3) := lkT_ok tk_MRm_product rfl
theorem d_MRm_product_29 : decode MRm_product.2.2.1 29 = .ok (.aload_n 0, 1) := lkT_ok tk_MRm_product rfl
theorem d_MRm_product_30 : decode MRm_product.2.2.1 30 = .ok (.invokevirtual 206, 3) := lkT_ok tk_MRm_product rfl
theorem d_MRm_product_33 : decode MRm_product.2.2.1 33 = .ok (.bipush 37, 2) := lkT_ok tk_MRm_product rfl
theorem d_MRm_product_35 : decode MRm_product.2.2.1 35 = .ok (.if_icmp .ne 31, 3) := lkT_ok tk_MRm_product rfl
theorem d_MRm_product_38 : decode MRm_product.2.2.1 38 = .ok (.aload_n 0, 1) := lkT_ok tk_MRm_product rfl
theorem d_MRm_product_39 : decode MRm_product.2.2.1 39 = .ok (.invokevirtual 206, 3) := lkT_ok tk_MRm_product rfl
theorem d_MRm_product_42 : decode MRm_product.2.2.1 42 = .ok (.istore_n 1, 1) := lkT_ok tk_MRm_product rfl
theorem d_MRm_product_43 : decode MRm_product.2.2.1 43 = .ok (.aload_n 0, 1) := lkT_ok tk_MRm_product rfl
theorem d_MRm_product_44 : decode MRm_product.2.2.1 44 = .ok (.dup, 1) := lkT_ok tk_MRm_product rfl
theorem d_MRm_product_45 : decode MRm_product.2.2.1 45 = .ok (.getfield 120, 3) := lkT_ok tk_MRm_product rfl
theorem d_MRm_product_48 : decode MRm_product.2.2.1 48 = .ok (.iconst 1, 1) := lkT_ok tk_MRm_product rfl
theorem d_MRm_product_49 : decode MRm_product.2.2.1 49 = .ok (.iadd, 1) := lkT_ok tk_MRm_product rfl
theorem d_MRm_product_50 : decode MRm_product.2.2.1 50 = .ok (.putfield 120, 3) := lkT_ok tk_MRm_product rfl
theorem d_MRm_product_53 : decode MRm_product.2.2.1 53 = .ok (.aload_n 0, 1) := lkT_ok tk_MRm_product rfl
theorem d_MRm_product_54 : decode MRm_product.2.2.1 54 = .ok (.invokevirtual 220, 3) := lkT_ok tk_MRm_product rfl
theorem d_MRm_product_57 : decode MRm_product.2.2.1 57 = .ok (.aload_n 0, 1) := lkT_ok tk_MRm_product rfl
theorem d_MRm_product_58 : decode MRm_product.2.2.1 58 = .ok (.iload_n 1, 1) := lkT_ok tk_MRm_product rfl
theorem d_MRm_product_59 : decode MRm_product.2.2.1 59 = .ok (.iconst 0, 1) := lkT_ok tk_MRm_product rfl
theorem d_MRm_product_60 : decode MRm_product.2.2.1 60 = .ok (.invokevirtual 209, 3) := lkT_ok tk_MRm_product rfl
theorem d_MRm_product_63 : decode MRm_product.2.2.1 63 = .ok (.goto (-59), 3) := lkT_ok tk_MRm_product rfl
theorem d_MRm_product_66 : decode MRm_product.2.2.1 66 = .ok (.return_, 1) := lkT_ok tk_MRm_product rfl
theorem r_MRm_product_0 {l1 : Value} {x : Nat} : Rr X d MRm_product 0 [.ref x, l1] st h = Rr X d MRm_product 1 [.ref x, l1] (.ref x :: st) h := Rr_nx d_MRm_product_0 rfl
theorem r_MRm_product_1 {a : Nat} (hO : qO a 10 = true) (hc : ckS st = true) : Rr X (d + 1) MRm_product 1 L (.ref a :: st) (Wd mu la ro et) = (Rr X d MRm_operand 0 [.ref a, mkU] [] (Wd mu la ro et)).bind fun q => Rr X (d + 1) MRm_product 4 L (psh q.1 st) q.2 := R_iv (av := []) d_MRm_product_1 fc_10_220 hO (ckS_le hc) rfl (Nat.le_of_ble_eq_true rfl) (Nat.le_of_ble_eq_true rfl)
theorem r_MRm_product_4 {l1 : Value} {x : Nat} : Rr X d MRm_product 4 [.ref x, l1] st h = Rr X d MRm_product 5 [.ref x, l1] (.ref x :: st) h := Rr_nx d_MRm_product_4 rfl
theorem r_MRm_product_5 {a : Nat} (hq : qI a 10 19 = true) : Rr X d MRm_product 5 L (.ref a :: st) (Wd mu la ro et) = Rr X d MRm_product 8 L (.int (mu a 19) :: st) (Wd mu la ro et) := R_gfI d_MRm_product_5 ff_10_117 hq
theorem r_MRm_product_8 {x : Int32} : Rr X d MRm_product 8 L (.int x :: st) h = if 0 ≤ x then Rr X d MRm_product 66 L st h else Rr X d MRm_product 11 L st h := R_if_ge d_MRm_product_8 (by decide)
theorem r_MRm_product_11 {l1 : Value} {x : Nat} : Rr X d MRm_product 11 [.ref x, l1] st h = Rr X d MRm_product 12 [.ref x, l1] (.ref x :: st) h := Rr_nx d_MRm_product_11 rfl
theorem r_MRm_product_12 {a : Nat} (hO : qO a 10 = true) (hc : ckS st = true) : Rr X (d + 1) MRm_product 12 L (.ref a :: st) (Wd mu la ro et) = (Rr X d MRm_look 0 [.ref a] [] (Wd mu la ro et)).bind fun q => Rr X (d + 1) MRm_product 15 L (psh q.1 st) q.2 := R_iv (av := []) d_MRm_product_12 fc_10_206 hO (ckS_le hc) rfl (Nat.le_of_ble_eq_true rfl) (Nat.le_of_ble_eq_true rfl)
theorem r_MRm_product_15 : Rr X d MRm_product 15 L st h = Rr X d MRm_product 17 L (.int (42) :: st) h := Rr_nx d_MRm_product_15 rfl
theorem r_MRm_product_17 {x y : Int32} : Rr X d MRm_product 17 L (.int y :: .int x :: st) h = if x = y then Rr X d MRm_product 38 L st h else Rr X d MRm_product 20 L st h := R_ic_eq d_MRm_product_17 (by decide)
theorem r_MRm_product_20 {l1 : Value} {x : Nat} : Rr X d MRm_product 20 [.ref x, l1] st h = Rr X d MRm_product 21 [.ref x, l1] (.ref x :: st) h := Rr_nx d_MRm_product_20 rfl
theorem r_MRm_product_21 {a : Nat} (hO : qO a 10 = true) (hc : ckS st = true) : Rr X (d + 1) MRm_product 21 L (.ref a :: st) (Wd mu la ro et) = (Rr X d MRm_look 0 [.ref a] [] (Wd mu la ro et)).bind fun q => Rr X (d + 1) MRm_product 24 L (psh q.1 st) q.2 := R_iv (av := []) d_MRm_product_21 fc_10_206 hO (ckS_le hc) rfl (Nat.le_of_ble_eq_true rfl) (Nat.le_of_ble_eq_true rfl)
theorem r_MRm_product_24 : Rr X d MRm_product 24 L st h = Rr X d MRm_product 26 L (.int (47) :: st) h := Rr_nx d_MRm_product_24 rfl
theorem r_MRm_product_26 {x y : Int32} : Rr X d MRm_product 26 L (.int y :: .int x :: st) h = if x = y then Rr X d MRm_product 38 L st h else Rr X d MRm_product 29 L st h := R_ic_eq d_MRm_product_26 (by decide)
theorem r_MRm_product_29 {l1 : Value} {x : Nat} : Rr X d MRm_product 29 [.ref x, l1] st h = Rr X d MRm_product 30 [.ref x, l1] (.ref x :: st) h := Rr_nx d_MRm_product_29 rfl
theorem r_MRm_product_30 {a : Nat} (hO : qO a 10 = true) (hc : ckS st = true) : Rr X (d + 1) MRm_product 30 L (.ref a :: st) (Wd mu la ro et) = (Rr X d MRm_look 0 [.ref a] [] (Wd mu la ro et)).bind fun q => Rr X (d + 1) MRm_product 33 L (psh q.1 st) q.2 := R_iv (av := []) d_MRm_product_30 fc_10_206 hO (ckS_le hc) rfl (Nat.le_of_ble_eq_true rfl) (Nat.le_of_ble_eq_true rfl)
theorem r_MRm_product_33 : Rr X d MRm_product 33 L st h = Rr X d MRm_product 35 L (.int (37) :: st) h := Rr_nx d_MRm_product_33 rfl
theorem r_MRm_product_35 {x y : Int32} : Rr X d MRm_product 35 L (.int y :: .int x :: st) h = if ¬ x = y then Rr X d MRm_product 66 L st h else Rr X d MRm_product 38 L st h := R_ic_ne d_MRm_product_35 (by decide)
theorem r_MRm_product_38 {l1 : Value} {x : Nat} : Rr X d MRm_product 38 [.ref x, l1] st h = Rr X d MRm_product 39 [.ref x, l1] (.ref x :: st) h := Rr_nx d_MRm_product_38 rfl
theorem r_MRm_product_39 {a : Nat} (hO : qO a 10 = true) (hc : ckS st = true) : Rr X (d + 1) MRm_product 39 L (.ref a :: st) (Wd mu la ro et) = (Rr X d MRm_look 0 [.ref a] [] (Wd mu la ro et)).bind fun q => Rr X (d + 1) MRm_product 42 L (psh q.1 st) q.2 := R_iv (av := []) d_MRm_product_39 fc_10_206 hO (ckS_le hc) rfl (Nat.le_of_ble_eq_true rfl) (Nat.le_of_ble_eq_true rfl)
theorem r_MRm_product_42 {l0 l1 : Value} {x : Int32} : Rr X d MRm_product 42 [l0, l1] (.int x :: st) h = Rr X d MRm_product 43 (sL [l0, l1] 1 (.int x)) st h := Rr_nx d_MRm_product_42 rfl
theorem r_MRm_product_43 {l1 : Value} {x : Nat} : Rr X d MRm_product 43 [.ref x, l1] st h = Rr X d MRm_product 44 [.ref x, l1] (.ref x :: st) h := Rr_nx d_MRm_product_43 rfl
theorem r_MRm_product_44 {x : Nat} : Rr X d MRm_product 44 L (.ref x :: st) h = Rr X d MRm_product 45 L (.ref x :: .ref x :: st) h := Rr_nx d_MRm_product_44 rfl
theorem r_MRm_product_44i {x : Int32} : Rr X d MRm_product 44 L (.int x :: st) h = Rr X d MRm_product 45 L (.int x :: .int x :: st) h := Rr_nx d_MRm_product_44 rfl
theorem r_MRm_product_45 {a : Nat} (hq : qI a 10 18 = true) : Rr X d MRm_product 45 L (.ref a :: st) (Wd mu la ro et) = Rr X d MRm_product 48 L (.int (mu a 18) :: st) (Wd mu la ro et) := R_gfI d_MRm_product_45 ff_10_120 hq
theorem r_MRm_product_48 : Rr X d MRm_product 48 L st h = Rr X d MRm_product 49 L (.int (1) :: st) h := Rr_nx d_MRm_product_48 rfl
theorem r_MRm_product_49 {x y : Int32} : Rr X d MRm_product 49 L (.int y :: .int x :: st) h = Rr X d MRm_product 50 L (.int (x + y) :: st) h := Rr_nx d_MRm_product_49 rfl
theorem r_MRm_product_50 {a : Nat} {x : Int32} (hq : qI a 10 18 = true) : Rr X d MRm_product 50 L (.int x :: .ref a :: st) (Wd mu la ro et) = Rr X d MRm_product 53 L st (Wd (up2 mu a 18 x) la ro et) := R_pfI d_MRm_product_50 ff_10_120 hq
theorem r_MRm_product_53 {l1 : Value} {x : Nat} : Rr X d MRm_product 53 [.ref x, l1] st h = Rr X d MRm_product 54 [.ref x, l1] (.ref x :: st) h := Rr_nx d_MRm_product_53 rfl
theorem r_MRm_product_54 {a : Nat} (hO : qO a 10 = true) (hc : ckS st = true) : Rr X (d + 1) MRm_product 54 L (.ref a :: st) (Wd mu la ro et) = (Rr X d MRm_operand 0 [.ref a, mkU] [] (Wd mu la ro et)).bind fun q => Rr X (d + 1) MRm_product 57 L (psh q.1 st) q.2 := R_iv (av := []) d_MRm_product_54 fc_10_220 hO (ckS_le hc) rfl (Nat.le_of_ble_eq_true rfl) (Nat.le_of_ble_eq_true rfl)
theorem r_MRm_product_57 {l1 : Value} {x : Nat} : Rr X d MRm_product 57 [.ref x, l1] st h = Rr X d MRm_product 58 [.ref x, l1] (.ref x :: st) h := Rr_nx d_MRm_product_57 rfl
theorem r_MRm_product_58 {l0 : Value} {x : Int32} : Rr X d MRm_product 58 [l0, .int x] st h = Rr X d MRm_product 59 [l0, .int x] (.int x :: st) h := Rr_nx d_MRm_product_58 rfl
theorem r_MRm_product_59 : Rr X d MRm_product 59 L st h = Rr X d MRm_product 60 L (.int (0) :: st) h := Rr_nx d_MRm_product_59 rfl
theorem r_MRm_product_60 {y0 : Int32} {y1 : Int32} {a : Nat} (hO : qO a 10 = true) (hc : ckS st = true) : Rr X (d + 1) MRm_product 60 L (.int y1 :: .int y0 :: .ref a :: st) (Wd mu la ro et) = (Rr X d MRm_addStep 0 [.ref a, .int y0, .int y1] [] (Wd mu la ro et)).bind fun q => Rr X (d + 1) MRm_product 63 L (psh q.1 st) q.2 := R_iv (av := [.int y1, .int y0]) d_MRm_product_60 fc_10_209 hO (ckS_le hc) rfl (Nat.le_of_ble_eq_true rfl) (Nat.le_of_ble_eq_true rfl)
theorem r_MRm_product_63 : Rr X d MRm_product 63 L st h = Rr X d MRm_product 4 L st h := R_goto d_MRm_product_63 (by decide)
theorem r_MRm_product_66 : Rr X d MRm_product 66 L [] h = some (none, h) := Rr_rt d_MRm_product_66 rfl
theorem d_MRm_sum_0 : decode MRm_sum.2.2.1 0 = .ok (.aload_n 0, 1) := lkT_ok tk_MRm_sum rfl
theorem d_MRm_sum_1 : decode MRm_sum.2.2.1 1 = .ok (.invokevirtual 229, 3) := lkT_ok tk_MRm_sum rfl
theorem d_MRm_sum_4 : decode MRm_sum.2.2.1 4 = .ok (.aload_n 0, 1) := lkT_ok tk_MRm_sum rfl
theorem d_MRm_sum_5 : decode MRm_sum.2.2.1 5 = .ok (.getfield 117, 3) := lkT_ok tk_MRm_sum rfl
theorem d_MRm_sum_8 : decode MRm_sum.2.2.1 8 = .ok (.ifCond .ge 49, 3) := lkT_ok tk_MRm_sum rfl
theorem d_MRm_sum_11 : decode MRm_sum.2.2.1 11 = .ok (.aload_n 0, 1) := lkT_ok tk_MRm_sum rfl
theorem d_MRm_sum_12 : decode MRm_sum.2.2.1 12 = .ok (.invokevirtual 206, 3) := lkT_ok tk_MRm_sum rfl
theorem d_MRm_sum_15 : decode MRm_sum.2.2.1 15 = .ok (.bipush 43, 2) := lkT_ok tk_MRm_sum rfl
theorem d_MRm_sum_17 : decode MRm_sum.2.2.1 17 = .ok (.if_icmp .eq 12, 3) := lkT_ok tk_MRm_sum rfl
theorem d_MRm_sum_20 : decode MRm_sum.2.2.1 20 = .ok (.aload_n 0, 1) := lkT_ok tk_MRm_sum rfl
theorem d_MRm_sum_21 : decode MRm_sum.2.2.1 21 = .ok (.invokevirtual 206, 3) := lkT_ok tk_MRm_sum rfl
theorem d_MRm_sum_24 : decode MRm_sum.2.2.1 24 = .ok (.bipush 45, 2) := lkT_ok tk_MRm_sum rfl
theorem d_MRm_sum_26 : decode MRm_sum.2.2.1 26 = .ok (.if_icmp .ne 31, 3) := lkT_ok tk_MRm_sum rfl
theorem d_MRm_sum_29 : decode MRm_sum.2.2.1 29 = .ok (.aload_n 0, 1) := lkT_ok tk_MRm_sum rfl
theorem d_MRm_sum_30 : decode MRm_sum.2.2.1 30 = .ok (.invokevirtual 206, 3) := lkT_ok tk_MRm_sum rfl
theorem d_MRm_sum_33 : decode MRm_sum.2.2.1 33 = .ok (.istore_n 1, 1) := lkT_ok tk_MRm_sum rfl
theorem d_MRm_sum_34 : decode MRm_sum.2.2.1 34 = .ok (.aload_n 0, 1) := lkT_ok tk_MRm_sum rfl
theorem d_MRm_sum_35 : decode MRm_sum.2.2.1 35 = .ok (.dup, 1) := lkT_ok tk_MRm_sum rfl
theorem d_MRm_sum_36 : decode MRm_sum.2.2.1 36 = .ok (.getfield 120, 3) := lkT_ok tk_MRm_sum rfl
theorem d_MRm_sum_39 : decode MRm_sum.2.2.1 39 = .ok (.iconst 1, 1) := lkT_ok tk_MRm_sum rfl
theorem d_MRm_sum_40 : decode MRm_sum.2.2.1 40 = .ok (.iadd, 1) := lkT_ok tk_MRm_sum rfl
theorem d_MRm_sum_41 : decode MRm_sum.2.2.1 41 = .ok (.putfield 120, 3) := lkT_ok tk_MRm_sum rfl
theorem d_MRm_sum_44 : decode MRm_sum.2.2.1 44 = .ok (.aload_n 0, 1) := lkT_ok tk_MRm_sum rfl
theorem d_MRm_sum_45 : decode MRm_sum.2.2.1 45 = .ok (.invokevirtual 229, 3) := lkT_ok tk_MRm_sum rfl
theorem d_MRm_sum_48 : decode MRm_sum.2.2.1 48 = .ok (.aload_n 0, 1) := lkT_ok tk_MRm_sum rfl
theorem d_MRm_sum_49 : decode MRm_sum.2.2.1 49 = .ok (.iload_n 1, 1) := lkT_ok tk_MRm_sum rfl
theorem d_MRm_sum_50 : decode MRm_sum.2.2.1 50 = .ok (.iconst 0, 1) := lkT_ok tk_MRm_sum rfl
theorem d_MRm_sum_51 : decode MRm_sum.2.2.1 51 = .ok (.invokevirtual 209, 3) := lkT_ok tk_MRm_sum rfl
theorem d_MRm_sum_54 : decode MRm_sum.2.2.1 54 = .ok (.goto (-50), 3) := lkT_ok tk_MRm_sum rfl
theorem d_MRm_sum_57 : decode MRm_sum.2.2.1 57 = .ok (.return_, 1) := lkT_ok tk_MRm_sum rfl
theorem r_MRm_sum_0 {l1 : Value} {x : Nat} : Rr X d MRm_sum 0 [.ref x, l1] st h = Rr X d MRm_sum 1 [.ref x, l1] (.ref x :: st) h := Rr_nx d_MRm_sum_0 rfl
theorem fc_10_229 : fC 10 229 = some (0, 10, 0, MRm_product) := rfl
theorem r_MRm_sum_1 {a : Nat} (hO : qO a 10 = true) (hc : ckS st = true) : Rr X (d + 1) MRm_sum 1 L (.ref a :: st) (Wd mu la ro et) = (Rr X d MRm_product 0 [.ref a, mkU] [] (Wd mu la ro et)).bind fun q => Rr X (d + 1) MRm_sum 4 L (psh q.1 st) q.2 := R_iv (av := []) d_MRm_sum_1 fc_10_229 hO (ckS_le hc) rfl (Nat.le_of_ble_eq_true rfl) (Nat.le_of_ble_eq_true rfl)
theorem r_MRm_sum_4 {l1 : Value} {x : Nat} : Rr X d MRm_sum 4 [.ref x, l1] st h = Rr X d MRm_sum 5 [.ref x, l1] (.ref x :: st) h := Rr_nx d_MRm_sum_4 rfl
theorem r_MRm_sum_5 {a : Nat} (hq : qI a 10 19 = true) : Rr X d MRm_sum 5 L (.ref a :: st) (Wd mu la ro et) = Rr X d MRm_sum 8 L (.int (mu a 19) :: st) (Wd mu la ro et) := R_gfI d_MRm_sum_5 ff_10_117 hq
theorem r_MRm_sum_8 {x : Int32} : Rr X d MRm_sum 8 L (.int x :: st) h = if 0 ≤ x then Rr X d MRm_sum 57 L st h else Rr X d MRm_sum 11 L st h := R_if_ge d_MRm_sum_8 (by decide)
theorem r_MRm_sum_11 {l1 : Value} {x : Nat} : Rr X d MRm_sum 11 [.ref x, l1] st h = Rr X d MRm_sum 12 [.ref x, l1] (.ref x :: st) h := Rr_nx d_MRm_sum_11 rfl
theorem r_MRm_sum_12 {a : Nat} (hO : qO a 10 = true) (hc : ckS st = true) : Rr X (d + 1) MRm_sum 12 L (.ref a :: st) (Wd mu la ro et) = (Rr X d MRm_look 0 [.ref a] [] (Wd mu la ro et)).bind fun q => Rr X (d + 1) MRm_sum 15 L (psh q.1 st) q.2 := R_iv (av := []) d_MRm_sum_12 fc_10_206 hO (ckS_le hc) rfl (Nat.le_of_ble_eq_true rfl) (Nat.le_of_ble_eq_true rfl)
theorem r_MRm_sum_15 : Rr X d MRm_sum 15 L st h = Rr X d MRm_sum 17 L (.int (43) :: st) h := Rr_nx d_MRm_sum_15 rfl
theorem r_MRm_sum_17 {x y : Int32} : Rr X d MRm_sum 17 L (.int y :: .int x :: st) h = if x = y then Rr X d MRm_sum 29 L st h else Rr X d MRm_sum 20 L st h := R_ic_eq d_MRm_sum_17 (by decide)
theorem r_MRm_sum_20 {l1 : Value} {x : Nat} : Rr X d MRm_sum 20 [.ref x, l1] st h = Rr X d MRm_sum 21 [.ref x, l1] (.ref x :: st) h := Rr_nx d_MRm_sum_20 rfl
theorem r_MRm_sum_21 {a : Nat} (hO : qO a 10 = true) (hc : ckS st = true) : Rr X (d + 1) MRm_sum 21 L (.ref a :: st) (Wd mu la ro et) = (Rr X d MRm_look 0 [.ref a] [] (Wd mu la ro et)).bind fun q => Rr X (d + 1) MRm_sum 24 L (psh q.1 st) q.2 := R_iv (av := []) d_MRm_sum_21 fc_10_206 hO (ckS_le hc) rfl (Nat.le_of_ble_eq_true rfl) (Nat.le_of_ble_eq_true rfl)
theorem r_MRm_sum_24 : Rr X d MRm_sum 24 L st h = Rr X d MRm_sum 26 L (.int (45) :: st) h := Rr_nx d_MRm_sum_24 rfl
theorem r_MRm_sum_26 {x y : Int32} : Rr X d MRm_sum 26 L (.int y :: .int x :: st) h = if ¬ x = y then Rr X d MRm_sum 57 L st h else Rr X d MRm_sum 29 L st h := R_ic_ne d_MRm_sum_26 (by decide)
theorem r_MRm_sum_29 {l1 : Value} {x : Nat} : Rr X d MRm_sum 29 [.ref x, l1] st h = Rr X d MRm_sum 30 [.ref x, l1] (.ref x :: st) h := Rr_nx d_MRm_sum_29 rfl
theorem r_MRm_sum_30 {a : Nat} (hO : qO a 10 = true) (hc : ckS st = true) : Rr X (d + 1) MRm_sum 30 L (.ref a :: st) (Wd mu la ro et) = (Rr X d MRm_look 0 [.ref a] [] (Wd mu la ro et)).bind fun q => Rr X (d + 1) MRm_sum 33 L (psh q.1 st) q.2 := R_iv (av := []) d_MRm_sum_30 fc_10_206 hO (ckS_le hc) rfl (Nat.le_of_ble_eq_true rfl) (Nat.le_of_ble_eq_true rfl)
theorem r_MRm_sum_33 {l0 l1 : Value} {x : Int32} : Rr X d MRm_sum 33 [l0, l1] (.int x :: st) h = Rr X d MRm_sum 34 (sL [l0, l1] 1 (.int x)) st h := Rr_nx d_MRm_sum_33 rfl
theorem r_MRm_sum_34 {l1 : Value} {x : Nat} : Rr X d MRm_sum 34 [.ref x, l1] st h = Rr X d MRm_sum 35 [.ref x, l1] (.ref x :: st) h := Rr_nx d_MRm_sum_34 rfl
theorem r_MRm_sum_35 {x : Nat} : Rr X d MRm_sum 35 L (.ref x :: st) h = Rr X d MRm_sum 36 L (.ref x :: .ref x :: st) h := Rr_nx d_MRm_sum_35 rfl
theorem r_MRm_sum_35i {x : Int32} : Rr X d MRm_sum 35 L (.int x :: st) h = Rr X d MRm_sum 36 L (.int x :: .int x :: st) h := Rr_nx d_MRm_sum_35 rfl
theorem r_MRm_sum_36 {a : Nat} (hq : qI a 10 18 = true) : Rr X d MRm_sum 36 L (.ref a :: st) (Wd mu la ro et) = Rr X d MRm_sum 39 L (.int (mu a 18) :: st) (Wd mu la ro et) := R_gfI d_MRm_sum_36 ff_10_120 hq
theorem r_MRm_sum_39 : Rr X d MRm_sum 39 L st h = Rr X d MRm_sum 40 L (.int (1) :: st) h := Rr_nx d_MRm_sum_39 rfl
theorem r_MRm_sum_40 {x y : Int32} : Rr X d MRm_sum 40 L (.int y :: .int x :: st) h = Rr X d MRm_sum 41 L (.int (x + y) :: st) h := Rr_nx d_MRm_sum_40 rfl
theorem r_MRm_sum_41 {a : Nat} {x : Int32} (hq : qI a 10 18 = true) : Rr X d MRm_sum 41 L (.int x :: .ref a :: st) (Wd mu la ro et) = Rr X d MRm_sum 44 L st (Wd (up2 mu a 18 x) la ro et) := R_pfI d_MRm_sum_41 ff_10_120 hq
theorem r_MRm_sum_44 {l1 : Value} {x : Nat} : Rr X d MRm_sum 44 [.ref x, l1] st h = Rr X d MRm_sum 45 [.ref x, l1] (.ref x :: st) h := Rr_nx d_MRm_sum_44 rfl
theorem r_MRm_sum_45 {a : Nat} (hO : qO a 10 = true) (hc : ckS st = true) : Rr X (d + 1) MRm_sum 45 L (.ref a :: st) (Wd mu la ro et) = (Rr X d MRm_product 0 [.ref a, mkU] [] (Wd mu la ro et)).bind fun q => Rr X (d + 1) MRm_sum 48 L (psh q.1 st) q.2 := R_iv (av := []) d_MRm_sum_45 fc_10_229 hO (ckS_le hc) rfl (Nat.le_of_ble_eq_true rfl) (Nat.le_of_ble_eq_true rfl)
theorem r_MRm_sum_48 {l1 : Value} {x : Nat} : Rr X d MRm_sum 48 [.ref x, l1] st h = Rr X d MRm_sum 49 [.ref x, l1] (.ref x :: st) h := Rr_nx d_MRm_sum_48 rfl
theorem r_MRm_sum_49 {l0 : Value} {x : Int32} : Rr X d MRm_sum 49 [l0, .int x] st h = Rr X d MRm_sum 50 [l0, .int x] (.int x :: st) h := Rr_nx d_MRm_sum_49 rfl
theorem r_MRm_sum_50 : Rr X d MRm_sum 50 L st h = Rr X d MRm_sum 51 L (.int (0) :: st) h := Rr_nx d_MRm_sum_50 rfl
theorem r_MRm_sum_51 {y0 : Int32} {y1 : Int32} {a : Nat} (hO : qO a 10 = true) (hc : ckS st = true) : Rr X (d + 1) MRm_sum 51 L (.int y1 :: .int y0 :: .ref a :: st) (Wd mu la ro et) = (Rr X d MRm_addStep 0 [.ref a, .int y0, .int y1] [] (Wd mu la ro et)).bind fun q => Rr X (d + 1) MRm_sum 54 L (psh q.1 st) q.2 := R_iv (av := [.int y1, .int y0]) d_MRm_sum_51 fc_10_209 hO (ckS_le hc) rfl (Nat.le_of_ble_eq_true rfl) (Nat.le_of_ble_eq_true rfl)
theorem r_MRm_sum_54 : Rr X d MRm_sum 54 L st h = Rr X d MRm_sum 4 L st h := R_goto d_MRm_sum_54 (by decide)
theorem r_MRm_sum_57 : Rr X d MRm_sum 57 L [] h = some (none, h) := Rr_rt d_MRm_sum_57 rfl
theorem d_MRm_compared_0 : decode MRm_compared.2.2.1 0 = .ok (.aload_n 0, 1) := lkT_ok tk_MRm_compared rfl
theorem d_MRm_compared_1 : decode MRm_compared.2.2.1 1 = .ok (.invokevirtual 232, 3) := lkT_ok tk_MRm_compared rfl
theorem d_MRm_compared_4 : decode MRm_compared.2.2.1 4 = .ok (.aload_n 0, 1) := lkT_ok tk_MRm_compared rfl
theorem d_MRm_compared_5 : decode MRm_compared.2.2.1 5 = .ok (.invokevirtual 206, 3) := lkT_ok tk_MRm_compared rfl
theorem d_MRm_compared_8 : decode MRm_compared.2.2.1 8 = .ok (.istore_n 1, 1) := lkT_ok tk_MRm_compared rfl
theorem d_MRm_compared_9 : decode MRm_compared.2.2.1 9 = .ok (.aload_n 0, 1) := lkT_ok tk_MRm_compared rfl
theorem d_MRm_compared_10 : decode MRm_compared.2.2.1 10 = .ok (.getfield 117, 3) := lkT_ok tk_MRm_compared rfl
theorem d_MRm_compared_13 : decode MRm_compared.2.2.1 13 = .ok (.ifCond .ge 21, 3) := lkT_ok tk_MRm_compared rfl
theorem d_MRm_compared_16 : decode MRm_compared.2.2.1 16 = .ok (.iload_n 1, 1) := lkT_ok tk_MRm_compared rfl
theorem d_MRm_compared_17 : decode MRm_compared.2.2.1 17 = .ok (.bipush 60, 2) := lkT_ok tk_MRm_compared rfl
theorem d_MRm_compared_19 : decode MRm_compared.2.2.1 19 = .ok (.if_icmp .eq 16, 3) := lkT_ok tk_MRm_compared rfl
theorem d_MRm_compared_22 : decode MRm_compared.2.2.1 22 = .ok (.iload_n 1, 1) := lkT_ok tk_MRm_compared rfl
theorem d_MRm_compared_23 : decode MRm_compared.2.2.1 23 = .ok (.bipush 61, 2) := lkT_ok tk_MRm_compared rfl
theorem d_MRm_compared_25 : decode MRm_compared.2.2.1 25 = .ok (.if_icmp .eq 10, 3) := lkT_ok tk_MRm_compared rfl
theorem d_MRm_compared_28 : decode MRm_compared.2.2.1 28 = .ok (.iload_n 1, 1) := lkT_ok tk_MRm_compared rfl
theorem d_MRm_compared_29 : decode MRm_compared.2.2.1 29 = .ok (.bipush 62, 2) := lkT_ok tk_MRm_compared rfl
theorem d_MRm_compared_31 : decode MRm_compared.2.2.1 31 = .ok (.if_icmp .eq 4, 3) := lkT_ok tk_MRm_compared rfl
theorem d_MRm_compared_34 : decode MRm_compared.2.2.1 34 = .ok (.return_, 1) := lkT_ok tk_MRm_compared rfl
theorem d_MRm_compared_35 : decode MRm_compared.2.2.1 35 = .ok (.aload_n 0, 1) := lkT_ok tk_MRm_compared rfl
theorem d_MRm_compared_36 : decode MRm_compared.2.2.1 36 = .ok (.dup, 1) := lkT_ok tk_MRm_compared rfl
theorem d_MRm_compared_37 : decode MRm_compared.2.2.1 37 = .ok (.getfield 120, 3) := lkT_ok tk_MRm_compared rfl
theorem d_MRm_compared_40 : decode MRm_compared.2.2.1 40 = .ok (.iconst 1, 1) := lkT_ok tk_MRm_compared rfl
theorem d_MRm_compared_41 : decode MRm_compared.2.2.1 41 = .ok (.iadd, 1) := lkT_ok tk_MRm_compared rfl
theorem d_MRm_compared_42 : decode MRm_compared.2.2.1 42 = .ok (.putfield 120, 3) := lkT_ok tk_MRm_compared rfl
theorem d_MRm_compared_45 : decode MRm_compared.2.2.1 45 = .ok (.aload_n 0, 1) := lkT_ok tk_MRm_compared rfl
theorem d_MRm_compared_46 : decode MRm_compared.2.2.1 46 = .ok (.invokevirtual 232, 3) := lkT_ok tk_MRm_compared rfl
theorem d_MRm_compared_49 : decode MRm_compared.2.2.1 49 = .ok (.aload_n 0, 1) := lkT_ok tk_MRm_compared rfl
theorem d_MRm_compared_50 : decode MRm_compared.2.2.1 50 = .ok (.iload_n 1, 1) := lkT_ok tk_MRm_compared rfl
theorem d_MRm_compared_51 : decode MRm_compared.2.2.1 51 = .ok (.iconst 0, 1) := lkT_ok tk_MRm_compared rfl
theorem d_MRm_compared_52 : decode MRm_compared.2.2.1 52 = .ok (.invokevirtual 209, 3) := lkT_ok tk_MRm_compared rfl
theorem d_MRm_compared_55 : decode MRm_compared.2.2.1 55 = .ok (.return_, 1) := lkT_ok tk_MRm_compared rfl
theorem r_MRm_compared_0 {l1 : Value} {x : Nat} : Rr X d MRm_compared 0 [.ref x, l1] st h = Rr X d MRm_compared 1 [.ref x, l1] (.ref x :: st) h := Rr_nx d_MRm_compared_0 rfl
theorem fc_10_232 : fC 10 232 = some (0, 10, 0, MRm_sum) := rfl
theorem r_MRm_compared_1 {a : Nat} (hO : qO a 10 = true) (hc : ckS st = true) : Rr X (d + 1) MRm_compared 1 L (.ref a :: st) (Wd mu la ro et) = (Rr X d MRm_sum 0 [.ref a, mkU] [] (Wd mu la ro et)).bind fun q => Rr X (d + 1) MRm_compared 4 L (psh q.1 st) q.2 := R_iv (av := []) d_MRm_compared_1 fc_10_232 hO (ckS_le hc) rfl (Nat.le_of_ble_eq_true rfl) (Nat.le_of_ble_eq_true rfl)
theorem r_MRm_compared_4 {l1 : Value} {x : Nat} : Rr X d MRm_compared 4 [.ref x, l1] st h = Rr X d MRm_compared 5 [.ref x, l1] (.ref x :: st) h := Rr_nx d_MRm_compared_4 rfl
theorem r_MRm_compared_5 {a : Nat} (hO : qO a 10 = true) (hc : ckS st = true) : Rr X (d + 1) MRm_compared 5 L (.ref a :: st) (Wd mu la ro et) = (Rr X d MRm_look 0 [.ref a] [] (Wd mu la ro et)).bind fun q => Rr X (d + 1) MRm_compared 8 L (psh q.1 st) q.2 := R_iv (av := []) d_MRm_compared_5 fc_10_206 hO (ckS_le hc) rfl (Nat.le_of_ble_eq_true rfl) (Nat.le_of_ble_eq_true rfl)
theorem r_MRm_compared_8 {l0 l1 : Value} {x : Int32} : Rr X d MRm_compared 8 [l0, l1] (.int x :: st) h = Rr X d MRm_compared 9 (sL [l0, l1] 1 (.int x)) st h := Rr_nx d_MRm_compared_8 rfl
theorem r_MRm_compared_9 {l1 : Value} {x : Nat} : Rr X d MRm_compared 9 [.ref x, l1] st h = Rr X d MRm_compared 10 [.ref x, l1] (.ref x :: st) h := Rr_nx d_MRm_compared_9 rfl
theorem r_MRm_compared_10 {a : Nat} (hq : qI a 10 19 = true) : Rr X d MRm_compared 10 L (.ref a :: st) (Wd mu la ro et) = Rr X d MRm_compared 13 L (.int (mu a 19) :: st) (Wd mu la ro et) := R_gfI d_MRm_compared_10 ff_10_117 hq
theorem r_MRm_compared_13 {x : Int32} : Rr X d MRm_compared 13 L (.int x :: st) h = if 0 ≤ x then Rr X d MRm_compared 34 L st h else Rr X d MRm_compared 16 L st h := R_if_ge d_MRm_compared_13 (by decide)
theorem r_MRm_compared_16 {l0 : Value} {x : Int32} : Rr X d MRm_compared 16 [l0, .int x] st h = Rr X d MRm_compared 17 [l0, .int x] (.int x :: st) h := Rr_nx d_MRm_compared_16 rfl
theorem r_MRm_compared_17 : Rr X d MRm_compared 17 L st h = Rr X d MRm_compared 19 L (.int (60) :: st) h := Rr_nx d_MRm_compared_17 rfl
theorem r_MRm_compared_19 {x y : Int32} : Rr X d MRm_compared 19 L (.int y :: .int x :: st) h = if x = y then Rr X d MRm_compared 35 L st h else Rr X d MRm_compared 22 L st h := R_ic_eq d_MRm_compared_19 (by decide)
theorem r_MRm_compared_22 {l0 : Value} {x : Int32} : Rr X d MRm_compared 22 [l0, .int x] st h = Rr X d MRm_compared 23 [l0, .int x] (.int x :: st) h := Rr_nx d_MRm_compared_22 rfl
theorem r_MRm_compared_23 : Rr X d MRm_compared 23 L st h = Rr X d MRm_compared 25 L (.int (61) :: st) h := Rr_nx d_MRm_compared_23 rfl
theorem r_MRm_compared_25 {x y : Int32} : Rr X d MRm_compared 25 L (.int y :: .int x :: st) h = if x = y then Rr X d MRm_compared 35 L st h else Rr X d MRm_compared 28 L st h := R_ic_eq d_MRm_compared_25 (by decide)
theorem r_MRm_compared_28 {l0 : Value} {x : Int32} : Rr X d MRm_compared 28 [l0, .int x] st h = Rr X d MRm_compared 29 [l0, .int x] (.int x :: st) h := Rr_nx d_MRm_compared_28 rfl
theorem r_MRm_compared_29 : Rr X d MRm_compared 29 L st h = Rr X d MRm_compared 31 L (.int (62) :: st) h := Rr_nx d_MRm_compared_29 rfl
theorem r_MRm_compared_31 {x y : Int32} : Rr X d MRm_compared 31 L (.int y :: .int x :: st) h = if x = y then Rr X d MRm_compared 35 L st h else Rr X d MRm_compared 34 L st h := R_ic_eq d_MRm_compared_31 (by decide)
theorem r_MRm_compared_34 : Rr X d MRm_compared 34 L [] h = some (none, h) := Rr_rt d_MRm_compared_34 rfl
theorem r_MRm_compared_35 {l1 : Value} {x : Nat} : Rr X d MRm_compared 35 [.ref x, l1] st h = Rr X d MRm_compared 36 [.ref x, l1] (.ref x :: st) h := Rr_nx d_MRm_compared_35 rfl
theorem r_MRm_compared_36 {x : Nat} : Rr X d MRm_compared 36 L (.ref x :: st) h = Rr X d MRm_compared 37 L (.ref x :: .ref x :: st) h := Rr_nx d_MRm_compared_36 rfl
theorem r_MRm_compared_36i {x : Int32} : Rr X d MRm_compared 36 L (.int x :: st) h = Rr X d MRm_compared 37 L (.int x :: .int x :: st) h := Rr_nx d_MRm_compared_36 rfl
theorem r_MRm_compared_37 {a : Nat} (hq : qI a 10 18 = true) : Rr X d MRm_compared 37 L (.ref a :: st) (Wd mu la ro et) = Rr X d MRm_compared 40 L (.int (mu a 18) :: st) (Wd mu la ro et) := R_gfI d_MRm_compared_37 ff_10_120 hq
theorem r_MRm_compared_40 : Rr X d MRm_compared 40 L st h = Rr X d MRm_compared 41 L (.int (1) :: st) h := Rr_nx d_MRm_compared_40 rfl
theorem r_MRm_compared_41 {x y : Int32} : Rr X d MRm_compared 41 L (.int y :: .int x :: st) h = Rr X d MRm_compared 42 L (.int (x + y) :: st) h := Rr_nx d_MRm_compared_41 rfl
theorem r_MRm_compared_42 {a : Nat} {x : Int32} (hq : qI a 10 18 = true) : Rr X d MRm_compared 42 L (.int x :: .ref a :: st) (Wd mu la ro et) = Rr X d MRm_compared 45 L st (Wd (up2 mu a 18 x) la ro et) := R_pfI d_MRm_compared_42 ff_10_120 hq
theorem r_MRm_compared_45 {l1 : Value} {x : Nat} : Rr X d MRm_compared 45 [.ref x, l1] st h = Rr X d MRm_compared 46 [.ref x, l1] (.ref x :: st) h := Rr_nx d_MRm_compared_45 rfl
theorem r_MRm_compared_46 {a : Nat} (hO : qO a 10 = true) (hc : ckS st = true) : Rr X (d + 1) MRm_compared 46 L (.ref a :: st) (Wd mu la ro et) = (Rr X d MRm_sum 0 [.ref a, mkU] [] (Wd mu la ro et)).bind fun q => Rr X (d + 1) MRm_compared 49 L (psh q.1 st) q.2 := R_iv (av := []) d_MRm_compared_46 fc_10_232 hO (ckS_le hc) rfl (Nat.le_of_ble_eq_true rfl) (Nat.le_of_ble_eq_true rfl)
theorem r_MRm_compared_49 {l1 : Value} {x : Nat} : Rr X d MRm_compared 49 [.ref x, l1] st h = Rr X d MRm_compared 50 [.ref x, l1] (.ref x :: st) h := Rr_nx d_MRm_compared_49 rfl
theorem r_MRm_compared_50 {l0 : Value} {x : Int32} : Rr X d MRm_compared 50 [l0, .int x] st h = Rr X d MRm_compared 51 [l0, .int x] (.int x :: st) h := Rr_nx d_MRm_compared_50 rfl
theorem r_MRm_compared_51 : Rr X d MRm_compared 51 L st h = Rr X d MRm_compared 52 L (.int (0) :: st) h := Rr_nx d_MRm_compared_51 rfl
theorem r_MRm_compared_52 {y0 : Int32} {y1 : Int32} {a : Nat} (hO : qO a 10 = true) (hc : ckS st = true) : Rr X (d + 1) MRm_compared 52 L (.int y1 :: .int y0 :: .ref a :: st) (Wd mu la ro et) = (Rr X d MRm_addStep 0 [.ref a, .int y0, .int y1] [] (Wd mu la ro et)).bind fun q => Rr X (d + 1) MRm_compared 55 L (psh q.1 st) q.2 := R_iv (av := [.int y1, .int y0]) d_MRm_compared_52 fc_10_209 hO (ckS_le hc) rfl (Nat.le_of_ble_eq_true rfl) (Nat.le_of_ble_eq_true rfl)
theorem r_MRm_compared_55 : Rr X d MRm_compared 55 L [] h = some (none, h) := Rr_rt d_MRm_compared_55 rfl
theorem d_MRm_both_0 : decode MRm_both.2.2.1 0 = .ok (.aload_n 0, 1) := lkT_ok tk_MRm_both rfl
theorem d_MRm_both_1 : decode MRm_both.2.2.1 1 = .ok (.invokevirtual 235, 3) := lkT_ok tk_MRm_both rfl
theorem d_MRm_both_4 : decode MRm_both.2.2.1 4 = .ok (.aload_n 0, 1) := lkT_ok tk_MRm_both rfl
theorem d_MRm_both_5 : decode MRm_both.2.2.1 5 = .ok (.getfield 117, 3) := lkT_ok tk_MRm_both rfl
theorem d_MRm_both_8 : decode MRm_both.2.2.1 8 = .ok (.ifCond .ge 36, 3) := lkT_ok tk_MRm_both rfl
theorem d_MRm_both_11 : decode MRm_both.2.2.1 11 = .ok (.aload_n 0, 1) := lkT_ok tk_MRm_both rfl
theorem d_MRm_both_12 : decode MRm_both.2.2.1 12 = .ok (.invokevirtual 206, 3) := lkT_ok tk_MRm_both rfl
theorem d_MRm_both_15 : decode MRm_both.2.2.1 15 = .ok (.bipush 38, 2) := lkT_ok tk_MRm_both rfl
theorem d_MRm_both_17 : decode MRm_both.2.2.1 17 = .ok (.if_icmp .ne 27, 3) := lkT_ok tk_MRm_both rfl
theorem d_MRm_both_20 : decode MRm_both.2.2.1 20 = .ok (.aload_n 0, 1) := lkT_ok tk_MRm_both rfl
theorem d_MRm_both_21 : decode MRm_both.2.2.1 21 = .ok (.dup, 1) := lkT_ok tk_MRm_both rfl
theorem d_MRm_both_22 : decode MRm_both.2.2.1 22 = .ok (.getfield 120, 3) := lkT_ok tk_MRm_both rfl
theorem d_MRm_both_25 : decode MRm_both.2.2.1 25 = .ok (.iconst 1, 1) := lkT_ok tk_MRm_both rfl
theorem d_MRm_both_26 : decode MRm_both.2.2.1 26 = .ok (.iadd, 1) := lkT_ok tk_MRm_both rfl
theorem d_MRm_both_27 : decode MRm_both.2.2.1 27 = .ok (.putfield 120, 3) := lkT_ok tk_MRm_both rfl
theorem d_MRm_both_30 : decode MRm_both.2.2.1 30 = .ok (.aload_n 0, 1) := lkT_ok tk_MRm_both rfl
theorem d_MRm_both_31 : decode MRm_both.2.2.1 31 = .ok (.invokevirtual 235, 3) := lkT_ok tk_MRm_both rfl
theorem d_MRm_both_34 : decode MRm_both.2.2.1 34 = .ok (.aload_n 0, 1) := lkT_ok tk_MRm_both rfl
theorem d_MRm_both_35 : decode MRm_both.2.2.1 35 = .ok (.bipush 38, 2) := lkT_ok tk_MRm_both rfl
theorem d_MRm_both_37 : decode MRm_both.2.2.1 37 = .ok (.iconst 0, 1) := lkT_ok tk_MRm_both rfl
theorem d_MRm_both_38 : decode MRm_both.2.2.1 38 = .ok (.invokevirtual 209, 3) := lkT_ok tk_MRm_both rfl
theorem d_MRm_both_41 : decode MRm_both.2.2.1 41 = .ok (.goto (-37), 3) := lkT_ok tk_MRm_both rfl
theorem d_MRm_both_44 : decode MRm_both.2.2.1 44 = .ok (.return_, 1) := lkT_ok tk_MRm_both rfl
theorem r_MRm_both_0 {x : Nat} : Rr X d MRm_both 0 [.ref x] st h = Rr X d MRm_both 1 [.ref x] (.ref x :: st) h := Rr_nx d_MRm_both_0 rfl
theorem fc_10_235 : fC 10 235 = some (0, 10, 0, MRm_compared) := rfl
theorem r_MRm_both_1 {a : Nat} (hO : qO a 10 = true) (hc : ckS st = true) : Rr X (d + 1) MRm_both 1 L (.ref a :: st) (Wd mu la ro et) = (Rr X d MRm_compared 0 [.ref a, mkU] [] (Wd mu la ro et)).bind fun q => Rr X (d + 1) MRm_both 4 L (psh q.1 st) q.2 := R_iv (av := []) d_MRm_both_1 fc_10_235 hO (ckS_le hc) rfl (Nat.le_of_ble_eq_true rfl) (Nat.le_of_ble_eq_true rfl)
theorem r_MRm_both_4 {x : Nat} : Rr X d MRm_both 4 [.ref x] st h = Rr X d MRm_both 5 [.ref x] (.ref x :: st) h := Rr_nx d_MRm_both_4 rfl
theorem r_MRm_both_5 {a : Nat} (hq : qI a 10 19 = true) : Rr X d MRm_both 5 L (.ref a :: st) (Wd mu la ro et) = Rr X d MRm_both 8 L (.int (mu a 19) :: st) (Wd mu la ro et) := R_gfI d_MRm_both_5 ff_10_117 hq
theorem r_MRm_both_8 {x : Int32} : Rr X d MRm_both 8 L (.int x :: st) h = if 0 ≤ x then Rr X d MRm_both 44 L st h else Rr X d MRm_both 11 L st h := R_if_ge d_MRm_both_8 (by decide)
theorem r_MRm_both_11 {x : Nat} : Rr X d MRm_both 11 [.ref x] st h = Rr X d MRm_both 12 [.ref x] (.ref x :: st) h := Rr_nx d_MRm_both_11 rfl
theorem r_MRm_both_12 {a : Nat} (hO : qO a 10 = true) (hc : ckS st = true) : Rr X (d + 1) MRm_both 12 L (.ref a :: st) (Wd mu la ro et) = (Rr X d MRm_look 0 [.ref a] [] (Wd mu la ro et)).bind fun q => Rr X (d + 1) MRm_both 15 L (psh q.1 st) q.2 := R_iv (av := []) d_MRm_both_12 fc_10_206 hO (ckS_le hc) rfl (Nat.le_of_ble_eq_true rfl) (Nat.le_of_ble_eq_true rfl)
theorem r_MRm_both_15 : Rr X d MRm_both 15 L st h = Rr X d MRm_both 17 L (.int (38) :: st) h := Rr_nx d_MRm_both_15 rfl
theorem r_MRm_both_17 {x y : Int32} : Rr X d MRm_both 17 L (.int y :: .int x :: st) h = if ¬ x = y then Rr X d MRm_both 44 L st h else Rr X d MRm_both 20 L st h := R_ic_ne d_MRm_both_17 (by decide)
theorem r_MRm_both_20 {x : Nat} : Rr X d MRm_both 20 [.ref x] st h = Rr X d MRm_both 21 [.ref x] (.ref x :: st) h := Rr_nx d_MRm_both_20 rfl
theorem r_MRm_both_21 {x : Nat} : Rr X d MRm_both 21 L (.ref x :: st) h = Rr X d MRm_both 22 L (.ref x :: .ref x :: st) h := Rr_nx d_MRm_both_21 rfl
theorem r_MRm_both_21i {x : Int32} : Rr X d MRm_both 21 L (.int x :: st) h = Rr X d MRm_both 22 L (.int x :: .int x :: st) h := Rr_nx d_MRm_both_21 rfl
theorem r_MRm_both_22 {a : Nat} (hq : qI a 10 18 = true) : Rr X d MRm_both 22 L (.ref a :: st) (Wd mu la ro et) = Rr X d MRm_both 25 L (.int (mu a 18) :: st) (Wd mu la ro et) := R_gfI d_MRm_both_22 ff_10_120 hq
theorem r_MRm_both_25 : Rr X d MRm_both 25 L st h = Rr X d MRm_both 26 L (.int (1) :: st) h := Rr_nx d_MRm_both_25 rfl
theorem r_MRm_both_26 {x y : Int32} : Rr X d MRm_both 26 L (.int y :: .int x :: st) h = Rr X d MRm_both 27 L (.int (x + y) :: st) h := Rr_nx d_MRm_both_26 rfl
theorem r_MRm_both_27 {a : Nat} {x : Int32} (hq : qI a 10 18 = true) : Rr X d MRm_both 27 L (.int x :: .ref a :: st) (Wd mu la ro et) = Rr X d MRm_both 30 L st (Wd (up2 mu a 18 x) la ro et) := R_pfI d_MRm_both_27 ff_10_120 hq
theorem r_MRm_both_30 {x : Nat} : Rr X d MRm_both 30 [.ref x] st h = Rr X d MRm_both 31 [.ref x] (.ref x :: st) h := Rr_nx d_MRm_both_30 rfl
theorem r_MRm_both_31 {a : Nat} (hO : qO a 10 = true) (hc : ckS st = true) : Rr X (d + 1) MRm_both 31 L (.ref a :: st) (Wd mu la ro et) = (Rr X d MRm_compared 0 [.ref a, mkU] [] (Wd mu la ro et)).bind fun q => Rr X (d + 1) MRm_both 34 L (psh q.1 st) q.2 := R_iv (av := []) d_MRm_both_31 fc_10_235 hO (ckS_le hc) rfl (Nat.le_of_ble_eq_true rfl) (Nat.le_of_ble_eq_true rfl)
theorem r_MRm_both_34 {x : Nat} : Rr X d MRm_both 34 [.ref x] st h = Rr X d MRm_both 35 [.ref x] (.ref x :: st) h := Rr_nx d_MRm_both_34 rfl
theorem r_MRm_both_35 : Rr X d MRm_both 35 L st h = Rr X d MRm_both 37 L (.int (38) :: st) h := Rr_nx d_MRm_both_35 rfl
theorem r_MRm_both_37 : Rr X d MRm_both 37 L st h = Rr X d MRm_both 38 L (.int (0) :: st) h := Rr_nx d_MRm_both_37 rfl
theorem r_MRm_both_38 {y0 : Int32} {y1 : Int32} {a : Nat} (hO : qO a 10 = true) (hc : ckS st = true) : Rr X (d + 1) MRm_both 38 L (.int y1 :: .int y0 :: .ref a :: st) (Wd mu la ro et) = (Rr X d MRm_addStep 0 [.ref a, .int y0, .int y1] [] (Wd mu la ro et)).bind fun q => Rr X (d + 1) MRm_both 41 L (psh q.1 st) q.2 := R_iv (av := [.int y1, .int y0]) d_MRm_both_38 fc_10_209 hO (ckS_le hc) rfl (Nat.le_of_ble_eq_true rfl) (Nat.le_of_ble_eq_true rfl)
theorem r_MRm_both_41 : Rr X d MRm_both 41 L st h = Rr X d MRm_both 4 L st h := R_goto d_MRm_both_41 (by decide)
theorem r_MRm_both_44 : Rr X d MRm_both 44 L [] h = some (none, h) := Rr_rt d_MRm_both_44 rfl
theorem d_MRm_either_0 : decode MRm_either.2.2.1 0 = .ok (.aload_n 0, 1) := lkT_ok tk_MRm_either rfl
theorem d_MRm_either_1 : decode MRm_either.2.2.1 1 = .ok (.invokevirtual 238, 3) := lkT_ok tk_MRm_either rfl
theorem d_MRm_either_4 : decode MRm_either.2.2.1 4 = .ok (.aload_n 0, 1) := lkT_ok tk_MRm_either rfl
theorem d_MRm_either_5 : decode MRm_either.2.2.1 5 = .ok (.getfield 117, 3) := lkT_ok tk_MRm_either rfl
theorem d_MRm_either_8 : decode MRm_either.2.2.1 8 = .ok (.ifCond .ge 36, 3) := lkT_ok tk_MRm_either rfl
theorem d_MRm_either_11 : decode MRm_either.2.2.1 11 = .ok (.aload_n 0, 1) := lkT_ok tk_MRm_either rfl
theorem d_MRm_either_12 : decode MRm_either.2.2.1 12 = .ok (.invokevirtual 206, 3) := lkT_ok tk_MRm_either rfl
theorem d_MRm_either_15 : decode MRm_either.2.2.1 15 = .ok (.bipush 124, 2) := lkT_ok tk_MRm_either rfl
theorem d_MRm_either_17 : decode MRm_either.2.2.1 17 = .ok (.if_icmp .ne 27, 3) := lkT_ok tk_MRm_either rfl
theorem d_MRm_either_20 : decode MRm_either.2.2.1 20 = .ok (.aload_n 0, 1) := lkT_ok tk_MRm_either rfl
theorem d_MRm_either_21 : decode MRm_either.2.2.1 21 = .ok (.dup, 1) := lkT_ok tk_MRm_either rfl
theorem d_MRm_either_22 : decode MRm_either.2.2.1 22 = .ok (.getfield 120, 3) := lkT_ok tk_MRm_either rfl
theorem d_MRm_either_25 : decode MRm_either.2.2.1 25 = .ok (.iconst 1, 1) := lkT_ok tk_MRm_either rfl
theorem d_MRm_either_26 : decode MRm_either.2.2.1 26 = .ok (.iadd, 1) := lkT_ok tk_MRm_either rfl
theorem d_MRm_either_27 : decode MRm_either.2.2.1 27 = .ok (.putfield 120, 3) := lkT_ok tk_MRm_either rfl
theorem d_MRm_either_30 : decode MRm_either.2.2.1 30 = .ok (.aload_n 0, 1) := lkT_ok tk_MRm_either rfl
theorem d_MRm_either_31 : decode MRm_either.2.2.1 31 = .ok (.invokevirtual 238, 3) := lkT_ok tk_MRm_either rfl
theorem d_MRm_either_34 : decode MRm_either.2.2.1 34 = .ok (.aload_n 0, 1) := lkT_ok tk_MRm_either rfl
theorem d_MRm_either_35 : decode MRm_either.2.2.1 35 = .ok (.bipush 124, 2) := lkT_ok tk_MRm_either rfl
theorem d_MRm_either_37 : decode MRm_either.2.2.1 37 = .ok (.iconst 0, 1) := lkT_ok tk_MRm_either rfl
theorem d_MRm_either_38 : decode MRm_either.2.2.1 38 = .ok (.invokevirtual 209, 3) := lkT_ok tk_MRm_either rfl
theorem d_MRm_either_41 : decode MRm_either.2.2.1 41 = .ok (.goto (-37), 3) := lkT_ok tk_MRm_either rfl
theorem d_MRm_either_44 : decode MRm_either.2.2.1 44 = .ok (.return_, 1) := lkT_ok tk_MRm_either rfl
theorem r_MRm_either_0 {x : Nat} : Rr X d MRm_either 0 [.ref x] st h = Rr X d MRm_either 1 [.ref x] (.ref x :: st) h := Rr_nx d_MRm_either_0 rfl
theorem fc_10_238 : fC 10 238 = some (0, 10, 0, MRm_both) := rfl
theorem r_MRm_either_1 {a : Nat} (hO : qO a 10 = true) (hc : ckS st = true) : Rr X (d + 1) MRm_either 1 L (.ref a :: st) (Wd mu la ro et) = (Rr X d MRm_both 0 [.ref a] [] (Wd mu la ro et)).bind fun q => Rr X (d + 1) MRm_either 4 L (psh q.1 st) q.2 := R_iv (av := []) d_MRm_either_1 fc_10_238 hO (ckS_le hc) rfl (Nat.le_of_ble_eq_true rfl) (Nat.le_of_ble_eq_true rfl)
theorem r_MRm_either_4 {x : Nat} : Rr X d MRm_either 4 [.ref x] st h = Rr X d MRm_either 5 [.ref x] (.ref x :: st) h := Rr_nx d_MRm_either_4 rfl
theorem r_MRm_either_5 {a : Nat} (hq : qI a 10 19 = true) : Rr X d MRm_either 5 L (.ref a :: st) (Wd mu la ro et) = Rr X d MRm_either 8 L (.int (mu a 19) :: st) (Wd mu la ro et) := R_gfI d_MRm_either_5 ff_10_117 hq
theorem r_MRm_either_8 {x : Int32} : Rr X d MRm_either 8 L (.int x :: st) h = if 0 ≤ x then Rr X d MRm_either 44 L st h else Rr X d MRm_either 11 L st h := R_if_ge d_MRm_either_8 (by decide)
theorem r_MRm_either_11 {x : Nat} : Rr X d MRm_either 11 [.ref x] st h = Rr X d MRm_either 12 [.ref x] (.ref x :: st) h := Rr_nx d_MRm_either_11 rfl
theorem r_MRm_either_12 {a : Nat} (hO : qO a 10 = true) (hc : ckS st = true) : Rr X (d + 1) MRm_either 12 L (.ref a :: st) (Wd mu la ro et) = (Rr X d MRm_look 0 [.ref a] [] (Wd mu la ro et)).bind fun q => Rr X (d + 1) MRm_either 15 L (psh q.1 st) q.2 := R_iv (av := []) d_MRm_either_12 fc_10_206 hO (ckS_le hc) rfl (Nat.le_of_ble_eq_true rfl) (Nat.le_of_ble_eq_true rfl)
theorem r_MRm_either_15 : Rr X d MRm_either 15 L st h = Rr X d MRm_either 17 L (.int (124) :: st) h := Rr_nx d_MRm_either_15 rfl
theorem r_MRm_either_17 {x y : Int32} : Rr X d MRm_either 17 L (.int y :: .int x :: st) h = if ¬ x = y then Rr X d MRm_either 44 L st h else Rr X d MRm_either 20 L st h := R_ic_ne d_MRm_either_17 (by decide)
theorem r_MRm_either_20 {x : Nat} : Rr X d MRm_either 20 [.ref x] st h = Rr X d MRm_either 21 [.ref x] (.ref x :: st) h := Rr_nx d_MRm_either_20 rfl
theorem r_MRm_either_21 {x : Nat} : Rr X d MRm_either 21 L (.ref x :: st) h = Rr X d MRm_either 22 L (.ref x :: .ref x :: st) h := Rr_nx d_MRm_either_21 rfl
theorem r_MRm_either_21i {x : Int32} : Rr X d MRm_either 21 L (.int x :: st) h = Rr X d MRm_either 22 L (.int x :: .int x :: st) h := Rr_nx d_MRm_either_21 rfl
theorem r_MRm_either_22 {a : Nat} (hq : qI a 10 18 = true) : Rr X d MRm_either 22 L (.ref a :: st) (Wd mu la ro et) = Rr X d MRm_either 25 L (.int (mu a 18) :: st) (Wd mu la ro et) := R_gfI d_MRm_either_22 ff_10_120 hq
theorem r_MRm_either_25 : Rr X d MRm_either 25 L st h = Rr X d MRm_either 26 L (.int (1) :: st) h := Rr_nx d_MRm_either_25 rfl
theorem r_MRm_either_26 {x y : Int32} : Rr X d MRm_either 26 L (.int y :: .int x :: st) h = Rr X d MRm_either 27 L (.int (x + y) :: st) h := Rr_nx d_MRm_either_26 rfl
theorem r_MRm_either_27 {a : Nat} {x : Int32} (hq : qI a 10 18 = true) : Rr X d MRm_either 27 L (.int x :: .ref a :: st) (Wd mu la ro et) = Rr X d MRm_either 30 L st (Wd (up2 mu a 18 x) la ro et) := R_pfI d_MRm_either_27 ff_10_120 hq
theorem r_MRm_either_30 {x : Nat} : Rr X d MRm_either 30 [.ref x] st h = Rr X d MRm_either 31 [.ref x] (.ref x :: st) h := Rr_nx d_MRm_either_30 rfl
theorem r_MRm_either_31 {a : Nat} (hO : qO a 10 = true) (hc : ckS st = true) : Rr X (d + 1) MRm_either 31 L (.ref a :: st) (Wd mu la ro et) = (Rr X d MRm_both 0 [.ref a] [] (Wd mu la ro et)).bind fun q => Rr X (d + 1) MRm_either 34 L (psh q.1 st) q.2 := R_iv (av := []) d_MRm_either_31 fc_10_238 hO (ckS_le hc) rfl (Nat.le_of_ble_eq_true rfl) (Nat.le_of_ble_eq_true rfl)
theorem r_MRm_either_34 {x : Nat} : Rr X d MRm_either 34 [.ref x] st h = Rr X d MRm_either 35 [.ref x] (.ref x :: st) h := Rr_nx d_MRm_either_34 rfl
theorem r_MRm_either_35 : Rr X d MRm_either 35 L st h = Rr X d MRm_either 37 L (.int (124) :: st) h := Rr_nx d_MRm_either_35 rfl
theorem r_MRm_either_37 : Rr X d MRm_either 37 L st h = Rr X d MRm_either 38 L (.int (0) :: st) h := Rr_nx d_MRm_either_37 rfl
theorem r_MRm_either_38 {y0 : Int32} {y1 : Int32} {a : Nat} (hO : qO a 10 = true) (hc : ckS st = true) : Rr X (d + 1) MRm_either 38 L (.int y1 :: .int y0 :: .ref a :: st) (Wd mu la ro et) = (Rr X d MRm_addStep 0 [.ref a, .int y0, .int y1] [] (Wd mu la ro et)).bind fun q => Rr X (d + 1) MRm_either 41 L (psh q.1 st) q.2 := R_iv (av := [.int y1, .int y0]) d_MRm_either_38 fc_10_209 hO (ckS_le hc) rfl (Nat.le_of_ble_eq_true rfl) (Nat.le_of_ble_eq_true rfl)
theorem r_MRm_either_41 : Rr X d MRm_either 41 L st h = Rr X d MRm_either 4 L st h := R_goto d_MRm_either_41 (by decide)
theorem r_MRm_either_44 : Rr X d MRm_either 44 L [] h = some (none, h) := Rr_rt d_MRm_either_44 rfl
theorem d_MRm_line_0 : decode MRm_line.2.2.1 0 = .ok (.sipush 244, 3) := lkT_ok tk_MRm_line rfl
theorem d_MRm_line_3 : decode MRm_line.2.2.1 3 = .ok (.aload_n 0, 1) := lkT_ok tk_MRm_line rfl
theorem d_MRm_line_4 : decode MRm_line.2.2.1 4 = .ok (.getfield 47, 3) := lkT_ok tk_MRm_line rfl
theorem d_MRm_line_7 : decode MRm_line.2.2.1 7 = .ok (.iconst 4, 1) := lkT_ok tk_MRm_line rfl
theorem d_MRm_line_8 : decode MRm_line.2.2.1 8 = .ok (.iaload, 1) := lkT_ok tk_MRm_line rfl
theorem d_MRm_line_9 : decode MRm_line.2.2.1 9 = .ok (.iadd, 1) := lkT_ok tk_MRm_line rfl
theorem d_MRm_line_10 : decode MRm_line.2.2.1 10 = .ok (.istore_n 1, 1) := lkT_ok tk_MRm_line rfl
theorem d_MRm_line_11 : decode MRm_line.2.2.1 11 = .ok (.aload_n 0, 1) := lkT_ok tk_MRm_line rfl
theorem d_MRm_line_12 : decode MRm_line.2.2.1 12 = .ok (.getfield 50, 3) := lkT_ok tk_MRm_line rfl
theorem d_MRm_line_15 : decode MRm_line.2.2.1 15 = .ok (.iload_n 1, 1) := lkT_ok tk_MRm_line rfl
theorem d_MRm_line_16 : decode MRm_line.2.2.1 16 = .ok (.aload_n 0, 1) := lkT_ok tk_MRm_line rfl
theorem d_MRm_line_17 : decode MRm_line.2.2.1 17 = .ok (.getfield 197, 3) := lkT_ok tk_MRm_line rfl
theorem d_MRm_line_20 : decode MRm_line.2.2.1 20 = .ok (.i2s, 1) := lkT_ok tk_MRm_line rfl
theorem d_MRm_line_21 : decode MRm_line.2.2.1 21 = .ok (.sastore, 1) := lkT_ok tk_MRm_line rfl
theorem d_MRm_line_22 : decode MRm_line.2.2.1 22 = .ok (.aload_n 0, 1) := lkT_ok tk_MRm_line rfl
theorem d_MRm_line_23 : decode MRm_line.2.2.1 23 = .ok (.invokevirtual 223, 3) := lkT_ok tk_MRm_line rfl
theorem d_MRm_line_26 : decode MRm_line.2.2.1 26 = .ok (.aload_n 0, 1) := lkT_ok tk_MRm_line rfl
theorem d_MRm_line_27 : decode MRm_line.2.2.1 27 = .ok (.getfield 117, 3) := lkT_ok tk_MRm_line rfl
theorem d_MRm_line_30 : decode MRm_line.2.2.1 30 = .ok (.ifCond .ge 37, 3) := lkT_ok tk_MRm_line rfl
theorem d_MRm_line_33 : decode MRm_line.2.2.1 33 = .ok (.aload_n 0, 1) := lkT_ok tk_MRm_line rfl
theorem d_MRm_line_34 : decode MRm_line.2.2.1 34 = .ok (.invokevirtual 206, 3) := lkT_ok tk_MRm_line rfl
theorem d_MRm_line_37 : decode MRm_line.2.2.1 37 = .ok (.bipush 63, 2) := lkT_ok tk_MRm_line rfl
theorem d_MRm_line_39 : decode MRm_line.2.2.1 39 = .ok (.if_icmp .ne 28, 3) := lkT_ok tk_MRm_line rfl
theorem d_MRm_line_42 : decode MRm_line.2.2.1 42 = .ok (.aload_n 0, 1) := lkT_ok tk_MRm_line rfl
theorem d_MRm_line_43 : decode MRm_line.2.2.1 43 = .ok (.dup, 1) := lkT_ok tk_MRm_line rfl
theorem d_MRm_line_44 : decode MRm_line.2.2.1 44 = .ok (.getfield 120, 3) := lkT_ok tk_MRm_line rfl
theorem d_MRm_line_47 : decode MRm_line.2.2.1 47 = .ok (.iconst 1, 1) := lkT_ok tk_MRm_line rfl
theorem d_MRm_line_48 : decode MRm_line.2.2.1 48 = .ok (.iadd, 1) := lkT_ok tk_MRm_line rfl
theorem d_MRm_line_49 : decode MRm_line.2.2.1 49 = .ok (.putfield 120, 3) := lkT_ok tk_MRm_line rfl
theorem d_MRm_line_52 : decode MRm_line.2.2.1 52 = .ok (.aload_n 0, 1) := lkT_ok tk_MRm_line rfl
theorem d_MRm_line_53 : decode MRm_line.2.2.1 53 = .ok (.getfield 50, 3) := lkT_ok tk_MRm_line rfl
theorem d_MRm_line_56 : decode MRm_line.2.2.1 56 = .ok (.iload_n 1, 1) := lkT_ok tk_MRm_line rfl
theorem d_MRm_line_57 : decode MRm_line.2.2.1 57 = .ok (.aload_n 0, 1) := lkT_ok tk_MRm_line rfl
theorem d_MRm_line_58 : decode MRm_line.2.2.1 58 = .ok (.getfield 197, 3) := lkT_ok tk_MRm_line rfl
theorem d_MRm_line_61 : decode MRm_line.2.2.1 61 = .ok (.i2s, 1) := lkT_ok tk_MRm_line rfl
theorem d_MRm_line_62 : decode MRm_line.2.2.1 62 = .ok (.sastore, 1) := lkT_ok tk_MRm_line rfl
theorem d_MRm_line_63 : decode MRm_line.2.2.1 63 = .ok (.aload_n 0, 1) := lkT_ok tk_MRm_line rfl
theorem d_MRm_line_64 : decode MRm_line.2.2.1 64 = .ok (.invokevirtual 223, 3) := lkT_ok tk_MRm_line rfl
theorem d_MRm_line_67 : decode MRm_line.2.2.1 67 = .ok (.aload_n 0, 1) := lkT_ok tk_MRm_line rfl
theorem d_MRm_line_68 : decode MRm_line.2.2.1 68 = .ok (.getfield 54, 3) := lkT_ok tk_MRm_line rfl
theorem d_MRm_line_71 : decode MRm_line.2.2.1 71 = .ok (.iload_n 1, 1) := lkT_ok tk_MRm_line rfl
theorem d_MRm_line_72 : decode MRm_line.2.2.1 72 = .ok (.aload_n 0, 1) := lkT_ok tk_MRm_line rfl
theorem d_MRm_line_73 : decode MRm_line.2.2.1 73 = .ok (.getfield 197, 3) := lkT_ok tk_MRm_line rfl
theorem d_MRm_line_76 : decode MRm_line.2.2.1 76 = .ok (.i2s, 1) := lkT_ok tk_MRm_line rfl
theorem d_MRm_line_77 : decode MRm_line.2.2.1 77 = .ok (.sastore, 1) := lkT_ok tk_MRm_line rfl
theorem d_MRm_line_78 : decode MRm_line.2.2.1 78 = .ok (.aload_n 0, 1) := lkT_ok tk_MRm_line rfl
theorem d_MRm_line_79 : decode MRm_line.2.2.1 79 = .ok (.getfield 47, 3) := lkT_ok tk_MRm_line rfl
theorem d_MRm_line_82 : decode MRm_line.2.2.1 82 = .ok (.iconst 4, 1) := lkT_ok tk_MRm_line rfl
theorem d_MRm_line_83 : decode MRm_line.2.2.1 83 = .ok (.dup2, 1) := lkT_ok tk_MRm_line rfl
theorem d_MRm_line_84 : decode MRm_line.2.2.1 84 = .ok (.iaload, 1) := lkT_ok tk_MRm_line rfl
theorem d_MRm_line_85 : decode MRm_line.2.2.1 85 = .ok (.iconst 1, 1) := lkT_ok tk_MRm_line rfl
theorem d_MRm_line_86 : decode MRm_line.2.2.1 86 = .ok (.iadd, 1) := lkT_ok tk_MRm_line rfl
theorem d_MRm_line_87 : decode MRm_line.2.2.1 87 = .ok (.iastore, 1) := lkT_ok tk_MRm_line rfl
theorem d_MRm_line_88 : decode MRm_line.2.2.1 88 = .ok (.return_, 1) := lkT_ok tk_MRm_line rfl
theorem r_MRm_line_0 : Rr X d MRm_line 0 L st h = Rr X d MRm_line 3 L (.int (244) :: st) h := Rr_nx d_MRm_line_0 rfl
theorem r_MRm_line_3 {l1 : Value} {x : Nat} : Rr X d MRm_line 3 [.ref x, l1] st h = Rr X d MRm_line 4 [.ref x, l1] (.ref x :: st) h := Rr_nx d_MRm_line_3 rfl
theorem ff_10_47 : fF 10 47 = some (10, 24, 1, 1) := rfl
theorem r_MRm_line_4 {a : Nat} (hq : (qR a 10 24).isSome = true) : Rr X d MRm_line 4 L (.ref a :: st) (Wd mu la ro et) = Rr X d MRm_line 7 L (.ref (qRd a 10 24) :: st) (Wd mu la ro et) := R_gfR d_MRm_line_4 ff_10_47 hq
theorem r_MRm_line_7 : Rr X d MRm_line 7 L st h = Rr X d MRm_line 8 L (.int (4) :: st) h := Rr_nx d_MRm_line_7 rfl
theorem r_MRm_line_8 {a : Nat} {j : Int32} (hq : (qA a 0).isSome = true) : Rr X d MRm_line 8 L (.int j :: .ref a :: st) (Wd mu la ro et) = if j < 0 ∨ qAd a 0 ≤ j.toNatClampNeg then none else Rr X d MRm_line 9 L (.int (mu a j.toNatClampNeg) :: st) (Wd mu la ro et) := R_ialW d_MRm_line_8 hq
theorem r_MRm_line_9 {x y : Int32} : Rr X d MRm_line 9 L (.int y :: .int x :: st) h = Rr X d MRm_line 10 L (.int (x + y) :: st) h := Rr_nx d_MRm_line_9 rfl
theorem r_MRm_line_10 {l0 l1 : Value} {x : Int32} : Rr X d MRm_line 10 [l0, l1] (.int x :: st) h = Rr X d MRm_line 11 (sL [l0, l1] 1 (.int x)) st h := Rr_nx d_MRm_line_10 rfl
theorem r_MRm_line_11 {l1 : Value} {x : Nat} : Rr X d MRm_line 11 [.ref x, l1] st h = Rr X d MRm_line 12 [.ref x, l1] (.ref x :: st) h := Rr_nx d_MRm_line_11 rfl
theorem ff_10_50 : fF 10 50 = some (10, 25, 1, 1) := rfl
theorem r_MRm_line_12 {a : Nat} (hq : (qR a 10 25).isSome = true) : Rr X d MRm_line 12 L (.ref a :: st) (Wd mu la ro et) = Rr X d MRm_line 15 L (.ref (qRd a 10 25) :: st) (Wd mu la ro et) := R_gfR d_MRm_line_12 ff_10_50 hq
theorem r_MRm_line_15 {l0 : Value} {x : Int32} : Rr X d MRm_line 15 [l0, .int x] st h = Rr X d MRm_line 16 [l0, .int x] (.int x :: st) h := Rr_nx d_MRm_line_15 rfl
theorem r_MRm_line_16 {l1 : Value} {x : Nat} : Rr X d MRm_line 16 [.ref x, l1] st h = Rr X d MRm_line 17 [.ref x, l1] (.ref x :: st) h := Rr_nx d_MRm_line_16 rfl
theorem r_MRm_line_17 {a : Nat} (hq : qI a 10 21 = true) : Rr X d MRm_line 17 L (.ref a :: st) (Wd mu la ro et) = Rr X d MRm_line 20 L (.int (mu a 21) :: st) (Wd mu la ro et) := R_gfI d_MRm_line_17 ff_10_197 hq
theorem r_MRm_line_20 {x : Int32} : Rr X d MRm_line 20 L (.int x :: st) h = Rr X d MRm_line 21 L (.int (x.toInt16.toInt32) :: st) h := Rr_nx d_MRm_line_20 rfl
theorem r_MRm_line_21 {a : Nat} {j x : Int32} (hq : (qA a 3).isSome = true) : Rr X d MRm_line 21 L (.int x :: .int j :: .ref a :: st) (Wd mu la ro et) = if j < 0 ∨ qAd a 3 ≤ j.toNatClampNeg then none else Rr X d MRm_line 22 L st (Wd (up2 mu a j.toNatClampNeg (x.toInt16.toInt32)) la ro et) := R_sasW d_MRm_line_21 hq
theorem r_MRm_line_22 {l1 : Value} {x : Nat} : Rr X d MRm_line 22 [.ref x, l1] st h = Rr X d MRm_line 23 [.ref x, l1] (.ref x :: st) h := Rr_nx d_MRm_line_22 rfl
theorem r_MRm_line_23 {a : Nat} (hO : qO a 10 = true) (hc : ckS st = true) : Rr X (d + 1) MRm_line 23 L (.ref a :: st) (Wd mu la ro et) = (Rr X d MRm_either 0 [.ref a] [] (Wd mu la ro et)).bind fun q => Rr X (d + 1) MRm_line 26 L (psh q.1 st) q.2 := R_iv (av := []) d_MRm_line_23 fc_10_223 hO (ckS_le hc) rfl (Nat.le_of_ble_eq_true rfl) (Nat.le_of_ble_eq_true rfl)
theorem r_MRm_line_26 {l1 : Value} {x : Nat} : Rr X d MRm_line 26 [.ref x, l1] st h = Rr X d MRm_line 27 [.ref x, l1] (.ref x :: st) h := Rr_nx d_MRm_line_26 rfl
theorem r_MRm_line_27 {a : Nat} (hq : qI a 10 19 = true) : Rr X d MRm_line 27 L (.ref a :: st) (Wd mu la ro et) = Rr X d MRm_line 30 L (.int (mu a 19) :: st) (Wd mu la ro et) := R_gfI d_MRm_line_27 ff_10_117 hq
theorem r_MRm_line_30 {x : Int32} : Rr X d MRm_line 30 L (.int x :: st) h = if 0 ≤ x then Rr X d MRm_line 67 L st h else Rr X d MRm_line 33 L st h := R_if_ge d_MRm_line_30 (by decide)
theorem r_MRm_line_33 {l1 : Value} {x : Nat} : Rr X d MRm_line 33 [.ref x, l1] st h = Rr X d MRm_line 34 [.ref x, l1] (.ref x :: st) h := Rr_nx d_MRm_line_33 rfl
theorem r_MRm_line_34 {a : Nat} (hO : qO a 10 = true) (hc : ckS st = true) : Rr X (d + 1) MRm_line 34 L (.ref a :: st) (Wd mu la ro et) = (Rr X d MRm_look 0 [.ref a] [] (Wd mu la ro et)).bind fun q => Rr X (d + 1) MRm_line 37 L (psh q.1 st) q.2 := R_iv (av := []) d_MRm_line_34 fc_10_206 hO (ckS_le hc) rfl (Nat.le_of_ble_eq_true rfl) (Nat.le_of_ble_eq_true rfl)
theorem r_MRm_line_37 : Rr X d MRm_line 37 L st h = Rr X d MRm_line 39 L (.int (63) :: st) h := Rr_nx d_MRm_line_37 rfl
theorem r_MRm_line_39 {x y : Int32} : Rr X d MRm_line 39 L (.int y :: .int x :: st) h = if ¬ x = y then Rr X d MRm_line 67 L st h else Rr X d MRm_line 42 L st h := R_ic_ne d_MRm_line_39 (by decide)
theorem r_MRm_line_42 {l1 : Value} {x : Nat} : Rr X d MRm_line 42 [.ref x, l1] st h = Rr X d MRm_line 43 [.ref x, l1] (.ref x :: st) h := Rr_nx d_MRm_line_42 rfl
theorem r_MRm_line_43 {x : Nat} : Rr X d MRm_line 43 L (.ref x :: st) h = Rr X d MRm_line 44 L (.ref x :: .ref x :: st) h := Rr_nx d_MRm_line_43 rfl
theorem r_MRm_line_43i {x : Int32} : Rr X d MRm_line 43 L (.int x :: st) h = Rr X d MRm_line 44 L (.int x :: .int x :: st) h := Rr_nx d_MRm_line_43 rfl
theorem r_MRm_line_44 {a : Nat} (hq : qI a 10 18 = true) : Rr X d MRm_line 44 L (.ref a :: st) (Wd mu la ro et) = Rr X d MRm_line 47 L (.int (mu a 18) :: st) (Wd mu la ro et) := R_gfI d_MRm_line_44 ff_10_120 hq
theorem r_MRm_line_47 : Rr X d MRm_line 47 L st h = Rr X d MRm_line 48 L (.int (1) :: st) h := Rr_nx d_MRm_line_47 rfl
theorem r_MRm_line_48 {x y : Int32} : Rr X d MRm_line 48 L (.int y :: .int x :: st) h = Rr X d MRm_line 49 L (.int (x + y) :: st) h := Rr_nx d_MRm_line_48 rfl
theorem r_MRm_line_49 {a : Nat} {x : Int32} (hq : qI a 10 18 = true) : Rr X d MRm_line 49 L (.int x :: .ref a :: st) (Wd mu la ro et) = Rr X d MRm_line 52 L st (Wd (up2 mu a 18 x) la ro et) := R_pfI d_MRm_line_49 ff_10_120 hq
theorem r_MRm_line_52 {l1 : Value} {x : Nat} : Rr X d MRm_line 52 [.ref x, l1] st h = Rr X d MRm_line 53 [.ref x, l1] (.ref x :: st) h := Rr_nx d_MRm_line_52 rfl
theorem r_MRm_line_53 {a : Nat} (hq : (qR a 10 25).isSome = true) : Rr X d MRm_line 53 L (.ref a :: st) (Wd mu la ro et) = Rr X d MRm_line 56 L (.ref (qRd a 10 25) :: st) (Wd mu la ro et) := R_gfR d_MRm_line_53 ff_10_50 hq
theorem r_MRm_line_56 {l0 : Value} {x : Int32} : Rr X d MRm_line 56 [l0, .int x] st h = Rr X d MRm_line 57 [l0, .int x] (.int x :: st) h := Rr_nx d_MRm_line_56 rfl
theorem r_MRm_line_57 {l1 : Value} {x : Nat} : Rr X d MRm_line 57 [.ref x, l1] st h = Rr X d MRm_line 58 [.ref x, l1] (.ref x :: st) h := Rr_nx d_MRm_line_57 rfl
theorem r_MRm_line_58 {a : Nat} (hq : qI a 10 21 = true) : Rr X d MRm_line 58 L (.ref a :: st) (Wd mu la ro et) = Rr X d MRm_line 61 L (.int (mu a 21) :: st) (Wd mu la ro et) := R_gfI d_MRm_line_58 ff_10_197 hq
theorem r_MRm_line_61 {x : Int32} : Rr X d MRm_line 61 L (.int x :: st) h = Rr X d MRm_line 62 L (.int (x.toInt16.toInt32) :: st) h := Rr_nx d_MRm_line_61 rfl
theorem r_MRm_line_62 {a : Nat} {j x : Int32} (hq : (qA a 3).isSome = true) : Rr X d MRm_line 62 L (.int x :: .int j :: .ref a :: st) (Wd mu la ro et) = if j < 0 ∨ qAd a 3 ≤ j.toNatClampNeg then none else Rr X d MRm_line 63 L st (Wd (up2 mu a j.toNatClampNeg (x.toInt16.toInt32)) la ro et) := R_sasW d_MRm_line_62 hq
theorem r_MRm_line_63 {l1 : Value} {x : Nat} : Rr X d MRm_line 63 [.ref x, l1] st h = Rr X d MRm_line 64 [.ref x, l1] (.ref x :: st) h := Rr_nx d_MRm_line_63 rfl
theorem r_MRm_line_64 {a : Nat} (hO : qO a 10 = true) (hc : ckS st = true) : Rr X (d + 1) MRm_line 64 L (.ref a :: st) (Wd mu la ro et) = (Rr X d MRm_either 0 [.ref a] [] (Wd mu la ro et)).bind fun q => Rr X (d + 1) MRm_line 67 L (psh q.1 st) q.2 := R_iv (av := []) d_MRm_line_64 fc_10_223 hO (ckS_le hc) rfl (Nat.le_of_ble_eq_true rfl) (Nat.le_of_ble_eq_true rfl)
theorem r_MRm_line_67 {l1 : Value} {x : Nat} : Rr X d MRm_line 67 [.ref x, l1] st h = Rr X d MRm_line 68 [.ref x, l1] (.ref x :: st) h := Rr_nx d_MRm_line_67 rfl
theorem ff_10_54 : fF 10 54 = some (10, 26, 1, 1) := rfl
theorem r_MRm_line_68 {a : Nat} (hq : (qR a 10 26).isSome = true) : Rr X d MRm_line 68 L (.ref a :: st) (Wd mu la ro et) = Rr X d MRm_line 71 L (.ref (qRd a 10 26) :: st) (Wd mu la ro et) := R_gfR d_MRm_line_68 ff_10_54 hq
theorem r_MRm_line_71 {l0 : Value} {x : Int32} : Rr X d MRm_line 71 [l0, .int x] st h = Rr X d MRm_line 72 [l0, .int x] (.int x :: st) h := Rr_nx d_MRm_line_71 rfl
theorem r_MRm_line_72 {l1 : Value} {x : Nat} : Rr X d MRm_line 72 [.ref x, l1] st h = Rr X d MRm_line 73 [.ref x, l1] (.ref x :: st) h := Rr_nx d_MRm_line_72 rfl
theorem r_MRm_line_73 {a : Nat} (hq : qI a 10 21 = true) : Rr X d MRm_line 73 L (.ref a :: st) (Wd mu la ro et) = Rr X d MRm_line 76 L (.int (mu a 21) :: st) (Wd mu la ro et) := R_gfI d_MRm_line_73 ff_10_197 hq
theorem r_MRm_line_76 {x : Int32} : Rr X d MRm_line 76 L (.int x :: st) h = Rr X d MRm_line 77 L (.int (x.toInt16.toInt32) :: st) h := Rr_nx d_MRm_line_76 rfl
theorem r_MRm_line_77 {a : Nat} {j x : Int32} (hq : (qA a 3).isSome = true) : Rr X d MRm_line 77 L (.int x :: .int j :: .ref a :: st) (Wd mu la ro et) = if j < 0 ∨ qAd a 3 ≤ j.toNatClampNeg then none else Rr X d MRm_line 78 L st (Wd (up2 mu a j.toNatClampNeg (x.toInt16.toInt32)) la ro et) := R_sasW d_MRm_line_77 hq
theorem r_MRm_line_78 {l1 : Value} {x : Nat} : Rr X d MRm_line 78 [.ref x, l1] st h = Rr X d MRm_line 79 [.ref x, l1] (.ref x :: st) h := Rr_nx d_MRm_line_78 rfl
theorem r_MRm_line_79 {a : Nat} (hq : (qR a 10 24).isSome = true) : Rr X d MRm_line 79 L (.ref a :: st) (Wd mu la ro et) = Rr X d MRm_line 82 L (.ref (qRd a 10 24) :: st) (Wd mu la ro et) := R_gfR d_MRm_line_79 ff_10_47 hq
theorem r_MRm_line_82 : Rr X d MRm_line 82 L st h = Rr X d MRm_line 83 L (.int (4) :: st) h := Rr_nx d_MRm_line_82 rfl
theorem r_MRm_line_83 {x : Int32} {y : Nat} : Rr X d MRm_line 83 L (.int x :: .ref y :: st) h = Rr X d MRm_line 84 L (.int x :: .ref y :: .int x :: .ref y :: st) h := Rr_nx d_MRm_line_83 rfl
theorem r_MRm_line_84 {a : Nat} {j : Int32} (hq : (qA a 0).isSome = true) : Rr X d MRm_line 84 L (.int j :: .ref a :: st) (Wd mu la ro et) = if j < 0 ∨ qAd a 0 ≤ j.toNatClampNeg then none else Rr X d MRm_line 85 L (.int (mu a j.toNatClampNeg) :: st) (Wd mu la ro et) := R_ialW d_MRm_line_84 hq
theorem r_MRm_line_85 : Rr X d MRm_line 85 L st h = Rr X d MRm_line 86 L (.int (1) :: st) h := Rr_nx d_MRm_line_85 rfl
theorem r_MRm_line_86 {x y : Int32} : Rr X d MRm_line 86 L (.int y :: .int x :: st) h = Rr X d MRm_line 87 L (.int (x + y) :: st) h := Rr_nx d_MRm_line_86 rfl
theorem r_MRm_line_87 {a : Nat} {j x : Int32} (hq : (qA a 0).isSome = true) : Rr X d MRm_line 87 L (.int x :: .int j :: .ref a :: st) (Wd mu la ro et) = if j < 0 ∨ qAd a 0 ≤ j.toNatClampNeg then none else Rr X d MRm_line 88 L st (Wd (up2 mu a j.toNatClampNeg (x)) la ro et) := R_iasW d_MRm_line_87 hq
theorem r_MRm_line_88 : Rr X d MRm_line 88 L [] h = some (none, h) := Rr_rt d_MRm_line_88 rfl
theorem d_MRm_readText_0 : decode MRm_readText.2.2.1 0 = .ok (.aload_n 0, 1) := lkT_ok tk_MRm_readText rfl
theorem d_MRm_readText_1 : decode MRm_readText.2.2.1 1 = .ok (.iconst 0, 1) := lkT_ok tk_MRm_readText rfl
theorem d_MRm_readText_2 : decode MRm_readText.2.2.1 2 = .ok (.putfield 120, 3) := lkT_ok tk_MRm_readText rfl
theorem d_MRm_readText_5 : decode MRm_readText.2.2.1 5 = .ok (.aload_n 0, 1) := lkT_ok tk_MRm_readText rfl
theorem d_MRm_readText_6 : decode MRm_readText.2.2.1 6 = .ok (.iconst (-1), 1) := lkT_ok tk_MRm_readText rfl
theorem d_MRm_readText_7 : decode MRm_readText.2.2.1 7 = .ok (.putfield 117, 3) := lkT_ok tk_MRm_readText rfl
theorem d_MRm_readText_10 : decode MRm_readText.2.2.1 10 = .ok (.aload_n 0, 1) := lkT_ok tk_MRm_readText rfl
theorem d_MRm_readText_11 : decode MRm_readText.2.2.1 11 = .ok (.iconst 0, 1) := lkT_ok tk_MRm_readText rfl
theorem d_MRm_readText_12 : decode MRm_readText.2.2.1 12 = .ok (.putfield 200, 3) := lkT_ok tk_MRm_readText rfl
theorem d_MRm_readText_15 : decode MRm_readText.2.2.1 15 = .ok (.aload_n 0, 1) := lkT_ok tk_MRm_readText rfl
theorem d_MRm_readText_16 : decode MRm_readText.2.2.1 16 = .ok (.iconst 0, 1) := lkT_ok tk_MRm_readText rfl
theorem d_MRm_readText_17 : decode MRm_readText.2.2.1 17 = .ok (.putfield 197, 3) := lkT_ok tk_MRm_readText rfl
theorem d_MRm_readText_20 : decode MRm_readText.2.2.1 20 = .ok (.aload_n 0, 1) := lkT_ok tk_MRm_readText rfl
theorem d_MRm_readText_21 : decode MRm_readText.2.2.1 21 = .ok (.getfield 47, 3) := lkT_ok tk_MRm_readText rfl
theorem d_MRm_readText_24 : decode MRm_readText.2.2.1 24 = .ok (.iconst 4, 1) := lkT_ok tk_MRm_readText rfl
theorem d_MRm_readText_25 : decode MRm_readText.2.2.1 25 = .ok (.iconst 0, 1) := lkT_ok tk_MRm_readText rfl
theorem d_MRm_readText_26 : decode MRm_readText.2.2.1 26 = .ok (.iastore, 1) := lkT_ok tk_MRm_readText rfl
theorem d_MRm_readText_27 : decode MRm_readText.2.2.1 27 = .ok (.aload_n 0, 1) := lkT_ok tk_MRm_readText rfl
theorem d_MRm_readText_28 : decode MRm_readText.2.2.1 28 = .ok (.invokevirtual 241, 3) := lkT_ok tk_MRm_readText rfl
theorem d_MRm_readText_31 : decode MRm_readText.2.2.1 31 = .ok (.aload_n 0, 1) := lkT_ok tk_MRm_readText rfl
theorem d_MRm_readText_32 : decode MRm_readText.2.2.1 32 = .ok (.getfield 117, 3) := lkT_ok tk_MRm_readText rfl
theorem d_MRm_readText_35 : decode MRm_readText.2.2.1 35 = .ok (.ifCond .ge 29, 3) := lkT_ok tk_MRm_readText rfl
theorem d_MRm_readText_38 : decode MRm_readText.2.2.1 38 = .ok (.aload_n 0, 1) := lkT_ok tk_MRm_readText rfl
theorem d_MRm_readText_39 : decode MRm_readText.2.2.1 39 = .ok (.invokevirtual 206, 3) := lkT_ok tk_MRm_readText rfl
theorem d_MRm_readText_42 : decode MRm_readText.2.2.1 42 = .ok (.bipush 59, 2) := lkT_ok tk_MRm_readText rfl
theorem d_MRm_readText_44 : decode MRm_readText.2.2.1 44 = .ok (.if_icmp .ne 20, 3) := lkT_ok tk_MRm_readText rfl
theorem d_MRm_readText_47 : decode MRm_readText.2.2.1 47 = .ok (.aload_n 0, 1) := lkT_ok tk_MRm_readText rfl
theorem d_MRm_readText_48 : decode MRm_readText.2.2.1 48 = .ok (.dup, 1) := lkT_ok tk_MRm_readText rfl
theorem d_MRm_readText_49 : decode MRm_readText.2.2.1 49 = .ok (.getfield 120, 3) := lkT_ok tk_MRm_readText rfl
theorem d_MRm_readText_52 : decode MRm_readText.2.2.1 52 = .ok (.iconst 1, 1) := lkT_ok tk_MRm_readText rfl
theorem d_MRm_readText_53 : decode MRm_readText.2.2.1 53 = .ok (.iadd, 1) := lkT_ok tk_MRm_readText rfl
theorem d_MRm_readText_54 : decode MRm_readText.2.2.1 54 = .ok (.putfield 120, 3) := lkT_ok tk_MRm_readText rfl
theorem d_MRm_readText_57 : decode MRm_readText.2.2.1 57 = .ok (.aload_n 0, 1) := lkT_ok tk_MRm_readText rfl
theorem d_MRm_readText_58 : decode MRm_readText.2.2.1 58 = .ok (.invokevirtual 241, 3) := lkT_ok tk_MRm_readText rfl
theorem d_MRm_readText_61 : decode MRm_readText.2.2.1 61 = .ok (.goto (-30), 3) := lkT_ok tk_MRm_readText rfl
theorem d_MRm_readText_64 : decode MRm_readText.2.2.1 64 = .ok (.aload_n 0, 1) := lkT_ok tk_MRm_readText rfl
theorem d_MRm_readText_65 : decode MRm_readText.2.2.1 65 = .ok (.getfield 117, 3) := lkT_ok tk_MRm_readText rfl
theorem d_MRm_readText_68 : decode MRm_readText.2.2.1 68 = .ok (.ifCond .ge 18, 3) := lkT_ok tk_MRm_readText rfl
theorem d_MRm_readText_71 : decode MRm_readText.2.2.1 71 = .ok (.aload_n 0, 1) := lkT_ok tk_MRm_readText rfl
theorem d_MRm_readText_72 : decode MRm_readText.2.2.1 72 = .ok (.getfield 120, 3) := lkT_ok tk_MRm_readText rfl
theorem d_MRm_readText_75 : decode MRm_readText.2.2.1 75 = .ok (.aload_n 0, 1) := lkT_ok tk_MRm_readText rfl
theorem d_MRm_readText_76 : decode MRm_readText.2.2.1 76 = .ok (.getfield 111, 3) := lkT_ok tk_MRm_readText rfl
theorem d_MRm_readText_79 : decode MRm_readText.2.2.1 79 = .ok (.if_icmp .ge 7, 3) := lkT_ok tk_MRm_readText rfl
theorem d_MRm_readText_82 : decode MRm_readText.2.2.1 82 = .ok (.aload_n 0, 1) := lkT_ok tk_MRm_readText rfl
theorem d_MRm_readText_83 : decode MRm_readText.2.2.1 83 = .ok (.invokevirtual 203, 3) := lkT_ok tk_MRm_readText rfl
theorem d_MRm_readText_86 : decode MRm_readText.2.2.1 86 = .ok (.aload_n 0, 1) := lkT_ok tk_MRm_readText rfl
theorem d_MRm_readText_87 : decode MRm_readText.2.2.1 87 = .ok (.iconst 0, 1) := lkT_ok tk_MRm_readText rfl
theorem d_MRm_readText_88 : decode MRm_readText.2.2.1 88 = .ok (.putfield 111, 3) := lkT_ok tk_MRm_readText rfl
theorem d_MRm_readText_91 : decode MRm_readText.2.2.1 91 = .ok (.aload_n 0, 1) := lkT_ok tk_MRm_readText rfl
theorem d_MRm_readText_92 : decode MRm_readText.2.2.1 92 = .ok (.getfield 117, 3) := lkT_ok tk_MRm_readText rfl
theorem d_MRm_readText_95 : decode MRm_readText.2.2.1 95 = .ok (.ifCond .lt 8, 3) := lkT_ok tk_MRm_readText rfl
theorem d_MRm_readText_98 : decode MRm_readText.2.2.1 98 = .ok (.aload_n 0, 1) := lkT_ok tk_MRm_readText rfl
theorem d_MRm_readText_99 : decode MRm_readText.2.2.1 99 = .ok (.getfield 117, 3) := lkT_ok tk_MRm_readText rfl
theorem d_MRm_readText_102 : decode MRm_readText.2.2.1 102 = .ok (.ireturn, 1) := lkT_ok tk_MRm_readText rfl
theorem d_MRm_readText_103 : decode MRm_readText.2.2.1 103 = .ok (.iconst 0, 1) := lkT_ok tk_MRm_readText rfl
theorem d_MRm_readText_104 : decode MRm_readText.2.2.1 104 = .ok (.istore_n 2, 1) := lkT_ok tk_MRm_readText rfl
theorem d_MRm_readText_105 : decode MRm_readText.2.2.1 105 = .ok (.iload_n 2, 1) := lkT_ok tk_MRm_readText rfl
theorem d_MRm_readText_106 : decode MRm_readText.2.2.1 106 = .ok (.aload_n 0, 1) := lkT_ok tk_MRm_readText rfl
theorem d_MRm_readText_107 : decode MRm_readText.2.2.1 107 = .ok (.getfield 197, 3) := lkT_ok tk_MRm_readText rfl
theorem d_MRm_readText_110 : decode MRm_readText.2.2.1 110 = .ok (.if_icmp .ge 53, 3) := lkT_ok tk_MRm_readText rfl
theorem d_MRm_readText_113 : decode MRm_readText.2.2.1 113 = .ok (.aload_n 0, 1) := lkT_ok tk_MRm_readText rfl
theorem d_MRm_readText_114 : decode MRm_readText.2.2.1 114 = .ok (.getfield 41, 3) := lkT_ok tk_MRm_readText rfl
theorem d_MRm_readText_117 : decode MRm_readText.2.2.1 117 = .ok (.sipush 130, 3) := lkT_ok tk_MRm_readText rfl
theorem d_MRm_readText_120 : decode MRm_readText.2.2.1 120 = .ok (.iload_n 1, 1) := lkT_ok tk_MRm_readText rfl
theorem d_MRm_readText_121 : decode MRm_readText.2.2.1 121 = .ok (.imul, 1) := lkT_ok tk_MRm_readText rfl
theorem d_MRm_readText_122 : decode MRm_readText.2.2.1 122 = .ok (.iload_n 2, 1) := lkT_ok tk_MRm_readText rfl
theorem d_MRm_readText_123 : decode MRm_readText.2.2.1 123 = .ok (.iadd, 1) := lkT_ok tk_MRm_readText rfl
theorem d_MRm_readText_124 : decode MRm_readText.2.2.1 124 = .ok (.aload_n 0, 1) := lkT_ok tk_MRm_readText rfl
theorem d_MRm_readText_125 : decode MRm_readText.2.2.1 125 = .ok (.getfield 41, 3) := lkT_ok tk_MRm_readText rfl
theorem d_MRm_readText_128 : decode MRm_readText.2.2.1 128 = .ok (.sipush 520, 3) := lkT_ok tk_MRm_readText rfl
theorem d_MRm_readText_131 : decode MRm_readText.2.2.1 131 = .ok (.iload_n 2, 1) := lkT_ok tk_MRm_readText rfl
theorem d_MRm_readText_132 : decode MRm_readText.2.2.1 132 = .ok (.iadd, 1) := lkT_ok tk_MRm_readText rfl
theorem d_MRm_readText_133 : decode MRm_readText.2.2.1 133 = .ok (.baload, 1) := lkT_ok tk_MRm_readText rfl
theorem d_MRm_readText_134 : decode MRm_readText.2.2.1 134 = .ok (.bastore, 1) := lkT_ok tk_MRm_readText rfl
theorem d_MRm_readText_135 : decode MRm_readText.2.2.1 135 = .ok (.aload_n 0, 1) := lkT_ok tk_MRm_readText rfl
theorem d_MRm_readText_136 : decode MRm_readText.2.2.1 136 = .ok (.getfield 44, 3) := lkT_ok tk_MRm_readText rfl
theorem d_MRm_readText_139 : decode MRm_readText.2.2.1 139 = .ok (.sipush 130, 3) := lkT_ok tk_MRm_readText rfl
theorem d_MRm_readText_142 : decode MRm_readText.2.2.1 142 = .ok (.iload_n 1, 1) := lkT_ok tk_MRm_readText rfl
theorem d_MRm_readText_143 : decode MRm_readText.2.2.1 143 = .ok (.imul, 1) := lkT_ok tk_MRm_readText rfl
theorem d_MRm_readText_144 : decode MRm_readText.2.2.1 144 = .ok (.iload_n 2, 1) := lkT_ok tk_MRm_readText rfl
theorem d_MRm_readText_145 : decode MRm_readText.2.2.1 145 = .ok (.iadd, 1) := lkT_ok tk_MRm_readText rfl
theorem d_MRm_readText_146 : decode MRm_readText.2.2.1 146 = .ok (.aload_n 0, 1) := lkT_ok tk_MRm_readText rfl
theorem d_MRm_readText_147 : decode MRm_readText.2.2.1 147 = .ok (.getfield 44, 3) := lkT_ok tk_MRm_readText rfl
theorem d_MRm_readText_150 : decode MRm_readText.2.2.1 150 = .ok (.sipush 520, 3) := lkT_ok tk_MRm_readText rfl
theorem d_MRm_readText_153 : decode MRm_readText.2.2.1 153 = .ok (.iload_n 2, 1) := lkT_ok tk_MRm_readText rfl
theorem d_MRm_readText_154 : decode MRm_readText.2.2.1 154 = .ok (.iadd, 1) := lkT_ok tk_MRm_readText rfl
theorem d_MRm_readText_155 : decode MRm_readText.2.2.1 155 = .ok (.iaload, 1) := lkT_ok tk_MRm_readText rfl
theorem d_MRm_readText_156 : decode MRm_readText.2.2.1 156 = .ok (.iastore, 1) := lkT_ok tk_MRm_readText rfl
theorem d_MRm_readText_157 : decode MRm_readText.2.2.1 157 = .ok (.iinc 2 1, 3) := lkT_ok tk_MRm_readText rfl
theorem d_MRm_readText_160 : decode MRm_readText.2.2.1 160 = .ok (.goto (-55), 3) := lkT_ok tk_MRm_readText rfl
theorem d_MRm_readText_163 : decode MRm_readText.2.2.1 163 = .ok (.aload_n 0, 1) := lkT_ok tk_MRm_readText rfl
theorem d_MRm_readText_164 : decode MRm_readText.2.2.1 164 = .ok (.getfield 47, 3) := lkT_ok tk_MRm_readText rfl
theorem d_MRm_readText_167 : decode MRm_readText.2.2.1 167 = .ok (.iload_n 1, 1) := lkT_ok tk_MRm_readText rfl
theorem d_MRm_readText_168 : decode MRm_readText.2.2.1 168 = .ok (.aload_n 0, 1) := lkT_ok tk_MRm_readText rfl
theorem d_MRm_readText_169 : decode MRm_readText.2.2.1 169 = .ok (.getfield 47, 3) := lkT_ok tk_MRm_readText rfl
theorem d_MRm_readText_172 : decode MRm_readText.2.2.1 172 = .ok (.iconst 4, 1) := lkT_ok tk_MRm_readText rfl
theorem d_MRm_readText_173 : decode MRm_readText.2.2.1 173 = .ok (.iaload, 1) := lkT_ok tk_MRm_readText rfl
theorem d_MRm_readText_174 : decode MRm_readText.2.2.1 174 = .ok (.iastore, 1) := lkT_ok tk_MRm_readText rfl
theorem d_MRm_readText_175 : decode MRm_readText.2.2.1 175 = .ok (.iconst 0, 1) := lkT_ok tk_MRm_readText rfl
theorem d_MRm_readText_176 : decode MRm_readText.2.2.1 176 = .ok (.istore_n 2, 1) := lkT_ok tk_MRm_readText rfl
theorem d_MRm_readText_177 : decode MRm_readText.2.2.1 177 = .ok (.iload_n 2, 1) := lkT_ok tk_MRm_readText rfl
theorem d_MRm_readText_178 : decode MRm_readText.2.2.1 178 = .ok (.aload_n 0, 1) := lkT_ok tk_MRm_readText rfl
theorem d_MRm_readText_179 : decode MRm_readText.2.2.1 179 = .ok (.getfield 47, 3) := lkT_ok tk_MRm_readText rfl
theorem d_MRm_readText_182 : decode MRm_readText.2.2.1 182 = .ok (.iload_n 1, 1) := lkT_ok tk_MRm_readText rfl
theorem d_MRm_readText_183 : decode MRm_readText.2.2.1 183 = .ok (.iaload, 1) := lkT_ok tk_MRm_readText rfl
theorem d_MRm_readText_184 : decode MRm_readText.2.2.1 184 = .ok (.if_icmp .ge 51, 3) := lkT_ok tk_MRm_readText rfl
theorem d_MRm_readText_187 : decode MRm_readText.2.2.1 187 = .ok (.aload_n 0, 1) := lkT_ok tk_MRm_readText rfl
theorem d_MRm_readText_188 : decode MRm_readText.2.2.1 188 = .ok (.getfield 50, 3) := lkT_ok tk_MRm_readText rfl
theorem d_MRm_readText_191 : decode MRm_readText.2.2.1 191 = .ok (.bipush 61, 2) := lkT_ok tk_MRm_readText rfl
theorem d_MRm_readText_193 : decode MRm_readText.2.2.1 193 = .ok (.iload_n 1, 1) := lkT_ok tk_MRm_readText rfl
theorem d_MRm_readText_194 : decode MRm_readText.2.2.1 194 = .ok (.imul, 1) := lkT_ok tk_MRm_readText rfl
theorem d_MRm_readText_195 : decode MRm_readText.2.2.1 195 = .ok (.iload_n 2, 1) := lkT_ok tk_MRm_readText rfl
theorem d_MRm_readText_196 : decode MRm_readText.2.2.1 196 = .ok (.iadd, 1) := lkT_ok tk_MRm_readText rfl
theorem d_MRm_readText_197 : decode MRm_readText.2.2.1 197 = .ok (.aload_n 0, 1) := lkT_ok tk_MRm_readText rfl
theorem d_MRm_readText_198 : decode MRm_readText.2.2.1 198 = .ok (.getfield 50, 3) := lkT_ok tk_MRm_readText rfl
theorem d_MRm_readText_201 : decode MRm_readText.2.2.1 201 = .ok (.sipush 244, 3) := lkT_ok tk_MRm_readText rfl
theorem d_MRm_readText_204 : decode MRm_readText.2.2.1 204 = .ok (.iload_n 2, 1) := lkT_ok tk_MRm_readText rfl
theorem d_MRm_readText_205 : decode MRm_readText.2.2.1 205 = .ok (.iadd, 1) := lkT_ok tk_MRm_readText rfl
theorem d_MRm_readText_206 : decode MRm_readText.2.2.1 206 = .ok (.saload, 1) := lkT_ok tk_MRm_readText rfl
theorem d_MRm_readText_207 : decode MRm_readText.2.2.1 207 = .ok (.sastore, 1) := lkT_ok tk_MRm_readText rfl
theorem d_MRm_readText_208 : decode MRm_readText.2.2.1 208 = .ok (.aload_n 0, 1) := lkT_ok tk_MRm_readText rfl
theorem d_MRm_readText_209 : decode MRm_readText.2.2.1 209 = .ok (.getfield 54, 3) := lkT_ok tk_MRm_readText rfl
theorem d_MRm_readText_212 : decode MRm_readText.2.2.1 212 = .ok (.bipush 61, 2) := lkT_ok tk_MRm_readText rfl
theorem d_MRm_readText_214 : decode MRm_readText.2.2.1 214 = .ok (.iload_n 1, 1) := lkT_ok tk_MRm_readText rfl
theorem d_MRm_readText_215 : decode MRm_readText.2.2.1 215 = .ok (.imul, 1) := lkT_ok tk_MRm_readText rfl
theorem d_MRm_readText_216 : decode MRm_readText.2.2.1 216 = .ok (.iload_n 2, 1) := lkT_ok tk_MRm_readText rfl
theorem d_MRm_readText_217 : decode MRm_readText.2.2.1 217 = .ok (.iadd, 1) := lkT_ok tk_MRm_readText rfl
theorem d_MRm_readText_218 : decode MRm_readText.2.2.1 218 = .ok (.aload_n 0, 1) := lkT_ok tk_MRm_readText rfl
theorem d_MRm_readText_219 : decode MRm_readText.2.2.1 219 = .ok (.getfield 54, 3) := lkT_ok tk_MRm_readText rfl
theorem d_MRm_readText_222 : decode MRm_readText.2.2.1 222 = .ok (.sipush 244, 3) := lkT_ok tk_MRm_readText rfl
theorem d_MRm_readText_225 : decode MRm_readText.2.2.1 225 = .ok (.iload_n 2, 1) := lkT_ok tk_MRm_readText rfl
theorem d_MRm_readText_226 : decode MRm_readText.2.2.1 226 = .ok (.iadd, 1) := lkT_ok tk_MRm_readText rfl
theorem d_MRm_readText_227 : decode MRm_readText.2.2.1 227 = .ok (.saload, 1) := lkT_ok tk_MRm_readText rfl
theorem d_MRm_readText_228 : decode MRm_readText.2.2.1 228 = .ok (.sastore, 1) := lkT_ok tk_MRm_readText rfl
theorem d_MRm_readText_229 : decode MRm_readText.2.2.1 229 = .ok (.iinc 2 1, 3) := lkT_ok tk_MRm_readText rfl
theorem d_MRm_readText_232 : decode MRm_readText.2.2.1 232 = .ok (.goto (-55), 3) := lkT_ok tk_MRm_readText rfl
theorem d_MRm_readText_235 : decode MRm_readText.2.2.1 235 = .ok (.iconst (-1), 1) := lkT_ok tk_MRm_readText rfl
theorem d_MRm_readText_236 : decode MRm_readText.2.2.1 236 = .ok (.ireturn, 1) := lkT_ok tk_MRm_readText rfl
theorem r_MRm_readText_0 {l1 l2 : Value} {x : Nat} : Rr X d MRm_readText 0 [.ref x, l1, l2] st h = Rr X d MRm_readText 1 [.ref x, l1, l2] (.ref x :: st) h := Rr_nx d_MRm_readText_0 rfl
theorem r_MRm_readText_1 : Rr X d MRm_readText 1 L st h = Rr X d MRm_readText 2 L (.int (0) :: st) h := Rr_nx d_MRm_readText_1 rfl
theorem r_MRm_readText_2 {a : Nat} {x : Int32} (hq : qI a 10 18 = true) : Rr X d MRm_readText 2 L (.int x :: .ref a :: st) (Wd mu la ro et) = Rr X d MRm_readText 5 L st (Wd (up2 mu a 18 x) la ro et) := R_pfI d_MRm_readText_2 ff_10_120 hq
theorem r_MRm_readText_5 {l1 l2 : Value} {x : Nat} : Rr X d MRm_readText 5 [.ref x, l1, l2] st h = Rr X d MRm_readText 6 [.ref x, l1, l2] (.ref x :: st) h := Rr_nx d_MRm_readText_5 rfl
theorem r_MRm_readText_6 : Rr X d MRm_readText 6 L st h = Rr X d MRm_readText 7 L (.int (-1) :: st) h := Rr_nx d_MRm_readText_6 rfl
theorem r_MRm_readText_7 {a : Nat} {x : Int32} (hq : qI a 10 19 = true) : Rr X d MRm_readText 7 L (.int x :: .ref a :: st) (Wd mu la ro et) = Rr X d MRm_readText 10 L st (Wd (up2 mu a 19 x) la ro et) := R_pfI d_MRm_readText_7 ff_10_117 hq
theorem r_MRm_readText_10 {l1 l2 : Value} {x : Nat} : Rr X d MRm_readText 10 [.ref x, l1, l2] st h = Rr X d MRm_readText 11 [.ref x, l1, l2] (.ref x :: st) h := Rr_nx d_MRm_readText_10 rfl
theorem r_MRm_readText_11 : Rr X d MRm_readText 11 L st h = Rr X d MRm_readText 12 L (.int (0) :: st) h := Rr_nx d_MRm_readText_11 rfl
theorem r_MRm_readText_12 {a : Nat} {x : Int32} (hq : qI a 10 20 = true) : Rr X d MRm_readText 12 L (.int x :: .ref a :: st) (Wd mu la ro et) = Rr X d MRm_readText 15 L st (Wd (up2 mu a 20 x) la ro et) := R_pfI d_MRm_readText_12 ff_10_200 hq
theorem r_MRm_readText_15 {l1 l2 : Value} {x : Nat} : Rr X d MRm_readText 15 [.ref x, l1, l2] st h = Rr X d MRm_readText 16 [.ref x, l1, l2] (.ref x :: st) h := Rr_nx d_MRm_readText_15 rfl
theorem r_MRm_readText_16 : Rr X d MRm_readText 16 L st h = Rr X d MRm_readText 17 L (.int (0) :: st) h := Rr_nx d_MRm_readText_16 rfl
theorem r_MRm_readText_17 {a : Nat} {x : Int32} (hq : qI a 10 21 = true) : Rr X d MRm_readText 17 L (.int x :: .ref a :: st) (Wd mu la ro et) = Rr X d MRm_readText 20 L st (Wd (up2 mu a 21 x) la ro et) := R_pfI d_MRm_readText_17 ff_10_197 hq
theorem r_MRm_readText_20 {l1 l2 : Value} {x : Nat} : Rr X d MRm_readText 20 [.ref x, l1, l2] st h = Rr X d MRm_readText 21 [.ref x, l1, l2] (.ref x :: st) h := Rr_nx d_MRm_readText_20 rfl
theorem r_MRm_readText_21 {a : Nat} (hq : (qR a 10 24).isSome = true) : Rr X d MRm_readText 21 L (.ref a :: st) (Wd mu la ro et) = Rr X d MRm_readText 24 L (.ref (qRd a 10 24) :: st) (Wd mu la ro et) := R_gfR d_MRm_readText_21 ff_10_47 hq
theorem r_MRm_readText_24 : Rr X d MRm_readText 24 L st h = Rr X d MRm_readText 25 L (.int (4) :: st) h := Rr_nx d_MRm_readText_24 rfl
theorem r_MRm_readText_25 : Rr X d MRm_readText 25 L st h = Rr X d MRm_readText 26 L (.int (0) :: st) h := Rr_nx d_MRm_readText_25 rfl
theorem r_MRm_readText_26 {a : Nat} {j x : Int32} (hq : (qA a 0).isSome = true) : Rr X d MRm_readText 26 L (.int x :: .int j :: .ref a :: st) (Wd mu la ro et) = if j < 0 ∨ qAd a 0 ≤ j.toNatClampNeg then none else Rr X d MRm_readText 27 L st (Wd (up2 mu a j.toNatClampNeg (x)) la ro et) := R_iasW d_MRm_readText_26 hq
theorem r_MRm_readText_27 {l1 l2 : Value} {x : Nat} : Rr X d MRm_readText 27 [.ref x, l1, l2] st h = Rr X d MRm_readText 28 [.ref x, l1, l2] (.ref x :: st) h := Rr_nx d_MRm_readText_27 rfl
theorem fc_10_241 : fC 10 241 = some (0, 10, 0, MRm_line) := rfl
theorem r_MRm_readText_28 {a : Nat} (hO : qO a 10 = true) (hc : ckS st = true) : Rr X (d + 1) MRm_readText 28 L (.ref a :: st) (Wd mu la ro et) = (Rr X d MRm_line 0 [.ref a, mkU] [] (Wd mu la ro et)).bind fun q => Rr X (d + 1) MRm_readText 31 L (psh q.1 st) q.2 := R_iv (av := []) d_MRm_readText_28 fc_10_241 hO (ckS_le hc) rfl (Nat.le_of_ble_eq_true rfl) (Nat.le_of_ble_eq_true rfl)
theorem r_MRm_readText_31 {l1 l2 : Value} {x : Nat} : Rr X d MRm_readText 31 [.ref x, l1, l2] st h = Rr X d MRm_readText 32 [.ref x, l1, l2] (.ref x :: st) h := Rr_nx d_MRm_readText_31 rfl
theorem r_MRm_readText_32 {a : Nat} (hq : qI a 10 19 = true) : Rr X d MRm_readText 32 L (.ref a :: st) (Wd mu la ro et) = Rr X d MRm_readText 35 L (.int (mu a 19) :: st) (Wd mu la ro et) := R_gfI d_MRm_readText_32 ff_10_117 hq
theorem r_MRm_readText_35 {x : Int32} : Rr X d MRm_readText 35 L (.int x :: st) h = if 0 ≤ x then Rr X d MRm_readText 64 L st h else Rr X d MRm_readText 38 L st h := R_if_ge d_MRm_readText_35 (by decide)
theorem r_MRm_readText_38 {l1 l2 : Value} {x : Nat} : Rr X d MRm_readText 38 [.ref x, l1, l2] st h = Rr X d MRm_readText 39 [.ref x, l1, l2] (.ref x :: st) h := Rr_nx d_MRm_readText_38 rfl
theorem r_MRm_readText_39 {a : Nat} (hO : qO a 10 = true) (hc : ckS st = true) : Rr X (d + 1) MRm_readText 39 L (.ref a :: st) (Wd mu la ro et) = (Rr X d MRm_look 0 [.ref a] [] (Wd mu la ro et)).bind fun q => Rr X (d + 1) MRm_readText 42 L (psh q.1 st) q.2 := R_iv (av := []) d_MRm_readText_39 fc_10_206 hO (ckS_le hc) rfl (Nat.le_of_ble_eq_true rfl) (Nat.le_of_ble_eq_true rfl)
theorem r_MRm_readText_42 : Rr X d MRm_readText 42 L st h = Rr X d MRm_readText 44 L (.int (59) :: st) h := Rr_nx d_MRm_readText_42 rfl
theorem r_MRm_readText_44 {x y : Int32} : Rr X d MRm_readText 44 L (.int y :: .int x :: st) h = if ¬ x = y then Rr X d MRm_readText 64 L st h else Rr X d MRm_readText 47 L st h := R_ic_ne d_MRm_readText_44 (by decide)
theorem r_MRm_readText_47 {l1 l2 : Value} {x : Nat} : Rr X d MRm_readText 47 [.ref x, l1, l2] st h = Rr X d MRm_readText 48 [.ref x, l1, l2] (.ref x :: st) h := Rr_nx d_MRm_readText_47 rfl
theorem r_MRm_readText_48 {x : Nat} : Rr X d MRm_readText 48 L (.ref x :: st) h = Rr X d MRm_readText 49 L (.ref x :: .ref x :: st) h := Rr_nx d_MRm_readText_48 rfl
theorem r_MRm_readText_48i {x : Int32} : Rr X d MRm_readText 48 L (.int x :: st) h = Rr X d MRm_readText 49 L (.int x :: .int x :: st) h := Rr_nx d_MRm_readText_48 rfl
theorem r_MRm_readText_49 {a : Nat} (hq : qI a 10 18 = true) : Rr X d MRm_readText 49 L (.ref a :: st) (Wd mu la ro et) = Rr X d MRm_readText 52 L (.int (mu a 18) :: st) (Wd mu la ro et) := R_gfI d_MRm_readText_49 ff_10_120 hq
theorem r_MRm_readText_52 : Rr X d MRm_readText 52 L st h = Rr X d MRm_readText 53 L (.int (1) :: st) h := Rr_nx d_MRm_readText_52 rfl
theorem r_MRm_readText_53 {x y : Int32} : Rr X d MRm_readText 53 L (.int y :: .int x :: st) h = Rr X d MRm_readText 54 L (.int (x + y) :: st) h := Rr_nx d_MRm_readText_53 rfl
theorem r_MRm_readText_54 {a : Nat} {x : Int32} (hq : qI a 10 18 = true) : Rr X d MRm_readText 54 L (.int x :: .ref a :: st) (Wd mu la ro et) = Rr X d MRm_readText 57 L st (Wd (up2 mu a 18 x) la ro et) := R_pfI d_MRm_readText_54 ff_10_120 hq
theorem r_MRm_readText_57 {l1 l2 : Value} {x : Nat} : Rr X d MRm_readText 57 [.ref x, l1, l2] st h = Rr X d MRm_readText 58 [.ref x, l1, l2] (.ref x :: st) h := Rr_nx d_MRm_readText_57 rfl
theorem r_MRm_readText_58 {a : Nat} (hO : qO a 10 = true) (hc : ckS st = true) : Rr X (d + 1) MRm_readText 58 L (.ref a :: st) (Wd mu la ro et) = (Rr X d MRm_line 0 [.ref a, mkU] [] (Wd mu la ro et)).bind fun q => Rr X (d + 1) MRm_readText 61 L (psh q.1 st) q.2 := R_iv (av := []) d_MRm_readText_58 fc_10_241 hO (ckS_le hc) rfl (Nat.le_of_ble_eq_true rfl) (Nat.le_of_ble_eq_true rfl)
theorem r_MRm_readText_61 : Rr X d MRm_readText 61 L st h = Rr X d MRm_readText 31 L st h := R_goto d_MRm_readText_61 (by decide)
theorem r_MRm_readText_64 {l1 l2 : Value} {x : Nat} : Rr X d MRm_readText 64 [.ref x, l1, l2] st h = Rr X d MRm_readText 65 [.ref x, l1, l2] (.ref x :: st) h := Rr_nx d_MRm_readText_64 rfl
theorem r_MRm_readText_65 {a : Nat} (hq : qI a 10 19 = true) : Rr X d MRm_readText 65 L (.ref a :: st) (Wd mu la ro et) = Rr X d MRm_readText 68 L (.int (mu a 19) :: st) (Wd mu la ro et) := R_gfI d_MRm_readText_65 ff_10_117 hq
theorem r_MRm_readText_68 {x : Int32} : Rr X d MRm_readText 68 L (.int x :: st) h = if 0 ≤ x then Rr X d MRm_readText 86 L st h else Rr X d MRm_readText 71 L st h := R_if_ge d_MRm_readText_68 (by decide)
theorem r_MRm_readText_71 {l1 l2 : Value} {x : Nat} : Rr X d MRm_readText 71 [.ref x, l1, l2] st h = Rr X d MRm_readText 72 [.ref x, l1, l2] (.ref x :: st) h := Rr_nx d_MRm_readText_71 rfl
theorem r_MRm_readText_72 {a : Nat} (hq : qI a 10 18 = true) : Rr X d MRm_readText 72 L (.ref a :: st) (Wd mu la ro et) = Rr X d MRm_readText 75 L (.int (mu a 18) :: st) (Wd mu la ro et) := R_gfI d_MRm_readText_72 ff_10_120 hq
theorem r_MRm_readText_75 {l1 l2 : Value} {x : Nat} : Rr X d MRm_readText 75 [.ref x, l1, l2] st h = Rr X d MRm_readText 76 [.ref x, l1, l2] (.ref x :: st) h := Rr_nx d_MRm_readText_75 rfl
theorem r_MRm_readText_76 {a : Nat} (hq : qI a 10 2 = true) : Rr X d MRm_readText 76 L (.ref a :: st) (Wd mu la ro et) = Rr X d MRm_readText 79 L (.int (mu a 2) :: st) (Wd mu la ro et) := R_gfI d_MRm_readText_76 ff_10_111 hq
theorem r_MRm_readText_79 {x y : Int32} : Rr X d MRm_readText 79 L (.int y :: .int x :: st) h = if y ≤ x then Rr X d MRm_readText 86 L st h else Rr X d MRm_readText 82 L st h := R_ic_ge d_MRm_readText_79 (by decide)
theorem r_MRm_readText_82 {l1 l2 : Value} {x : Nat} : Rr X d MRm_readText 82 [.ref x, l1, l2] st h = Rr X d MRm_readText 83 [.ref x, l1, l2] (.ref x :: st) h := Rr_nx d_MRm_readText_82 rfl
theorem r_MRm_readText_83 {a : Nat} (hO : qO a 10 = true) (hc : ckS st = true) : Rr X (d + 1) MRm_readText 83 L (.ref a :: st) (Wd mu la ro et) = (Rr X d MRm_wrong 0 [.ref a] [] (Wd mu la ro et)).bind fun q => Rr X (d + 1) MRm_readText 86 L (psh q.1 st) q.2 := R_iv (av := []) d_MRm_readText_83 fc_10_203 hO (ckS_le hc) rfl (Nat.le_of_ble_eq_true rfl) (Nat.le_of_ble_eq_true rfl)
theorem r_MRm_readText_86 {l1 l2 : Value} {x : Nat} : Rr X d MRm_readText 86 [.ref x, l1, l2] st h = Rr X d MRm_readText 87 [.ref x, l1, l2] (.ref x :: st) h := Rr_nx d_MRm_readText_86 rfl
theorem r_MRm_readText_87 : Rr X d MRm_readText 87 L st h = Rr X d MRm_readText 88 L (.int (0) :: st) h := Rr_nx d_MRm_readText_87 rfl
theorem r_MRm_readText_88 {a : Nat} {x : Int32} (hq : qI a 10 2 = true) : Rr X d MRm_readText 88 L (.int x :: .ref a :: st) (Wd mu la ro et) = Rr X d MRm_readText 91 L st (Wd (up2 mu a 2 x) la ro et) := R_pfI d_MRm_readText_88 ff_10_111 hq
theorem r_MRm_readText_91 {l1 l2 : Value} {x : Nat} : Rr X d MRm_readText 91 [.ref x, l1, l2] st h = Rr X d MRm_readText 92 [.ref x, l1, l2] (.ref x :: st) h := Rr_nx d_MRm_readText_91 rfl
theorem r_MRm_readText_92 {a : Nat} (hq : qI a 10 19 = true) : Rr X d MRm_readText 92 L (.ref a :: st) (Wd mu la ro et) = Rr X d MRm_readText 95 L (.int (mu a 19) :: st) (Wd mu la ro et) := R_gfI d_MRm_readText_92 ff_10_117 hq
theorem r_MRm_readText_95 {x : Int32} : Rr X d MRm_readText 95 L (.int x :: st) h = if x < 0 then Rr X d MRm_readText 103 L st h else Rr X d MRm_readText 98 L st h := R_if_lt d_MRm_readText_95 (by decide)
theorem r_MRm_readText_98 {l1 l2 : Value} {x : Nat} : Rr X d MRm_readText 98 [.ref x, l1, l2] st h = Rr X d MRm_readText 99 [.ref x, l1, l2] (.ref x :: st) h := Rr_nx d_MRm_readText_98 rfl
theorem r_MRm_readText_99 {a : Nat} (hq : qI a 10 19 = true) : Rr X d MRm_readText 99 L (.ref a :: st) (Wd mu la ro et) = Rr X d MRm_readText 102 L (.int (mu a 19) :: st) (Wd mu la ro et) := R_gfI d_MRm_readText_99 ff_10_117 hq
theorem r_MRm_readText_102 {x : Int32} : Rr X d MRm_readText 102 L [.int x] h = some (some (.int x), h) := R_ir d_MRm_readText_102 rfl
theorem r_MRm_readText_103 : Rr X d MRm_readText 103 L st h = Rr X d MRm_readText 104 L (.int (0) :: st) h := Rr_nx d_MRm_readText_103 rfl
theorem r_MRm_readText_104 {l0 l1 l2 : Value} {x : Int32} : Rr X d MRm_readText 104 [l0, l1, l2] (.int x :: st) h = Rr X d MRm_readText 105 (sL [l0, l1, l2] 2 (.int x)) st h := Rr_nx d_MRm_readText_104 rfl
theorem r_MRm_readText_105 {l0 l1 : Value} {x : Int32} : Rr X d MRm_readText 105 [l0, l1, .int x] st h = Rr X d MRm_readText 106 [l0, l1, .int x] (.int x :: st) h := Rr_nx d_MRm_readText_105 rfl
theorem r_MRm_readText_106 {l1 l2 : Value} {x : Nat} : Rr X d MRm_readText 106 [.ref x, l1, l2] st h = Rr X d MRm_readText 107 [.ref x, l1, l2] (.ref x :: st) h := Rr_nx d_MRm_readText_106 rfl
theorem r_MRm_readText_107 {a : Nat} (hq : qI a 10 21 = true) : Rr X d MRm_readText 107 L (.ref a :: st) (Wd mu la ro et) = Rr X d MRm_readText 110 L (.int (mu a 21) :: st) (Wd mu la ro et) := R_gfI d_MRm_readText_107 ff_10_197 hq
theorem r_MRm_readText_110 {x y : Int32} : Rr X d MRm_readText 110 L (.int y :: .int x :: st) h = if y ≤ x then Rr X d MRm_readText 163 L st h else Rr X d MRm_readText 113 L st h := R_ic_ge d_MRm_readText_110 (by decide)
theorem r_MRm_readText_113 {l1 l2 : Value} {x : Nat} : Rr X d MRm_readText 113 [.ref x, l1, l2] st h = Rr X d MRm_readText 114 [.ref x, l1, l2] (.ref x :: st) h := Rr_nx d_MRm_readText_113 rfl
theorem r_MRm_readText_114 {a : Nat} (hq : (qR a 10 22).isSome = true) : Rr X d MRm_readText 114 L (.ref a :: st) (Wd mu la ro et) = Rr X d MRm_readText 117 L (.ref (qRd a 10 22) :: st) (Wd mu la ro et) := R_gfR d_MRm_readText_114 ff_10_41 hq
theorem r_MRm_readText_117 : Rr X d MRm_readText 117 L st h = Rr X d MRm_readText 120 L (.int (130) :: st) h := Rr_nx d_MRm_readText_117 rfl
theorem r_MRm_readText_120 {l0 l2 : Value} {x : Int32} : Rr X d MRm_readText 120 [l0, .int x, l2] st h = Rr X d MRm_readText 121 [l0, .int x, l2] (.int x :: st) h := Rr_nx d_MRm_readText_120 rfl
theorem r_MRm_readText_121 {x y : Int32} : Rr X d MRm_readText 121 L (.int y :: .int x :: st) h = Rr X d MRm_readText 122 L (.int (x * y) :: st) h := Rr_nx d_MRm_readText_121 rfl
theorem r_MRm_readText_122 {l0 l1 : Value} {x : Int32} : Rr X d MRm_readText 122 [l0, l1, .int x] st h = Rr X d MRm_readText 123 [l0, l1, .int x] (.int x :: st) h := Rr_nx d_MRm_readText_122 rfl
theorem r_MRm_readText_123 {x y : Int32} : Rr X d MRm_readText 123 L (.int y :: .int x :: st) h = Rr X d MRm_readText 124 L (.int (x + y) :: st) h := Rr_nx d_MRm_readText_123 rfl
theorem r_MRm_readText_124 {l1 l2 : Value} {x : Nat} : Rr X d MRm_readText 124 [.ref x, l1, l2] st h = Rr X d MRm_readText 125 [.ref x, l1, l2] (.ref x :: st) h := Rr_nx d_MRm_readText_124 rfl
theorem r_MRm_readText_125 {a : Nat} (hq : (qR a 10 22).isSome = true) : Rr X d MRm_readText 125 L (.ref a :: st) (Wd mu la ro et) = Rr X d MRm_readText 128 L (.ref (qRd a 10 22) :: st) (Wd mu la ro et) := R_gfR d_MRm_readText_125 ff_10_41 hq
theorem r_MRm_readText_128 : Rr X d MRm_readText 128 L st h = Rr X d MRm_readText 131 L (.int (520) :: st) h := Rr_nx d_MRm_readText_128 rfl
theorem r_MRm_readText_131 {l0 l1 : Value} {x : Int32} : Rr X d MRm_readText 131 [l0, l1, .int x] st h = Rr X d MRm_readText 132 [l0, l1, .int x] (.int x :: st) h := Rr_nx d_MRm_readText_131 rfl
theorem r_MRm_readText_132 {x y : Int32} : Rr X d MRm_readText 132 L (.int y :: .int x :: st) h = Rr X d MRm_readText 133 L (.int (x + y) :: st) h := Rr_nx d_MRm_readText_132 rfl
theorem r_MRm_readText_133 {a : Nat} {j : Int32} (hq : (qA a 2).isSome = true) : Rr X d MRm_readText 133 L (.int j :: .ref a :: st) (Wd mu la ro et) = if j < 0 ∨ qAd a 2 ≤ j.toNatClampNeg then none else Rr X d MRm_readText 134 L (.int (mu a j.toNatClampNeg) :: st) (Wd mu la ro et) := R_balW d_MRm_readText_133 hq
theorem r_MRm_readText_134 {a : Nat} {j x : Int32} (hq : (qA a 2).isSome = true) : Rr X d MRm_readText 134 L (.int x :: .int j :: .ref a :: st) (Wd mu la ro et) = if j < 0 ∨ qAd a 2 ≤ j.toNatClampNeg then none else Rr X d MRm_readText 135 L st (Wd (up2 mu a j.toNatClampNeg (x.toInt8.toInt32)) la ro et) := R_basW d_MRm_readText_134 hq
theorem r_MRm_readText_135 {l1 l2 : Value} {x : Nat} : Rr X d MRm_readText 135 [.ref x, l1, l2] st h = Rr X d MRm_readText 136 [.ref x, l1, l2] (.ref x :: st) h := Rr_nx d_MRm_readText_135 rfl
theorem r_MRm_readText_136 {a : Nat} (hq : (qR a 10 23).isSome = true) : Rr X d MRm_readText 136 L (.ref a :: st) (Wd mu la ro et) = Rr X d MRm_readText 139 L (.ref (qRd a 10 23) :: st) (Wd mu la ro et) := R_gfR d_MRm_readText_136 ff_10_44 hq
theorem r_MRm_readText_139 : Rr X d MRm_readText 139 L st h = Rr X d MRm_readText 142 L (.int (130) :: st) h := Rr_nx d_MRm_readText_139 rfl
theorem r_MRm_readText_142 {l0 l2 : Value} {x : Int32} : Rr X d MRm_readText 142 [l0, .int x, l2] st h = Rr X d MRm_readText 143 [l0, .int x, l2] (.int x :: st) h := Rr_nx d_MRm_readText_142 rfl
theorem r_MRm_readText_143 {x y : Int32} : Rr X d MRm_readText 143 L (.int y :: .int x :: st) h = Rr X d MRm_readText 144 L (.int (x * y) :: st) h := Rr_nx d_MRm_readText_143 rfl
theorem r_MRm_readText_144 {l0 l1 : Value} {x : Int32} : Rr X d MRm_readText 144 [l0, l1, .int x] st h = Rr X d MRm_readText 145 [l0, l1, .int x] (.int x :: st) h := Rr_nx d_MRm_readText_144 rfl
theorem r_MRm_readText_145 {x y : Int32} : Rr X d MRm_readText 145 L (.int y :: .int x :: st) h = Rr X d MRm_readText 146 L (.int (x + y) :: st) h := Rr_nx d_MRm_readText_145 rfl
theorem r_MRm_readText_146 {l1 l2 : Value} {x : Nat} : Rr X d MRm_readText 146 [.ref x, l1, l2] st h = Rr X d MRm_readText 147 [.ref x, l1, l2] (.ref x :: st) h := Rr_nx d_MRm_readText_146 rfl
theorem r_MRm_readText_147 {a : Nat} (hq : (qR a 10 23).isSome = true) : Rr X d MRm_readText 147 L (.ref a :: st) (Wd mu la ro et) = Rr X d MRm_readText 150 L (.ref (qRd a 10 23) :: st) (Wd mu la ro et) := R_gfR d_MRm_readText_147 ff_10_44 hq
theorem r_MRm_readText_150 : Rr X d MRm_readText 150 L st h = Rr X d MRm_readText 153 L (.int (520) :: st) h := Rr_nx d_MRm_readText_150 rfl
theorem r_MRm_readText_153 {l0 l1 : Value} {x : Int32} : Rr X d MRm_readText 153 [l0, l1, .int x] st h = Rr X d MRm_readText 154 [l0, l1, .int x] (.int x :: st) h := Rr_nx d_MRm_readText_153 rfl
theorem r_MRm_readText_154 {x y : Int32} : Rr X d MRm_readText 154 L (.int y :: .int x :: st) h = Rr X d MRm_readText 155 L (.int (x + y) :: st) h := Rr_nx d_MRm_readText_154 rfl
theorem r_MRm_readText_155 {a : Nat} {j : Int32} (hq : (qA a 0).isSome = true) : Rr X d MRm_readText 155 L (.int j :: .ref a :: st) (Wd mu la ro et) = if j < 0 ∨ qAd a 0 ≤ j.toNatClampNeg then none else Rr X d MRm_readText 156 L (.int (mu a j.toNatClampNeg) :: st) (Wd mu la ro et) := R_ialW d_MRm_readText_155 hq
theorem r_MRm_readText_156 {a : Nat} {j x : Int32} (hq : (qA a 0).isSome = true) : Rr X d MRm_readText 156 L (.int x :: .int j :: .ref a :: st) (Wd mu la ro et) = if j < 0 ∨ qAd a 0 ≤ j.toNatClampNeg then none else Rr X d MRm_readText 157 L st (Wd (up2 mu a j.toNatClampNeg (x)) la ro et) := R_iasW d_MRm_readText_156 hq
theorem r_MRm_readText_157 {l0 l1 : Value} {x : Int32} : Rr X d MRm_readText 157 [l0, l1, .int x] st h = Rr X d MRm_readText 160 (sL [l0, l1, .int x] 2 (.int (x + (1)))) st h := Rr_nx d_MRm_readText_157 rfl
theorem r_MRm_readText_160 : Rr X d MRm_readText 160 L st h = Rr X d MRm_readText 105 L st h := R_goto d_MRm_readText_160 (by decide)
theorem r_MRm_readText_163 {l1 l2 : Value} {x : Nat} : Rr X d MRm_readText 163 [.ref x, l1, l2] st h = Rr X d MRm_readText 164 [.ref x, l1, l2] (.ref x :: st) h := Rr_nx d_MRm_readText_163 rfl
theorem r_MRm_readText_164 {a : Nat} (hq : (qR a 10 24).isSome = true) : Rr X d MRm_readText 164 L (.ref a :: st) (Wd mu la ro et) = Rr X d MRm_readText 167 L (.ref (qRd a 10 24) :: st) (Wd mu la ro et) := R_gfR d_MRm_readText_164 ff_10_47 hq
theorem r_MRm_readText_167 {l0 l2 : Value} {x : Int32} : Rr X d MRm_readText 167 [l0, .int x, l2] st h = Rr X d MRm_readText 168 [l0, .int x, l2] (.int x :: st) h := Rr_nx d_MRm_readText_167 rfl
theorem r_MRm_readText_168 {l1 l2 : Value} {x : Nat} : Rr X d MRm_readText 168 [.ref x, l1, l2] st h = Rr X d MRm_readText 169 [.ref x, l1, l2] (.ref x :: st) h := Rr_nx d_MRm_readText_168 rfl
theorem r_MRm_readText_169 {a : Nat} (hq : (qR a 10 24).isSome = true) : Rr X d MRm_readText 169 L (.ref a :: st) (Wd mu la ro et) = Rr X d MRm_readText 172 L (.ref (qRd a 10 24) :: st) (Wd mu la ro et) := R_gfR d_MRm_readText_169 ff_10_47 hq
theorem r_MRm_readText_172 : Rr X d MRm_readText 172 L st h = Rr X d MRm_readText 173 L (.int (4) :: st) h := Rr_nx d_MRm_readText_172 rfl
theorem r_MRm_readText_173 {a : Nat} {j : Int32} (hq : (qA a 0).isSome = true) : Rr X d MRm_readText 173 L (.int j :: .ref a :: st) (Wd mu la ro et) = if j < 0 ∨ qAd a 0 ≤ j.toNatClampNeg then none else Rr X d MRm_readText 174 L (.int (mu a j.toNatClampNeg) :: st) (Wd mu la ro et) := R_ialW d_MRm_readText_173 hq
theorem r_MRm_readText_174 {a : Nat} {j x : Int32} (hq : (qA a 0).isSome = true) : Rr X d MRm_readText 174 L (.int x :: .int j :: .ref a :: st) (Wd mu la ro et) = if j < 0 ∨ qAd a 0 ≤ j.toNatClampNeg then none else Rr X d MRm_readText 175 L st (Wd (up2 mu a j.toNatClampNeg (x)) la ro et) := R_iasW d_MRm_readText_174 hq
theorem r_MRm_readText_175 : Rr X d MRm_readText 175 L st h = Rr X d MRm_readText 176 L (.int (0) :: st) h := Rr_nx d_MRm_readText_175 rfl
theorem r_MRm_readText_176 {l0 l1 l2 : Value} {x : Int32} : Rr X d MRm_readText 176 [l0, l1, l2] (.int x :: st) h = Rr X d MRm_readText 177 (sL [l0, l1, l2] 2 (.int x)) st h := Rr_nx d_MRm_readText_176 rfl
theorem r_MRm_readText_177 {l0 l1 : Value} {x : Int32} : Rr X d MRm_readText 177 [l0, l1, .int x] st h = Rr X d MRm_readText 178 [l0, l1, .int x] (.int x :: st) h := Rr_nx d_MRm_readText_177 rfl
theorem r_MRm_readText_178 {l1 l2 : Value} {x : Nat} : Rr X d MRm_readText 178 [.ref x, l1, l2] st h = Rr X d MRm_readText 179 [.ref x, l1, l2] (.ref x :: st) h := Rr_nx d_MRm_readText_178 rfl
theorem r_MRm_readText_179 {a : Nat} (hq : (qR a 10 24).isSome = true) : Rr X d MRm_readText 179 L (.ref a :: st) (Wd mu la ro et) = Rr X d MRm_readText 182 L (.ref (qRd a 10 24) :: st) (Wd mu la ro et) := R_gfR d_MRm_readText_179 ff_10_47 hq
theorem r_MRm_readText_182 {l0 l2 : Value} {x : Int32} : Rr X d MRm_readText 182 [l0, .int x, l2] st h = Rr X d MRm_readText 183 [l0, .int x, l2] (.int x :: st) h := Rr_nx d_MRm_readText_182 rfl
theorem r_MRm_readText_183 {a : Nat} {j : Int32} (hq : (qA a 0).isSome = true) : Rr X d MRm_readText 183 L (.int j :: .ref a :: st) (Wd mu la ro et) = if j < 0 ∨ qAd a 0 ≤ j.toNatClampNeg then none else Rr X d MRm_readText 184 L (.int (mu a j.toNatClampNeg) :: st) (Wd mu la ro et) := R_ialW d_MRm_readText_183 hq
theorem r_MRm_readText_184 {x y : Int32} : Rr X d MRm_readText 184 L (.int y :: .int x :: st) h = if y ≤ x then Rr X d MRm_readText 235 L st h else Rr X d MRm_readText 187 L st h := R_ic_ge d_MRm_readText_184 (by decide)
theorem r_MRm_readText_187 {l1 l2 : Value} {x : Nat} : Rr X d MRm_readText 187 [.ref x, l1, l2] st h = Rr X d MRm_readText 188 [.ref x, l1, l2] (.ref x :: st) h := Rr_nx d_MRm_readText_187 rfl
theorem r_MRm_readText_188 {a : Nat} (hq : (qR a 10 25).isSome = true) : Rr X d MRm_readText 188 L (.ref a :: st) (Wd mu la ro et) = Rr X d MRm_readText 191 L (.ref (qRd a 10 25) :: st) (Wd mu la ro et) := R_gfR d_MRm_readText_188 ff_10_50 hq
theorem r_MRm_readText_191 : Rr X d MRm_readText 191 L st h = Rr X d MRm_readText 193 L (.int (61) :: st) h := Rr_nx d_MRm_readText_191 rfl
theorem r_MRm_readText_193 {l0 l2 : Value} {x : Int32} : Rr X d MRm_readText 193 [l0, .int x, l2] st h = Rr X d MRm_readText 194 [l0, .int x, l2] (.int x :: st) h := Rr_nx d_MRm_readText_193 rfl
theorem r_MRm_readText_194 {x y : Int32} : Rr X d MRm_readText 194 L (.int y :: .int x :: st) h = Rr X d MRm_readText 195 L (.int (x * y) :: st) h := Rr_nx d_MRm_readText_194 rfl
theorem r_MRm_readText_195 {l0 l1 : Value} {x : Int32} : Rr X d MRm_readText 195 [l0, l1, .int x] st h = Rr X d MRm_readText 196 [l0, l1, .int x] (.int x :: st) h := Rr_nx d_MRm_readText_195 rfl
theorem r_MRm_readText_196 {x y : Int32} : Rr X d MRm_readText 196 L (.int y :: .int x :: st) h = Rr X d MRm_readText 197 L (.int (x + y) :: st) h := Rr_nx d_MRm_readText_196 rfl
theorem r_MRm_readText_197 {l1 l2 : Value} {x : Nat} : Rr X d MRm_readText 197 [.ref x, l1, l2] st h = Rr X d MRm_readText 198 [.ref x, l1, l2] (.ref x :: st) h := Rr_nx d_MRm_readText_197 rfl
theorem r_MRm_readText_198 {a : Nat} (hq : (qR a 10 25).isSome = true) : Rr X d MRm_readText 198 L (.ref a :: st) (Wd mu la ro et) = Rr X d MRm_readText 201 L (.ref (qRd a 10 25) :: st) (Wd mu la ro et) := R_gfR d_MRm_readText_198 ff_10_50 hq
theorem r_MRm_readText_201 : Rr X d MRm_readText 201 L st h = Rr X d MRm_readText 204 L (.int (244) :: st) h := Rr_nx d_MRm_readText_201 rfl
theorem r_MRm_readText_204 {l0 l1 : Value} {x : Int32} : Rr X d MRm_readText 204 [l0, l1, .int x] st h = Rr X d MRm_readText 205 [l0, l1, .int x] (.int x :: st) h := Rr_nx d_MRm_readText_204 rfl
theorem r_MRm_readText_205 {x y : Int32} : Rr X d MRm_readText 205 L (.int y :: .int x :: st) h = Rr X d MRm_readText 206 L (.int (x + y) :: st) h := Rr_nx d_MRm_readText_205 rfl
theorem r_MRm_readText_206 {a : Nat} {j : Int32} (hq : (qA a 3).isSome = true) : Rr X d MRm_readText 206 L (.int j :: .ref a :: st) (Wd mu la ro et) = if j < 0 ∨ qAd a 3 ≤ j.toNatClampNeg then none else Rr X d MRm_readText 207 L (.int (mu a j.toNatClampNeg) :: st) (Wd mu la ro et) := R_salW d_MRm_readText_206 hq
theorem r_MRm_readText_207 {a : Nat} {j x : Int32} (hq : (qA a 3).isSome = true) : Rr X d MRm_readText 207 L (.int x :: .int j :: .ref a :: st) (Wd mu la ro et) = if j < 0 ∨ qAd a 3 ≤ j.toNatClampNeg then none else Rr X d MRm_readText 208 L st (Wd (up2 mu a j.toNatClampNeg (x.toInt16.toInt32)) la ro et) := R_sasW d_MRm_readText_207 hq
theorem r_MRm_readText_208 {l1 l2 : Value} {x : Nat} : Rr X d MRm_readText 208 [.ref x, l1, l2] st h = Rr X d MRm_readText 209 [.ref x, l1, l2] (.ref x :: st) h := Rr_nx d_MRm_readText_208 rfl
theorem r_MRm_readText_209 {a : Nat} (hq : (qR a 10 26).isSome = true) : Rr X d MRm_readText 209 L (.ref a :: st) (Wd mu la ro et) = Rr X d MRm_readText 212 L (.ref (qRd a 10 26) :: st) (Wd mu la ro et) := R_gfR d_MRm_readText_209 ff_10_54 hq
theorem r_MRm_readText_212 : Rr X d MRm_readText 212 L st h = Rr X d MRm_readText 214 L (.int (61) :: st) h := Rr_nx d_MRm_readText_212 rfl
theorem r_MRm_readText_214 {l0 l2 : Value} {x : Int32} : Rr X d MRm_readText 214 [l0, .int x, l2] st h = Rr X d MRm_readText 215 [l0, .int x, l2] (.int x :: st) h := Rr_nx d_MRm_readText_214 rfl
theorem r_MRm_readText_215 {x y : Int32} : Rr X d MRm_readText 215 L (.int y :: .int x :: st) h = Rr X d MRm_readText 216 L (.int (x * y) :: st) h := Rr_nx d_MRm_readText_215 rfl
theorem r_MRm_readText_216 {l0 l1 : Value} {x : Int32} : Rr X d MRm_readText 216 [l0, l1, .int x] st h = Rr X d MRm_readText 217 [l0, l1, .int x] (.int x :: st) h := Rr_nx d_MRm_readText_216 rfl
theorem r_MRm_readText_217 {x y : Int32} : Rr X d MRm_readText 217 L (.int y :: .int x :: st) h = Rr X d MRm_readText 218 L (.int (x + y) :: st) h := Rr_nx d_MRm_readText_217 rfl
theorem r_MRm_readText_218 {l1 l2 : Value} {x : Nat} : Rr X d MRm_readText 218 [.ref x, l1, l2] st h = Rr X d MRm_readText 219 [.ref x, l1, l2] (.ref x :: st) h := Rr_nx d_MRm_readText_218 rfl
theorem r_MRm_readText_219 {a : Nat} (hq : (qR a 10 26).isSome = true) : Rr X d MRm_readText 219 L (.ref a :: st) (Wd mu la ro et) = Rr X d MRm_readText 222 L (.ref (qRd a 10 26) :: st) (Wd mu la ro et) := R_gfR d_MRm_readText_219 ff_10_54 hq
theorem r_MRm_readText_222 : Rr X d MRm_readText 222 L st h = Rr X d MRm_readText 225 L (.int (244) :: st) h := Rr_nx d_MRm_readText_222 rfl
theorem r_MRm_readText_225 {l0 l1 : Value} {x : Int32} : Rr X d MRm_readText 225 [l0, l1, .int x] st h = Rr X d MRm_readText 226 [l0, l1, .int x] (.int x :: st) h := Rr_nx d_MRm_readText_225 rfl
theorem r_MRm_readText_226 {x y : Int32} : Rr X d MRm_readText 226 L (.int y :: .int x :: st) h = Rr X d MRm_readText 227 L (.int (x + y) :: st) h := Rr_nx d_MRm_readText_226 rfl
theorem r_MRm_readText_227 {a : Nat} {j : Int32} (hq : (qA a 3).isSome = true) : Rr X d MRm_readText 227 L (.int j :: .ref a :: st) (Wd mu la ro et) = if j < 0 ∨ qAd a 3 ≤ j.toNatClampNeg then none else Rr X d MRm_readText 228 L (.int (mu a j.toNatClampNeg) :: st) (Wd mu la ro et) := R_salW d_MRm_readText_227 hq
theorem r_MRm_readText_228 {a : Nat} {j x : Int32} (hq : (qA a 3).isSome = true) : Rr X d MRm_readText 228 L (.int x :: .int j :: .ref a :: st) (Wd mu la ro et) = if j < 0 ∨ qAd a 3 ≤ j.toNatClampNeg then none else Rr X d MRm_readText 229 L st (Wd (up2 mu a j.toNatClampNeg (x.toInt16.toInt32)) la ro et) := R_sasW d_MRm_readText_228 hq
theorem r_MRm_readText_229 {l0 l1 : Value} {x : Int32} : Rr X d MRm_readText 229 [l0, l1, .int x] st h = Rr X d MRm_readText 232 (sL [l0, l1, .int x] 2 (.int (x + (1)))) st h := Rr_nx d_MRm_readText_229 rfl
theorem r_MRm_readText_232 : Rr X d MRm_readText 232 L st h = Rr X d MRm_readText 177 L st h := R_goto d_MRm_readText_232 (by decide)
theorem r_MRm_readText_235 : Rr X d MRm_readText 235 L st h = Rr X d MRm_readText 236 L (.int (-1) :: st) h := Rr_nx d_MRm_readText_235 rfl
theorem r_MRm_readText_236 {x : Int32} : Rr X d MRm_readText 236 L [.int x] h = some (some (.int x), h) := R_ir d_MRm_readText_236 rfl
theorem d_MRm_floor_0 : decode MRm_floor.2.2.1 0 = .ok (.aload_n 0, 1) := lkT_ok tk_MRm_floor rfl
theorem d_MRm_floor_1 : decode MRm_floor.2.2.1 1 = .ok (.getfield 250, 3) := lkT_ok tk_MRm_floor rfl
theorem d_MRm_floor_4 : decode MRm_floor.2.2.1 4 = .ok (.iconst 4, 1) := lkT_ok tk_MRm_floor rfl
theorem d_MRm_floor_5 : decode MRm_floor.2.2.1 5 = .ok (.if_icmp .ne 6, 3) := lkT_ok tk_MRm_floor rfl
theorem d_MRm_floor_8 : decode MRm_floor.2.2.1 8 = .ok (.bipush (-3), 2) := lkT_ok tk_MRm_floor rfl
theorem d_MRm_floor_10 : decode MRm_floor.2.2.1 10 = .ok (.ireturn, 1) := lkT_ok tk_MRm_floor rfl
theorem d_MRm_floor_11 : decode MRm_floor.2.2.1 11 = .ok (.aload_n 0, 1) := lkT_ok tk_MRm_floor rfl
theorem d_MRm_floor_12 : decode MRm_floor.2.2.1 12 = .ok (.aload_n 0, 1) := lkT_ok tk_MRm_floor rfl
theorem d_MRm_floor_13 : decode MRm_floor.2.2.1 13 = .ok (.getfield 250, 3) := lkT_ok tk_MRm_floor rfl
theorem d_MRm_floor_16 : decode MRm_floor.2.2.1 16 = .ok (.invokevirtual 253, 3) := lkT_ok tk_MRm_floor rfl
theorem d_MRm_floor_19 : decode MRm_floor.2.2.1 19 = .ok (.istore_n 1, 1) := lkT_ok tk_MRm_floor rfl
theorem d_MRm_floor_20 : decode MRm_floor.2.2.1 20 = .ok (.iload_n 1, 1) := lkT_ok tk_MRm_floor rfl
theorem d_MRm_floor_21 : decode MRm_floor.2.2.1 21 = .ok (.ifCond .lt 8, 3) := lkT_ok tk_MRm_floor rfl
theorem d_MRm_floor_24 : decode MRm_floor.2.2.1 24 = .ok (.bipush (-100), 2) := lkT_ok tk_MRm_floor rfl
theorem d_MRm_floor_26 : decode MRm_floor.2.2.1 26 = .ok (.iload_n 1, 1) := lkT_ok tk_MRm_floor rfl
theorem d_MRm_floor_27 : decode MRm_floor.2.2.1 27 = .ok (.isub, 1) := lkT_ok tk_MRm_floor rfl
theorem d_MRm_floor_28 : decode MRm_floor.2.2.1 28 = .ok (.ireturn, 1) := lkT_ok tk_MRm_floor rfl
theorem d_MRm_floor_29 : decode MRm_floor.2.2.1 29 = .ok (.aload_n 0, 1) := lkT_ok tk_MRm_floor rfl
theorem d_MRm_floor_30 : decode MRm_floor.2.2.1 30 = .ok (.dup, 1) := lkT_ok tk_MRm_floor rfl
theorem d_MRm_floor_31 : decode MRm_floor.2.2.1 31 = .ok (.getfield 250, 3) := lkT_ok tk_MRm_floor rfl
theorem d_MRm_floor_34 : decode MRm_floor.2.2.1 34 = .ok (.iconst 1, 1) := lkT_ok tk_MRm_floor rfl
theorem d_MRm_floor_35 : decode MRm_floor.2.2.1 35 = .ok (.iadd, 1) := lkT_ok tk_MRm_floor rfl
theorem d_MRm_floor_36 : decode MRm_floor.2.2.1 36 = .ok (.putfield 250, 3) := lkT_ok tk_MRm_floor rfl
theorem d_MRm_floor_39 : decode MRm_floor.2.2.1 39 = .ok (.aload_n 0, 1) := lkT_ok tk_MRm_floor rfl
theorem d_MRm_floor_40 : decode MRm_floor.2.2.1 40 = .ok (.getfield 250, 3) := lkT_ok tk_MRm_floor rfl
theorem d_MRm_floor_43 : decode MRm_floor.2.2.1 43 = .ok (.iconst 1, 1) := lkT_ok tk_MRm_floor rfl
theorem d_MRm_floor_44 : decode MRm_floor.2.2.1 44 = .ok (.isub, 1) := lkT_ok tk_MRm_floor rfl
theorem d_MRm_floor_45 : decode MRm_floor.2.2.1 45 = .ok (.ireturn, 1) := lkT_ok tk_MRm_floor rfl
theorem r_MRm_floor_0 {l1 : Value} {x : Nat} : Rr X d MRm_floor 0 [.ref x, l1] st h = Rr X d MRm_floor 1 [.ref x, l1] (.ref x :: st) h := Rr_nx d_MRm_floor_0 rfl
theorem ff_10_250 : fF 10 250 = some (10, 29, 0, 0) := rfl
theorem r_MRm_floor_1 {a : Nat} (hq : qI a 10 29 = true) : Rr X d MRm_floor 1 L (.ref a :: st) (Wd mu la ro et) = Rr X d MRm_floor 4 L (.int (mu a 29) :: st) (Wd mu la ro et) := R_gfI d_MRm_floor_1 ff_10_250 hq
theorem r_MRm_floor_4 : Rr X d MRm_floor 4 L st h = Rr X d MRm_floor 5 L (.int (4) :: st) h := Rr_nx d_MRm_floor_4 rfl
theorem r_MRm_floor_5 {x y : Int32} : Rr X d MRm_floor 5 L (.int y :: .int x :: st) h = if ¬ x = y then Rr X d MRm_floor 11 L st h else Rr X d MRm_floor 8 L st h := R_ic_ne d_MRm_floor_5 (by decide)
theorem r_MRm_floor_8 : Rr X d MRm_floor 8 L st h = Rr X d MRm_floor 10 L (.int (-3) :: st) h := Rr_nx d_MRm_floor_8 rfl
theorem r_MRm_floor_10 {x : Int32} : Rr X d MRm_floor 10 L [.int x] h = some (some (.int x), h) := R_ir d_MRm_floor_10 rfl
theorem r_MRm_floor_11 {l1 : Value} {x : Nat} : Rr X d MRm_floor 11 [.ref x, l1] st h = Rr X d MRm_floor 12 [.ref x, l1] (.ref x :: st) h := Rr_nx d_MRm_floor_11 rfl
theorem r_MRm_floor_12 {l1 : Value} {x : Nat} : Rr X d MRm_floor 12 [.ref x, l1] st h = Rr X d MRm_floor 13 [.ref x, l1] (.ref x :: st) h := Rr_nx d_MRm_floor_12 rfl
theorem r_MRm_floor_13 {a : Nat} (hq : qI a 10 29 = true) : Rr X d MRm_floor 13 L (.ref a :: st) (Wd mu la ro et) = Rr X d MRm_floor 16 L (.int (mu a 29) :: st) (Wd mu la ro et) := R_gfI d_MRm_floor_13 ff_10_250 hq
theorem fc_10_253 : fC 10 253 = some (0, 10, 1, MRm_readText) := rfl
theorem r_MRm_floor_16 {y0 : Int32} {a : Nat} (hO : qO a 10 = true) (hc : ckS st = true) : Rr X (d + 1) MRm_floor 16 L (.int y0 :: .ref a :: st) (Wd mu la ro et) = (Rr X d MRm_readText 0 [.ref a, .int y0, mkU] [] (Wd mu la ro et)).bind fun q => Rr X (d + 1) MRm_floor 19 L (psh q.1 st) q.2 := R_iv (av := [.int y0]) d_MRm_floor_16 fc_10_253 hO (ckS_le hc) rfl (Nat.le_of_ble_eq_true rfl) (Nat.le_of_ble_eq_true rfl)
theorem r_MRm_floor_19 {l0 l1 : Value} {x : Int32} : Rr X d MRm_floor 19 [l0, l1] (.int x :: st) h = Rr X d MRm_floor 20 (sL [l0, l1] 1 (.int x)) st h := Rr_nx d_MRm_floor_19 rfl
theorem r_MRm_floor_20 {l0 : Value} {x : Int32} : Rr X d MRm_floor 20 [l0, .int x] st h = Rr X d MRm_floor 21 [l0, .int x] (.int x :: st) h := Rr_nx d_MRm_floor_20 rfl
theorem r_MRm_floor_21 {x : Int32} : Rr X d MRm_floor 21 L (.int x :: st) h = if x < 0 then Rr X d MRm_floor 29 L st h else Rr X d MRm_floor 24 L st h := R_if_lt d_MRm_floor_21 (by decide)
theorem r_MRm_floor_24 : Rr X d MRm_floor 24 L st h = Rr X d MRm_floor 26 L (.int (-100) :: st) h := Rr_nx d_MRm_floor_24 rfl
theorem r_MRm_floor_26 {l0 : Value} {x : Int32} : Rr X d MRm_floor 26 [l0, .int x] st h = Rr X d MRm_floor 27 [l0, .int x] (.int x :: st) h := Rr_nx d_MRm_floor_26 rfl
theorem r_MRm_floor_27 {x y : Int32} : Rr X d MRm_floor 27 L (.int y :: .int x :: st) h = Rr X d MRm_floor 28 L (.int (x - y) :: st) h := Rr_nx d_MRm_floor_27 rfl
theorem r_MRm_floor_28 {x : Int32} : Rr X d MRm_floor 28 L [.int x] h = some (some (.int x), h) := R_ir d_MRm_floor_28 rfl
theorem r_MRm_floor_29 {l1 : Value} {x : Nat} : Rr X d MRm_floor 29 [.ref x, l1] st h = Rr X d MRm_floor 30 [.ref x, l1] (.ref x :: st) h := Rr_nx d_MRm_floor_29 rfl
theorem r_MRm_floor_30 {x : Nat} : Rr X d MRm_floor 30 L (.ref x :: st) h = Rr X d MRm_floor 31 L (.ref x :: .ref x :: st) h := Rr_nx d_MRm_floor_30 rfl
theorem r_MRm_floor_30i {x : Int32} : Rr X d MRm_floor 30 L (.int x :: st) h = Rr X d MRm_floor 31 L (.int x :: .int x :: st) h := Rr_nx d_MRm_floor_30 rfl
theorem r_MRm_floor_31 {a : Nat} (hq : qI a 10 29 = true) : Rr X d MRm_floor 31 L (.ref a :: st) (Wd mu la ro et) = Rr X d MRm_floor 34 L (.int (mu a 29) :: st) (Wd mu la ro et) := R_gfI d_MRm_floor_31 ff_10_250 hq
theorem r_MRm_floor_34 : Rr X d MRm_floor 34 L st h = Rr X d MRm_floor 35 L (.int (1) :: st) h := Rr_nx d_MRm_floor_34 rfl
theorem r_MRm_floor_35 {x y : Int32} : Rr X d MRm_floor 35 L (.int y :: .int x :: st) h = Rr X d MRm_floor 36 L (.int (x + y) :: st) h := Rr_nx d_MRm_floor_35 rfl
theorem r_MRm_floor_36 {a : Nat} {x : Int32} (hq : qI a 10 29 = true) : Rr X d MRm_floor 36 L (.int x :: .ref a :: st) (Wd mu la ro et) = Rr X d MRm_floor 39 L st (Wd (up2 mu a 29 x) la ro et) := R_pfI d_MRm_floor_36 ff_10_250 hq
theorem r_MRm_floor_39 {l1 : Value} {x : Nat} : Rr X d MRm_floor 39 [.ref x, l1] st h = Rr X d MRm_floor 40 [.ref x, l1] (.ref x :: st) h := Rr_nx d_MRm_floor_39 rfl
theorem r_MRm_floor_40 {a : Nat} (hq : qI a 10 29 = true) : Rr X d MRm_floor 40 L (.ref a :: st) (Wd mu la ro et) = Rr X d MRm_floor 43 L (.int (mu a 29) :: st) (Wd mu la ro et) := R_gfI d_MRm_floor_40 ff_10_250 hq
theorem r_MRm_floor_43 : Rr X d MRm_floor 43 L st h = Rr X d MRm_floor 44 L (.int (1) :: st) h := Rr_nx d_MRm_floor_43 rfl
theorem r_MRm_floor_44 {x y : Int32} : Rr X d MRm_floor 44 L (.int y :: .int x :: st) h = Rr X d MRm_floor 45 L (.int (x - y) :: st) h := Rr_nx d_MRm_floor_44 rfl
theorem r_MRm_floor_45 {x : Int32} : Rr X d MRm_floor 45 L [.int x] h = some (some (.int x), h) := R_ir d_MRm_floor_45 rfl
theorem d_MRm_gives_0 : decode MRm_gives.2.2.1 0 = .ok (.iconst 0, 1) := lkT_ok tk_MRm_gives rfl
theorem d_MRm_gives_1 : decode MRm_gives.2.2.1 1 = .ok (.istore_n 2, 1) := lkT_ok tk_MRm_gives rfl
theorem d_MRm_gives_2 : decode MRm_gives.2.2.1 2 = .ok (.bipush 61, 2) := lkT_ok tk_MRm_gives rfl
theorem d_MRm_gives_4 : decode MRm_gives.2.2.1 4 = .ok (.iload_n 1, 1) := lkT_ok tk_MRm_gives rfl
theorem d_MRm_gives_5 : decode MRm_gives.2.2.1 5 = .ok (.imul, 1) := lkT_ok tk_MRm_gives rfl
theorem d_MRm_gives_6 : decode MRm_gives.2.2.1 6 = .ok (.istore_n 3, 1) := lkT_ok tk_MRm_gives rfl
theorem d_MRm_gives_7 : decode MRm_gives.2.2.1 7 = .ok (.iload_n 3, 1) := lkT_ok tk_MRm_gives rfl
theorem d_MRm_gives_8 : decode MRm_gives.2.2.1 8 = .ok (.bipush 61, 2) := lkT_ok tk_MRm_gives rfl
theorem d_MRm_gives_10 : decode MRm_gives.2.2.1 10 = .ok (.iload_n 1, 1) := lkT_ok tk_MRm_gives rfl
theorem d_MRm_gives_11 : decode MRm_gives.2.2.1 11 = .ok (.imul, 1) := lkT_ok tk_MRm_gives rfl
theorem d_MRm_gives_12 : decode MRm_gives.2.2.1 12 = .ok (.aload_n 0, 1) := lkT_ok tk_MRm_gives rfl
theorem d_MRm_gives_13 : decode MRm_gives.2.2.1 13 = .ok (.getfield 47, 3) := lkT_ok tk_MRm_gives rfl
theorem d_MRm_gives_16 : decode MRm_gives.2.2.1 16 = .ok (.iload_n 1, 1) := lkT_ok tk_MRm_gives rfl
theorem d_MRm_gives_17 : decode MRm_gives.2.2.1 17 = .ok (.iaload, 1) := lkT_ok tk_MRm_gives rfl
theorem d_MRm_gives_18 : decode MRm_gives.2.2.1 18 = .ok (.iadd, 1) := lkT_ok tk_MRm_gives rfl
theorem d_MRm_gives_19 : decode MRm_gives.2.2.1 19 = .ok (.if_icmp .ge 59, 3) := lkT_ok tk_MRm_gives rfl
theorem d_MRm_gives_22 : decode MRm_gives.2.2.1 22 = .ok (.aload_n 0, 1) := lkT_ok tk_MRm_gives rfl
theorem d_MRm_gives_23 : decode MRm_gives.2.2.1 23 = .ok (.getfield 50, 3) := lkT_ok tk_MRm_gives rfl
theorem d_MRm_gives_26 : decode MRm_gives.2.2.1 26 = .ok (.iload_n 3, 1) := lkT_ok tk_MRm_gives rfl
theorem d_MRm_gives_27 : decode MRm_gives.2.2.1 27 = .ok (.saload, 1) := lkT_ok tk_MRm_gives rfl
theorem d_MRm_gives_28 : decode MRm_gives.2.2.1 28 = .ok (.iload_n 2, 1) := lkT_ok tk_MRm_gives rfl
theorem d_MRm_gives_29 : decode MRm_gives.2.2.1 29 = .ok (.if_icmp .eq 18, 3) := lkT_ok tk_MRm_gives rfl
theorem d_MRm_gives_32 : decode MRm_gives.2.2.1 32 = .ok (.aload_n 0, 1) := lkT_ok tk_MRm_gives rfl
theorem d_MRm_gives_33 : decode MRm_gives.2.2.1 33 = .ok (.iload_n 1, 1) := lkT_ok tk_MRm_gives rfl
theorem d_MRm_gives_34 : decode MRm_gives.2.2.1 34 = .ok (.iload_n 2, 1) := lkT_ok tk_MRm_gives rfl
theorem d_MRm_gives_35 : decode MRm_gives.2.2.1 35 = .ok (.aload_n 0, 1) := lkT_ok tk_MRm_gives rfl
theorem d_MRm_gives_36 : decode MRm_gives.2.2.1 36 = .ok (.getfield 50, 3) := lkT_ok tk_MRm_gives rfl
theorem d_MRm_gives_39 : decode MRm_gives.2.2.1 39 = .ok (.iload_n 3, 1) := lkT_ok tk_MRm_gives rfl
theorem d_MRm_gives_40 : decode MRm_gives.2.2.1 40 = .ok (.saload, 1) := lkT_ok tk_MRm_gives rfl
theorem d_MRm_gives_41 : decode MRm_gives.2.2.1 41 = .ok (.invokevirtual 247, 3) := lkT_ok tk_MRm_gives rfl
theorem d_MRm_gives_44 : decode MRm_gives.2.2.1 44 = .ok (.ifCond .eq 21, 3) := lkT_ok tk_MRm_gives rfl
theorem d_MRm_gives_47 : decode MRm_gives.2.2.1 47 = .ok (.aload_n 0, 1) := lkT_ok tk_MRm_gives rfl
theorem d_MRm_gives_48 : decode MRm_gives.2.2.1 48 = .ok (.iload_n 1, 1) := lkT_ok tk_MRm_gives rfl
theorem d_MRm_gives_49 : decode MRm_gives.2.2.1 49 = .ok (.aload_n 0, 1) := lkT_ok tk_MRm_gives rfl
theorem d_MRm_gives_50 : decode MRm_gives.2.2.1 50 = .ok (.getfield 50, 3) := lkT_ok tk_MRm_gives rfl
theorem d_MRm_gives_53 : decode MRm_gives.2.2.1 53 = .ok (.iload_n 3, 1) := lkT_ok tk_MRm_gives rfl
theorem d_MRm_gives_54 : decode MRm_gives.2.2.1 54 = .ok (.saload, 1) := lkT_ok tk_MRm_gives rfl
theorem d_MRm_gives_55 : decode MRm_gives.2.2.1 55 = .ok (.aload_n 0, 1) := lkT_ok tk_MRm_gives rfl
theorem d_MRm_gives_56 : decode MRm_gives.2.2.1 56 = .ok (.getfield 54, 3) := lkT_ok tk_MRm_gives rfl
theorem d_MRm_gives_59 : decode MRm_gives.2.2.1 59 = .ok (.iload_n 3, 1) := lkT_ok tk_MRm_gives rfl
theorem d_MRm_gives_60 : decode MRm_gives.2.2.1 60 = .ok (.saload, 1) := lkT_ok tk_MRm_gives rfl
theorem d_MRm_gives_61 : decode MRm_gives.2.2.1 61 = .ok (.invokevirtual 247, 3) := lkT_ok tk_MRm_gives rfl
theorem d_MRm_gives_64 : decode MRm_gives.2.2.1 64 = .ok (.ireturn, 1) := lkT_ok tk_MRm_gives rfl
theorem d_MRm_gives_65 : decode MRm_gives.2.2.1 65 = .ok (.aload_n 0, 1) := lkT_ok tk_MRm_gives rfl
theorem d_MRm_gives_66 : decode MRm_gives.2.2.1 66 = .ok (.getfield 54, 3) := lkT_ok tk_MRm_gives rfl
theorem d_MRm_gives_69 : decode MRm_gives.2.2.1 69 = .ok (.iload_n 3, 1) := lkT_ok tk_MRm_gives rfl
theorem d_MRm_gives_70 : decode MRm_gives.2.2.1 70 = .ok (.saload, 1) := lkT_ok tk_MRm_gives rfl
theorem d_MRm_gives_71 : decode MRm_gives.2.2.1 71 = .ok (.istore_n 2, 1) := lkT_ok tk_MRm_gives rfl
theorem d_MRm_gives_72 : decode MRm_gives.2.2.1 72 = .ok (.iinc 3 1, 3) := lkT_ok tk_MRm_gives rfl
theorem d_MRm_gives_75 : decode MRm_gives.2.2.1 75 = .ok (.goto (-68), 3) := lkT_ok tk_MRm_gives rfl
theorem d_MRm_gives_78 : decode MRm_gives.2.2.1 78 = .ok (.iconst 0, 1) := lkT_ok tk_MRm_gives rfl
theorem d_MRm_gives_79 : decode MRm_gives.2.2.1 79 = .ok (.ireturn, 1) := lkT_ok tk_MRm_gives rfl
theorem r_MRm_gives_0 : Rr X d MRm_gives 0 L st h = Rr X d MRm_gives 1 L (.int (0) :: st) h := Rr_nx d_MRm_gives_0 rfl
theorem r_MRm_gives_1 {l0 l1 l2 l3 : Value} {x : Int32} : Rr X d MRm_gives 1 [l0, l1, l2, l3] (.int x :: st) h = Rr X d MRm_gives 2 (sL [l0, l1, l2, l3] 2 (.int x)) st h := Rr_nx d_MRm_gives_1 rfl
theorem r_MRm_gives_2 : Rr X d MRm_gives 2 L st h = Rr X d MRm_gives 4 L (.int (61) :: st) h := Rr_nx d_MRm_gives_2 rfl
theorem r_MRm_gives_4 {l0 l2 l3 : Value} {x : Int32} : Rr X d MRm_gives 4 [l0, .int x, l2, l3] st h = Rr X d MRm_gives 5 [l0, .int x, l2, l3] (.int x :: st) h := Rr_nx d_MRm_gives_4 rfl
theorem r_MRm_gives_5 {x y : Int32} : Rr X d MRm_gives 5 L (.int y :: .int x :: st) h = Rr X d MRm_gives 6 L (.int (x * y) :: st) h := Rr_nx d_MRm_gives_5 rfl
theorem r_MRm_gives_6 {l0 l1 l2 l3 : Value} {x : Int32} : Rr X d MRm_gives 6 [l0, l1, l2, l3] (.int x :: st) h = Rr X d MRm_gives 7 (sL [l0, l1, l2, l3] 3 (.int x)) st h := Rr_nx d_MRm_gives_6 rfl
theorem r_MRm_gives_7 {l0 l1 l2 : Value} {x : Int32} : Rr X d MRm_gives 7 [l0, l1, l2, .int x] st h = Rr X d MRm_gives 8 [l0, l1, l2, .int x] (.int x :: st) h := Rr_nx d_MRm_gives_7 rfl
theorem r_MRm_gives_8 : Rr X d MRm_gives 8 L st h = Rr X d MRm_gives 10 L (.int (61) :: st) h := Rr_nx d_MRm_gives_8 rfl
theorem r_MRm_gives_10 {l0 l2 l3 : Value} {x : Int32} : Rr X d MRm_gives 10 [l0, .int x, l2, l3] st h = Rr X d MRm_gives 11 [l0, .int x, l2, l3] (.int x :: st) h := Rr_nx d_MRm_gives_10 rfl
theorem r_MRm_gives_11 {x y : Int32} : Rr X d MRm_gives 11 L (.int y :: .int x :: st) h = Rr X d MRm_gives 12 L (.int (x * y) :: st) h := Rr_nx d_MRm_gives_11 rfl
theorem r_MRm_gives_12 {l1 l2 l3 : Value} {x : Nat} : Rr X d MRm_gives 12 [.ref x, l1, l2, l3] st h = Rr X d MRm_gives 13 [.ref x, l1, l2, l3] (.ref x :: st) h := Rr_nx d_MRm_gives_12 rfl
theorem r_MRm_gives_13 {a : Nat} (hq : (qR a 10 24).isSome = true) : Rr X d MRm_gives 13 L (.ref a :: st) (Wd mu la ro et) = Rr X d MRm_gives 16 L (.ref (qRd a 10 24) :: st) (Wd mu la ro et) := R_gfR d_MRm_gives_13 ff_10_47 hq
theorem r_MRm_gives_16 {l0 l2 l3 : Value} {x : Int32} : Rr X d MRm_gives 16 [l0, .int x, l2, l3] st h = Rr X d MRm_gives 17 [l0, .int x, l2, l3] (.int x :: st) h := Rr_nx d_MRm_gives_16 rfl
theorem r_MRm_gives_17 {a : Nat} {j : Int32} (hq : (qA a 0).isSome = true) : Rr X d MRm_gives 17 L (.int j :: .ref a :: st) (Wd mu la ro et) = if j < 0 ∨ qAd a 0 ≤ j.toNatClampNeg then none else Rr X d MRm_gives 18 L (.int (mu a j.toNatClampNeg) :: st) (Wd mu la ro et) := R_ialW d_MRm_gives_17 hq
theorem r_MRm_gives_18 {x y : Int32} : Rr X d MRm_gives 18 L (.int y :: .int x :: st) h = Rr X d MRm_gives 19 L (.int (x + y) :: st) h := Rr_nx d_MRm_gives_18 rfl
theorem r_MRm_gives_19 {x y : Int32} : Rr X d MRm_gives 19 L (.int y :: .int x :: st) h = if y ≤ x then Rr X d MRm_gives 78 L st h else Rr X d MRm_gives 22 L st h := R_ic_ge d_MRm_gives_19 (by decide)
theorem r_MRm_gives_22 {l1 l2 l3 : Value} {x : Nat} : Rr X d MRm_gives 22 [.ref x, l1, l2, l3] st h = Rr X d MRm_gives 23 [.ref x, l1, l2, l3] (.ref x :: st) h := Rr_nx d_MRm_gives_22 rfl
theorem r_MRm_gives_23 {a : Nat} (hq : (qR a 10 25).isSome = true) : Rr X d MRm_gives 23 L (.ref a :: st) (Wd mu la ro et) = Rr X d MRm_gives 26 L (.ref (qRd a 10 25) :: st) (Wd mu la ro et) := R_gfR d_MRm_gives_23 ff_10_50 hq
theorem r_MRm_gives_26 {l0 l1 l2 : Value} {x : Int32} : Rr X d MRm_gives 26 [l0, l1, l2, .int x] st h = Rr X d MRm_gives 27 [l0, l1, l2, .int x] (.int x :: st) h := Rr_nx d_MRm_gives_26 rfl
theorem r_MRm_gives_27 {a : Nat} {j : Int32} (hq : (qA a 3).isSome = true) : Rr X d MRm_gives 27 L (.int j :: .ref a :: st) (Wd mu la ro et) = if j < 0 ∨ qAd a 3 ≤ j.toNatClampNeg then none else Rr X d MRm_gives 28 L (.int (mu a j.toNatClampNeg) :: st) (Wd mu la ro et) := R_salW d_MRm_gives_27 hq
theorem r_MRm_gives_28 {l0 l1 l3 : Value} {x : Int32} : Rr X d MRm_gives 28 [l0, l1, .int x, l3] st h = Rr X d MRm_gives 29 [l0, l1, .int x, l3] (.int x :: st) h := Rr_nx d_MRm_gives_28 rfl
theorem r_MRm_gives_29 {x y : Int32} : Rr X d MRm_gives 29 L (.int y :: .int x :: st) h = if x = y then Rr X d MRm_gives 47 L st h else Rr X d MRm_gives 32 L st h := R_ic_eq d_MRm_gives_29 (by decide)
theorem r_MRm_gives_32 {l1 l2 l3 : Value} {x : Nat} : Rr X d MRm_gives 32 [.ref x, l1, l2, l3] st h = Rr X d MRm_gives 33 [.ref x, l1, l2, l3] (.ref x :: st) h := Rr_nx d_MRm_gives_32 rfl
theorem r_MRm_gives_33 {l0 l2 l3 : Value} {x : Int32} : Rr X d MRm_gives 33 [l0, .int x, l2, l3] st h = Rr X d MRm_gives 34 [l0, .int x, l2, l3] (.int x :: st) h := Rr_nx d_MRm_gives_33 rfl
theorem r_MRm_gives_34 {l0 l1 l3 : Value} {x : Int32} : Rr X d MRm_gives 34 [l0, l1, .int x, l3] st h = Rr X d MRm_gives 35 [l0, l1, .int x, l3] (.int x :: st) h := Rr_nx d_MRm_gives_34 rfl
theorem r_MRm_gives_35 {l1 l2 l3 : Value} {x : Nat} : Rr X d MRm_gives 35 [.ref x, l1, l2, l3] st h = Rr X d MRm_gives 36 [.ref x, l1, l2, l3] (.ref x :: st) h := Rr_nx d_MRm_gives_35 rfl
theorem r_MRm_gives_36 {a : Nat} (hq : (qR a 10 25).isSome = true) : Rr X d MRm_gives 36 L (.ref a :: st) (Wd mu la ro et) = Rr X d MRm_gives 39 L (.ref (qRd a 10 25) :: st) (Wd mu la ro et) := R_gfR d_MRm_gives_36 ff_10_50 hq
theorem r_MRm_gives_39 {l0 l1 l2 : Value} {x : Int32} : Rr X d MRm_gives 39 [l0, l1, l2, .int x] st h = Rr X d MRm_gives 40 [l0, l1, l2, .int x] (.int x :: st) h := Rr_nx d_MRm_gives_39 rfl
theorem r_MRm_gives_40 {a : Nat} {j : Int32} (hq : (qA a 3).isSome = true) : Rr X d MRm_gives 40 L (.int j :: .ref a :: st) (Wd mu la ro et) = if j < 0 ∨ qAd a 3 ≤ j.toNatClampNeg then none else Rr X d MRm_gives 41 L (.int (mu a j.toNatClampNeg) :: st) (Wd mu la ro et) := R_salW d_MRm_gives_40 hq
theorem fc_10_247 : fC 10 247 = some (0, 10, 3, MRm_worked) := rfl
theorem r_MRm_gives_41 {y0 : Int32} {y1 : Int32} {y2 : Int32} {a : Nat} (hO : qO a 10 = true) (hc : ckS st = true) : Rr X (d + 1) MRm_gives 41 L (.int y2 :: .int y1 :: .int y0 :: .ref a :: st) (Wd mu la ro et) = (Rr X d MRm_worked 0 [.ref a, .int y0, .int y1, .int y2, mkU, mkU, mkU] [] (Wd mu la ro et)).bind fun q => Rr X (d + 1) MRm_gives 44 L (psh q.1 st) q.2 := R_iv (av := [.int y2, .int y1, .int y0]) d_MRm_gives_41 fc_10_247 hO (ckS_le hc) rfl (Nat.le_of_ble_eq_true rfl) (Nat.le_of_ble_eq_true rfl)
theorem r_MRm_gives_44 {x : Int32} : Rr X d MRm_gives 44 L (.int x :: st) h = if x = 0 then Rr X d MRm_gives 65 L st h else Rr X d MRm_gives 47 L st h := R_if_eq d_MRm_gives_44 (by decide)
theorem r_MRm_gives_47 {l1 l2 l3 : Value} {x : Nat} : Rr X d MRm_gives 47 [.ref x, l1, l2, l3] st h = Rr X d MRm_gives 48 [.ref x, l1, l2, l3] (.ref x :: st) h := Rr_nx d_MRm_gives_47 rfl
theorem r_MRm_gives_48 {l0 l2 l3 : Value} {x : Int32} : Rr X d MRm_gives 48 [l0, .int x, l2, l3] st h = Rr X d MRm_gives 49 [l0, .int x, l2, l3] (.int x :: st) h := Rr_nx d_MRm_gives_48 rfl
theorem r_MRm_gives_49 {l1 l2 l3 : Value} {x : Nat} : Rr X d MRm_gives 49 [.ref x, l1, l2, l3] st h = Rr X d MRm_gives 50 [.ref x, l1, l2, l3] (.ref x :: st) h := Rr_nx d_MRm_gives_49 rfl
theorem r_MRm_gives_50 {a : Nat} (hq : (qR a 10 25).isSome = true) : Rr X d MRm_gives 50 L (.ref a :: st) (Wd mu la ro et) = Rr X d MRm_gives 53 L (.ref (qRd a 10 25) :: st) (Wd mu la ro et) := R_gfR d_MRm_gives_50 ff_10_50 hq
theorem r_MRm_gives_53 {l0 l1 l2 : Value} {x : Int32} : Rr X d MRm_gives 53 [l0, l1, l2, .int x] st h = Rr X d MRm_gives 54 [l0, l1, l2, .int x] (.int x :: st) h := Rr_nx d_MRm_gives_53 rfl
theorem r_MRm_gives_54 {a : Nat} {j : Int32} (hq : (qA a 3).isSome = true) : Rr X d MRm_gives 54 L (.int j :: .ref a :: st) (Wd mu la ro et) = if j < 0 ∨ qAd a 3 ≤ j.toNatClampNeg then none else Rr X d MRm_gives 55 L (.int (mu a j.toNatClampNeg) :: st) (Wd mu la ro et) := R_salW d_MRm_gives_54 hq
theorem r_MRm_gives_55 {l1 l2 l3 : Value} {x : Nat} : Rr X d MRm_gives 55 [.ref x, l1, l2, l3] st h = Rr X d MRm_gives 56 [.ref x, l1, l2, l3] (.ref x :: st) h := Rr_nx d_MRm_gives_55 rfl
theorem r_MRm_gives_56 {a : Nat} (hq : (qR a 10 26).isSome = true) : Rr X d MRm_gives 56 L (.ref a :: st) (Wd mu la ro et) = Rr X d MRm_gives 59 L (.ref (qRd a 10 26) :: st) (Wd mu la ro et) := R_gfR d_MRm_gives_56 ff_10_54 hq
theorem r_MRm_gives_59 {l0 l1 l2 : Value} {x : Int32} : Rr X d MRm_gives 59 [l0, l1, l2, .int x] st h = Rr X d MRm_gives 60 [l0, l1, l2, .int x] (.int x :: st) h := Rr_nx d_MRm_gives_59 rfl
theorem r_MRm_gives_60 {a : Nat} {j : Int32} (hq : (qA a 3).isSome = true) : Rr X d MRm_gives 60 L (.int j :: .ref a :: st) (Wd mu la ro et) = if j < 0 ∨ qAd a 3 ≤ j.toNatClampNeg then none else Rr X d MRm_gives 61 L (.int (mu a j.toNatClampNeg) :: st) (Wd mu la ro et) := R_salW d_MRm_gives_60 hq
theorem r_MRm_gives_61 {y0 : Int32} {y1 : Int32} {y2 : Int32} {a : Nat} (hO : qO a 10 = true) (hc : ckS st = true) : Rr X (d + 1) MRm_gives 61 L (.int y2 :: .int y1 :: .int y0 :: .ref a :: st) (Wd mu la ro et) = (Rr X d MRm_worked 0 [.ref a, .int y0, .int y1, .int y2, mkU, mkU, mkU] [] (Wd mu la ro et)).bind fun q => Rr X (d + 1) MRm_gives 64 L (psh q.1 st) q.2 := R_iv (av := [.int y2, .int y1, .int y0]) d_MRm_gives_61 fc_10_247 hO (ckS_le hc) rfl (Nat.le_of_ble_eq_true rfl) (Nat.le_of_ble_eq_true rfl)
theorem r_MRm_gives_64 {x : Int32} : Rr X d MRm_gives 64 L [.int x] h = some (some (.int x), h) := R_ir d_MRm_gives_64 rfl
theorem r_MRm_gives_65 {l1 l2 l3 : Value} {x : Nat} : Rr X d MRm_gives 65 [.ref x, l1, l2, l3] st h = Rr X d MRm_gives 66 [.ref x, l1, l2, l3] (.ref x :: st) h := Rr_nx d_MRm_gives_65 rfl
theorem r_MRm_gives_66 {a : Nat} (hq : (qR a 10 26).isSome = true) : Rr X d MRm_gives 66 L (.ref a :: st) (Wd mu la ro et) = Rr X d MRm_gives 69 L (.ref (qRd a 10 26) :: st) (Wd mu la ro et) := R_gfR d_MRm_gives_66 ff_10_54 hq
theorem r_MRm_gives_69 {l0 l1 l2 : Value} {x : Int32} : Rr X d MRm_gives 69 [l0, l1, l2, .int x] st h = Rr X d MRm_gives 70 [l0, l1, l2, .int x] (.int x :: st) h := Rr_nx d_MRm_gives_69 rfl
theorem r_MRm_gives_70 {a : Nat} {j : Int32} (hq : (qA a 3).isSome = true) : Rr X d MRm_gives 70 L (.int j :: .ref a :: st) (Wd mu la ro et) = if j < 0 ∨ qAd a 3 ≤ j.toNatClampNeg then none else Rr X d MRm_gives 71 L (.int (mu a j.toNatClampNeg) :: st) (Wd mu la ro et) := R_salW d_MRm_gives_70 hq
theorem r_MRm_gives_71 {l0 l1 l2 l3 : Value} {x : Int32} : Rr X d MRm_gives 71 [l0, l1, l2, l3] (.int x :: st) h = Rr X d MRm_gives 72 (sL [l0, l1, l2, l3] 2 (.int x)) st h := Rr_nx d_MRm_gives_71 rfl
theorem r_MRm_gives_72 {l0 l1 l2 : Value} {x : Int32} : Rr X d MRm_gives 72 [l0, l1, l2, .int x] st h = Rr X d MRm_gives 75 (sL [l0, l1, l2, .int x] 3 (.int (x + (1)))) st h := Rr_nx d_MRm_gives_72 rfl
theorem r_MRm_gives_75 : Rr X d MRm_gives 75 L st h = Rr X d MRm_gives 7 L st h := R_goto d_MRm_gives_75 (by decide)
theorem r_MRm_gives_78 : Rr X d MRm_gives 78 L st h = Rr X d MRm_gives 79 L (.int (0) :: st) h := Rr_nx d_MRm_gives_78 rfl
theorem r_MRm_gives_79 {x : Int32} : Rr X d MRm_gives 79 L [.int x] h = some (some (.int x), h) := R_ir d_MRm_gives_79 rfl
theorem d_MRm_worked_0 : decode MRm_worked.2.2.1 0 = .ok (.iconst 0, 1) := lkT_ok tk_MRm_worked rfl
theorem d_MRm_worked_1 : decode MRm_worked.2.2.1 1 = .ok (.istore 4, 2) := lkT_ok tk_MRm_worked rfl
theorem d_MRm_worked_3 : decode MRm_worked.2.2.1 3 = .ok (.sipush 130, 3) := lkT_ok tk_MRm_worked rfl
theorem d_MRm_worked_6 : decode MRm_worked.2.2.1 6 = .ok (.iload_n 1, 1) := lkT_ok tk_MRm_worked rfl
theorem d_MRm_worked_7 : decode MRm_worked.2.2.1 7 = .ok (.imul, 1) := lkT_ok tk_MRm_worked rfl
theorem d_MRm_worked_8 : decode MRm_worked.2.2.1 8 = .ok (.iload_n 2, 1) := lkT_ok tk_MRm_worked rfl
theorem d_MRm_worked_9 : decode MRm_worked.2.2.1 9 = .ok (.iadd, 1) := lkT_ok tk_MRm_worked rfl
theorem d_MRm_worked_10 : decode MRm_worked.2.2.1 10 = .ok (.istore 5, 2) := lkT_ok tk_MRm_worked rfl
theorem d_MRm_worked_12 : decode MRm_worked.2.2.1 12 = .ok (.iload 5, 2) := lkT_ok tk_MRm_worked rfl
theorem d_MRm_worked_14 : decode MRm_worked.2.2.1 14 = .ok (.sipush 130, 3) := lkT_ok tk_MRm_worked rfl
theorem d_MRm_worked_17 : decode MRm_worked.2.2.1 17 = .ok (.iload_n 1, 1) := lkT_ok tk_MRm_worked rfl
theorem d_MRm_worked_18 : decode MRm_worked.2.2.1 18 = .ok (.imul, 1) := lkT_ok tk_MRm_worked rfl
theorem d_MRm_worked_19 : decode MRm_worked.2.2.1 19 = .ok (.iload_n 3, 1) := lkT_ok tk_MRm_worked rfl
theorem d_MRm_worked_20 : decode MRm_worked.2.2.1 20 = .ok (.iadd, 1) := lkT_ok tk_MRm_worked rfl
theorem d_MRm_worked_21 : decode MRm_worked.2.2.1 21 = .ok (.if_icmp .ge 167, 3) := lkT_ok tk_MRm_worked rfl
theorem d_MRm_worked_24 : decode MRm_worked.2.2.1 24 = .ok (.aload_n 0, 1) := lkT_ok tk_MRm_worked rfl
theorem d_MRm_worked_25 : decode MRm_worked.2.2.1 25 = .ok (.getfield 41, 3) := lkT_ok tk_MRm_worked rfl
theorem d_MRm_worked_28 : decode MRm_worked.2.2.1 28 = .ok (.iload 5, 2) := lkT_ok tk_MRm_worked rfl
theorem d_MRm_worked_30 : decode MRm_worked.2.2.1 30 = .ok (.baload, 1) := lkT_ok tk_MRm_worked rfl
theorem d_MRm_worked_31 : decode MRm_worked.2.2.1 31 = .ok (.istore 6, 2) := lkT_ok tk_MRm_worked rfl
theorem d_MRm_worked_33 : decode MRm_worked.2.2.1 33 = .ok (.iload 6, 2) := lkT_ok tk_MRm_worked rfl
theorem d_MRm_worked_35 : decode MRm_worked.2.2.1 35 = .ok (.iconst 1, 1) := lkT_ok tk_MRm_worked rfl
theorem d_MRm_worked_36 : decode MRm_worked.2.2.1 36 = .ok (.if_icmp .eq 9, 3) := lkT_ok tk_MRm_worked rfl
theorem d_MRm_worked_39 : decode MRm_worked.2.2.1 39 = .ok (.iload 6, 2) := lkT_ok tk_MRm_worked rfl
theorem d_MRm_worked_41 : decode MRm_worked.2.2.1 41 = .ok (.iconst 2, 1) := lkT_ok tk_MRm_worked rfl
theorem d_MRm_worked_42 : decode MRm_worked.2.2.1 42 = .ok (.if_icmp .ne 44, 3) := lkT_ok tk_MRm_worked rfl
theorem d_MRm_worked_45 : decode MRm_worked.2.2.1 45 = .ok (.aload_n 0, 1) := lkT_ok tk_MRm_worked rfl
theorem d_MRm_worked_46 : decode MRm_worked.2.2.1 46 = .ok (.getfield 60, 3) := lkT_ok tk_MRm_worked rfl
theorem d_MRm_worked_49 : decode MRm_worked.2.2.1 49 = .ok (.iload 4, 2) := lkT_ok tk_MRm_worked rfl
theorem d_MRm_worked_51 : decode MRm_worked.2.2.1 51 = .ok (.iload 6, 2) := lkT_ok tk_MRm_worked rfl
theorem d_MRm_worked_53 : decode MRm_worked.2.2.1 53 = .ok (.iconst 1, 1) := lkT_ok tk_MRm_worked rfl
theorem d_MRm_worked_54 : decode MRm_worked.2.2.1 54 = .ok (.if_icmp .ne 13, 3) := lkT_ok tk_MRm_worked rfl
theorem d_MRm_worked_57 : decode MRm_worked.2.2.1 57 = .ok (.aload_n 0, 1) := lkT_ok tk_MRm_worked rfl
theorem d_MRm_worked_58 : decode MRm_worked.2.2.1 58 = .ok (.getfield 44, 3) := lkT_ok tk_MRm_worked rfl
theorem d_MRm_worked_61 : decode MRm_worked.2.2.1 61 = .ok (.iload 5, 2) := lkT_ok tk_MRm_worked rfl
theorem d_MRm_worked_63 : decode MRm_worked.2.2.1 63 = .ok (.iaload, 1) := lkT_ok tk_MRm_worked rfl
theorem d_MRm_worked_64 : decode MRm_worked.2.2.1 64 = .ok (.goto 15, 3) := lkT_ok tk_MRm_worked rfl
theorem d_MRm_worked_67 : decode MRm_worked.2.2.1 67 = .ok (.aload_n 0, 1) := lkT_ok tk_MRm_worked rfl
theorem d_MRm_worked_68 : decode MRm_worked.2.2.1 68 = .ok (.getfield 57, 3) := lkT_ok tk_MRm_worked rfl
theorem d_MRm_worked_71 : decode MRm_worked.2.2.1 71 = .ok (.aload_n 0, 1) := lkT_ok tk_MRm_worked rfl
theorem d_MRm_worked_72 : decode MRm_worked.2.2.1 72 = .ok (.getfield 44, 3) := lkT_ok tk_MRm_worked rfl
theorem d_MRm_worked_75 : decode MRm_worked.2.2.1 75 = .ok (.iload 5, 2) := lkT_ok tk_MRm_worked rfl
theorem d_MRm_worked_77 : decode MRm_worked.2.2.1 77 = .ok (.iaload, 1) := lkT_ok tk_MRm_worked rfl
theorem d_MRm_worked_78 : decode MRm_worked.2.2.1 78 = .ok (.iaload, 1) := lkT_ok tk_MRm_worked rfl
theorem d_MRm_worked_79 : decode MRm_worked.2.2.1 79 = .ok (.iastore, 1) := lkT_ok tk_MRm_worked rfl
theorem d_MRm_worked_80 : decode MRm_worked.2.2.1 80 = .ok (.iinc 4 1, 3) := lkT_ok tk_MRm_worked rfl
theorem d_MRm_worked_83 : decode MRm_worked.2.2.1 83 = .ok (.goto 99, 3) := lkT_ok tk_MRm_worked rfl
theorem d_MRm_worked_86 : decode MRm_worked.2.2.1 86 = .ok (.iload 6, 2) := lkT_ok tk_MRm_worked rfl
theorem d_MRm_worked_88 : decode MRm_worked.2.2.1 88 = .ok (.iconst 3, 1) := lkT_ok tk_MRm_worked rfl
theorem d_MRm_worked_89 : decode MRm_worked.2.2.1 89 = .ok (.if_icmp .ne 32, 3) := lkT_ok tk_MRm_worked rfl
theorem d_MRm_worked_92 : decode MRm_worked.2.2.1 92 = .ok (.aload_n 0, 1) := lkT_ok tk_MRm_worked rfl
theorem d_MRm_worked_93 : decode MRm_worked.2.2.1 93 = .ok (.getfield 60, 3) := lkT_ok tk_MRm_worked rfl
theorem d_MRm_worked_96 : decode MRm_worked.2.2.1 96 = .ok (.iload 4, 2) := lkT_ok tk_MRm_worked rfl
theorem d_MRm_worked_98 : decode MRm_worked.2.2.1 98 = .ok (.iconst 1, 1) := lkT_ok tk_MRm_worked rfl
theorem d_MRm_worked_99 : decode MRm_worked.2.2.1 99 = .ok (.isub, 1) := lkT_ok tk_MRm_worked rfl
theorem d_MRm_worked_100 : decode MRm_worked.2.2.1 100 = .ok (.aload_n 0, 1) := lkT_ok tk_MRm_worked rfl
theorem d_MRm_worked_101 : decode MRm_worked.2.2.1 101 = .ok (.getfield 60, 3) := lkT_ok tk_MRm_worked rfl
theorem d_MRm_worked_104 : decode MRm_worked.2.2.1 104 = .ok (.iload 4, 2) := lkT_ok tk_MRm_worked rfl
theorem d_MRm_worked_106 : decode MRm_worked.2.2.1 106 = .ok (.iconst 1, 1) := lkT_ok tk_MRm_worked rfl
theorem d_MRm_worked_107 : decode MRm_worked.2.2.1 107 = .ok (.isub, 1) := lkT_ok tk_MRm_worked rfl
theorem d_MRm_worked_108 : decode MRm_worked.2.2.1 108 = .ok (.iaload, 1) := lkT_ok tk_MRm_worked rfl
theorem d_MRm_worked_109 : decode MRm_worked.2.2.1 109 = .ok (.ifCond .ne 7, 3) := lkT_ok tk_MRm_worked rfl
theorem d_MRm_worked_112 : decode MRm_worked.2.2.1 112 = .ok (.iconst 1, 1) := lkT_ok tk_MRm_worked rfl
theorem d_MRm_worked_113 : decode MRm_worked.2.2.1 113 = .ok (.goto 4, 3) := lkT_ok tk_MRm_worked rfl
theorem d_MRm_worked_116 : decode MRm_worked.2.2.1 116 = .ok (.iconst 0, 1) := lkT_ok tk_MRm_worked rfl
theorem d_MRm_worked_117 : decode MRm_worked.2.2.1 117 = .ok (.iastore, 1) := lkT_ok tk_MRm_worked rfl
theorem d_MRm_worked_118 : decode MRm_worked.2.2.1 118 = .ok (.goto 64, 3) := lkT_ok tk_MRm_worked rfl
theorem d_MRm_worked_121 : decode MRm_worked.2.2.1 121 = .ok (.iload 6, 2) := lkT_ok tk_MRm_worked rfl
theorem d_MRm_worked_123 : decode MRm_worked.2.2.1 123 = .ok (.iconst 4, 1) := lkT_ok tk_MRm_worked rfl
theorem d_MRm_worked_124 : decode MRm_worked.2.2.1 124 = .ok (.if_icmp .ne 25, 3) := lkT_ok tk_MRm_worked rfl
theorem d_MRm_worked_127 : decode MRm_worked.2.2.1 127 = .ok (.aload_n 0, 1) := lkT_ok tk_MRm_worked rfl
theorem d_MRm_worked_128 : decode MRm_worked.2.2.1 128 = .ok (.getfield 60, 3) := lkT_ok tk_MRm_worked rfl
theorem d_MRm_worked_131 : decode MRm_worked.2.2.1 131 = .ok (.iload 4, 2) := lkT_ok tk_MRm_worked rfl
theorem d_MRm_worked_133 : decode MRm_worked.2.2.1 133 = .ok (.iconst 1, 1) := lkT_ok tk_MRm_worked rfl
theorem d_MRm_worked_134 : decode MRm_worked.2.2.1 134 = .ok (.isub, 1) := lkT_ok tk_MRm_worked rfl
theorem d_MRm_worked_135 : decode MRm_worked.2.2.1 135 = .ok (.aload_n 0, 1) := lkT_ok tk_MRm_worked rfl
theorem d_MRm_worked_136 : decode MRm_worked.2.2.1 136 = .ok (.getfield 60, 3) := lkT_ok tk_MRm_worked rfl
theorem d_MRm_worked_139 : decode MRm_worked.2.2.1 139 = .ok (.iload 4, 2) := lkT_ok tk_MRm_worked rfl
theorem d_MRm_worked_141 : decode MRm_worked.2.2.1 141 = .ok (.iconst 1, 1) := lkT_ok tk_MRm_worked rfl
theorem d_MRm_worked_142 : decode MRm_worked.2.2.1 142 = .ok (.isub, 1) := lkT_ok tk_MRm_worked rfl
theorem d_MRm_worked_143 : decode MRm_worked.2.2.1 143 = .ok (.iaload, 1) := lkT_ok tk_MRm_worked rfl
theorem d_MRm_worked_144 : decode MRm_worked.2.2.1 144 = .ok (.ineg, 1) := lkT_ok tk_MRm_worked rfl
theorem d_MRm_worked_145 : decode MRm_worked.2.2.1 145 = .ok (.iastore, 1) := lkT_ok tk_MRm_worked rfl
theorem d_MRm_worked_146 : decode MRm_worked.2.2.1 146 = .ok (.goto 36, 3) := lkT_ok tk_MRm_worked rfl
theorem d_MRm_worked_149 : decode MRm_worked.2.2.1 149 = .ok (.iinc 4 (-1), 3) := lkT_ok tk_MRm_worked rfl
theorem d_MRm_worked_152 : decode MRm_worked.2.2.1 152 = .ok (.aload_n 0, 1) := lkT_ok tk_MRm_worked rfl
theorem d_MRm_worked_153 : decode MRm_worked.2.2.1 153 = .ok (.getfield 60, 3) := lkT_ok tk_MRm_worked rfl
theorem d_MRm_worked_156 : decode MRm_worked.2.2.1 156 = .ok (.iload 4, 2) := lkT_ok tk_MRm_worked rfl
theorem d_MRm_worked_158 : decode MRm_worked.2.2.1 158 = .ok (.iconst 1, 1) := lkT_ok tk_MRm_worked rfl
theorem d_MRm_worked_159 : decode MRm_worked.2.2.1 159 = .ok (.isub, 1) := lkT_ok tk_MRm_worked rfl
theorem d_MRm_worked_160 : decode MRm_worked.2.2.1 160 = .ok (.iload 6, 2) := lkT_ok tk_MRm_worked rfl
theorem d_MRm_worked_162 : decode MRm_worked.2.2.1 162 = .ok (.aload_n 0, 1) := lkT_ok tk_MRm_worked rfl
theorem d_MRm_worked_163 : decode MRm_worked.2.2.1 163 = .ok (.getfield 60, 3) := lkT_ok tk_MRm_worked rfl
theorem d_MRm_worked_166 : decode MRm_worked.2.2.1 166 = .ok (.iload 4, 2) := lkT_ok tk_MRm_worked rfl
theorem d_MRm_worked_168 : decode MRm_worked.2.2.1 168 = .ok (.iconst 1, 1) := lkT_ok tk_MRm_worked rfl
theorem d_MRm_worked_169 : decode MRm_worked.2.2.1 169 = .ok (.isub, 1) := lkT_ok tk_MRm_worked rfl
theorem d_MRm_worked_170 : decode MRm_worked.2.2.1 170 = .ok (.iaload, 1) := lkT_ok tk_MRm_worked rfl
theorem d_MRm_worked_171 : decode MRm_worked.2.2.1 171 = .ok (.aload_n 0, 1) := lkT_ok tk_MRm_worked rfl
theorem d_MRm_worked_172 : decode MRm_worked.2.2.1 172 = .ok (.getfield 60, 3) := lkT_ok tk_MRm_worked rfl
theorem d_MRm_worked_175 : decode MRm_worked.2.2.1 175 = .ok (.iload 4, 2) := lkT_ok tk_MRm_worked rfl
theorem d_MRm_worked_177 : decode MRm_worked.2.2.1 177 = .ok (.iaload, 1) := lkT_ok tk_MRm_worked rfl
theorem d_MRm_worked_178 : decode MRm_worked.2.2.1 178 = .ok (.invokestatic 244, 3) := lkT_ok tk_MRm_worked rfl
theorem d_MRm_worked_181 : decode MRm_worked.2.2.1 181 = .ok (.iastore, 1) := lkT_ok tk_MRm_worked rfl
theorem d_MRm_worked_182 : decode MRm_worked.2.2.1 182 = .ok (.iinc 5 1, 3) := lkT_ok tk_MRm_worked rfl
theorem d_MRm_worked_185 : decode MRm_worked.2.2.1 185 = .ok (.goto (-173), 3) := lkT_ok tk_MRm_worked rfl
theorem d_MRm_worked_188 : decode MRm_worked.2.2.1 188 = .ok (.aload_n 0, 1) := lkT_ok tk_MRm_worked rfl
theorem d_MRm_worked_189 : decode MRm_worked.2.2.1 189 = .ok (.getfield 60, 3) := lkT_ok tk_MRm_worked rfl
theorem d_MRm_worked_192 : decode MRm_worked.2.2.1 192 = .ok (.iconst 0, 1) := lkT_ok tk_MRm_worked rfl
theorem d_MRm_worked_193 : decode MRm_worked.2.2.1 193 = .ok (.iaload, 1) := lkT_ok tk_MRm_worked rfl
theorem d_MRm_worked_194 : decode MRm_worked.2.2.1 194 = .ok (.ireturn, 1) := lkT_ok tk_MRm_worked rfl
theorem r_MRm_worked_0 : Rr X d MRm_worked 0 L st h = Rr X d MRm_worked 1 L (.int (0) :: st) h := Rr_nx d_MRm_worked_0 rfl
theorem r_MRm_worked_1 {l0 l1 l2 l3 l4 l5 l6 : Value} {x : Int32} : Rr X d MRm_worked 1 [l0, l1, l2, l3, l4, l5, l6] (.int x :: st) h = Rr X d MRm_worked 3 (sL [l0, l1, l2, l3, l4, l5, l6] 4 (.int x)) st h := Rr_nx d_MRm_worked_1 rfl
theorem r_MRm_worked_3 : Rr X d MRm_worked 3 L st h = Rr X d MRm_worked 6 L (.int (130) :: st) h := Rr_nx d_MRm_worked_3 rfl
theorem r_MRm_worked_6 {l0 l2 l3 l4 l5 l6 : Value} {x : Int32} : Rr X d MRm_worked 6 [l0, .int x, l2, l3, l4, l5, l6] st h = Rr X d MRm_worked 7 [l0, .int x, l2, l3, l4, l5, l6] (.int x :: st) h := Rr_nx d_MRm_worked_6 rfl
theorem r_MRm_worked_7 {x y : Int32} : Rr X d MRm_worked 7 L (.int y :: .int x :: st) h = Rr X d MRm_worked 8 L (.int (x * y) :: st) h := Rr_nx d_MRm_worked_7 rfl
theorem r_MRm_worked_8 {l0 l1 l3 l4 l5 l6 : Value} {x : Int32} : Rr X d MRm_worked 8 [l0, l1, .int x, l3, l4, l5, l6] st h = Rr X d MRm_worked 9 [l0, l1, .int x, l3, l4, l5, l6] (.int x :: st) h := Rr_nx d_MRm_worked_8 rfl
theorem r_MRm_worked_9 {x y : Int32} : Rr X d MRm_worked 9 L (.int y :: .int x :: st) h = Rr X d MRm_worked 10 L (.int (x + y) :: st) h := Rr_nx d_MRm_worked_9 rfl
theorem r_MRm_worked_10 {l0 l1 l2 l3 l4 l5 l6 : Value} {x : Int32} : Rr X d MRm_worked 10 [l0, l1, l2, l3, l4, l5, l6] (.int x :: st) h = Rr X d MRm_worked 12 (sL [l0, l1, l2, l3, l4, l5, l6] 5 (.int x)) st h := Rr_nx d_MRm_worked_10 rfl
theorem r_MRm_worked_12 {l0 l1 l2 l3 l4 l6 : Value} {x : Int32} : Rr X d MRm_worked 12 [l0, l1, l2, l3, l4, .int x, l6] st h = Rr X d MRm_worked 14 [l0, l1, l2, l3, l4, .int x, l6] (.int x :: st) h := Rr_nx d_MRm_worked_12 rfl
theorem r_MRm_worked_14 : Rr X d MRm_worked 14 L st h = Rr X d MRm_worked 17 L (.int (130) :: st) h := Rr_nx d_MRm_worked_14 rfl
theorem r_MRm_worked_17 {l0 l2 l3 l4 l5 l6 : Value} {x : Int32} : Rr X d MRm_worked 17 [l0, .int x, l2, l3, l4, l5, l6] st h = Rr X d MRm_worked 18 [l0, .int x, l2, l3, l4, l5, l6] (.int x :: st) h := Rr_nx d_MRm_worked_17 rfl
theorem r_MRm_worked_18 {x y : Int32} : Rr X d MRm_worked 18 L (.int y :: .int x :: st) h = Rr X d MRm_worked 19 L (.int (x * y) :: st) h := Rr_nx d_MRm_worked_18 rfl
theorem r_MRm_worked_19 {l0 l1 l2 l4 l5 l6 : Value} {x : Int32} : Rr X d MRm_worked 19 [l0, l1, l2, .int x, l4, l5, l6] st h = Rr X d MRm_worked 20 [l0, l1, l2, .int x, l4, l5, l6] (.int x :: st) h := Rr_nx d_MRm_worked_19 rfl
theorem r_MRm_worked_20 {x y : Int32} : Rr X d MRm_worked 20 L (.int y :: .int x :: st) h = Rr X d MRm_worked 21 L (.int (x + y) :: st) h := Rr_nx d_MRm_worked_20 rfl
theorem r_MRm_worked_21 {x y : Int32} : Rr X d MRm_worked 21 L (.int y :: .int x :: st) h = if y ≤ x then Rr X d MRm_worked 188 L st h else Rr X d MRm_worked 24 L st h := R_ic_ge d_MRm_worked_21 (by decide)
theorem r_MRm_worked_24 {l1 l2 l3 l4 l5 l6 : Value} {x : Nat} : Rr X d MRm_worked 24 [.ref x, l1, l2, l3, l4, l5, l6] st h = Rr X d MRm_worked 25 [.ref x, l1, l2, l3, l4, l5, l6] (.ref x :: st) h := Rr_nx d_MRm_worked_24 rfl
theorem r_MRm_worked_25 {a : Nat} (hq : (qR a 10 22).isSome = true) : Rr X d MRm_worked 25 L (.ref a :: st) (Wd mu la ro et) = Rr X d MRm_worked 28 L (.ref (qRd a 10 22) :: st) (Wd mu la ro et) := R_gfR d_MRm_worked_25 ff_10_41 hq
theorem r_MRm_worked_28 {l0 l1 l2 l3 l4 l6 : Value} {x : Int32} : Rr X d MRm_worked 28 [l0, l1, l2, l3, l4, .int x, l6] st h = Rr X d MRm_worked 30 [l0, l1, l2, l3, l4, .int x, l6] (.int x :: st) h := Rr_nx d_MRm_worked_28 rfl
theorem r_MRm_worked_30 {a : Nat} {j : Int32} (hq : (qA a 2).isSome = true) : Rr X d MRm_worked 30 L (.int j :: .ref a :: st) (Wd mu la ro et) = if j < 0 ∨ qAd a 2 ≤ j.toNatClampNeg then none else Rr X d MRm_worked 31 L (.int (mu a j.toNatClampNeg) :: st) (Wd mu la ro et) := R_balW d_MRm_worked_30 hq
theorem r_MRm_worked_31 {l0 l1 l2 l3 l4 l5 l6 : Value} {x : Int32} : Rr X d MRm_worked 31 [l0, l1, l2, l3, l4, l5, l6] (.int x :: st) h = Rr X d MRm_worked 33 (sL [l0, l1, l2, l3, l4, l5, l6] 6 (.int x)) st h := Rr_nx d_MRm_worked_31 rfl
theorem r_MRm_worked_33 {l0 l1 l2 l3 l4 l5 : Value} {x : Int32} : Rr X d MRm_worked 33 [l0, l1, l2, l3, l4, l5, .int x] st h = Rr X d MRm_worked 35 [l0, l1, l2, l3, l4, l5, .int x] (.int x :: st) h := Rr_nx d_MRm_worked_33 rfl
theorem r_MRm_worked_35 : Rr X d MRm_worked 35 L st h = Rr X d MRm_worked 36 L (.int (1) :: st) h := Rr_nx d_MRm_worked_35 rfl
theorem r_MRm_worked_36 {x y : Int32} : Rr X d MRm_worked 36 L (.int y :: .int x :: st) h = if x = y then Rr X d MRm_worked 45 L st h else Rr X d MRm_worked 39 L st h := R_ic_eq d_MRm_worked_36 (by decide)
theorem r_MRm_worked_39 {l0 l1 l2 l3 l4 l5 : Value} {x : Int32} : Rr X d MRm_worked 39 [l0, l1, l2, l3, l4, l5, .int x] st h = Rr X d MRm_worked 41 [l0, l1, l2, l3, l4, l5, .int x] (.int x :: st) h := Rr_nx d_MRm_worked_39 rfl
theorem r_MRm_worked_41 : Rr X d MRm_worked 41 L st h = Rr X d MRm_worked 42 L (.int (2) :: st) h := Rr_nx d_MRm_worked_41 rfl
theorem r_MRm_worked_42 {x y : Int32} : Rr X d MRm_worked 42 L (.int y :: .int x :: st) h = if ¬ x = y then Rr X d MRm_worked 86 L st h else Rr X d MRm_worked 45 L st h := R_ic_ne d_MRm_worked_42 (by decide)
theorem r_MRm_worked_45 {l1 l2 l3 l4 l5 l6 : Value} {x : Nat} : Rr X d MRm_worked 45 [.ref x, l1, l2, l3, l4, l5, l6] st h = Rr X d MRm_worked 46 [.ref x, l1, l2, l3, l4, l5, l6] (.ref x :: st) h := Rr_nx d_MRm_worked_45 rfl
theorem ff_10_60 : fF 10 60 = some (10, 28, 1, 1) := rfl
theorem r_MRm_worked_46 {a : Nat} (hq : (qR a 10 28).isSome = true) : Rr X d MRm_worked 46 L (.ref a :: st) (Wd mu la ro et) = Rr X d MRm_worked 49 L (.ref (qRd a 10 28) :: st) (Wd mu la ro et) := R_gfR d_MRm_worked_46 ff_10_60 hq
theorem r_MRm_worked_49 {l0 l1 l2 l3 l5 l6 : Value} {x : Int32} : Rr X d MRm_worked 49 [l0, l1, l2, l3, .int x, l5, l6] st h = Rr X d MRm_worked 51 [l0, l1, l2, l3, .int x, l5, l6] (.int x :: st) h := Rr_nx d_MRm_worked_49 rfl
theorem r_MRm_worked_51 {l0 l1 l2 l3 l4 l5 : Value} {x : Int32} : Rr X d MRm_worked 51 [l0, l1, l2, l3, l4, l5, .int x] st h = Rr X d MRm_worked 53 [l0, l1, l2, l3, l4, l5, .int x] (.int x :: st) h := Rr_nx d_MRm_worked_51 rfl
theorem r_MRm_worked_53 : Rr X d MRm_worked 53 L st h = Rr X d MRm_worked 54 L (.int (1) :: st) h := Rr_nx d_MRm_worked_53 rfl
theorem r_MRm_worked_54 {x y : Int32} : Rr X d MRm_worked 54 L (.int y :: .int x :: st) h = if ¬ x = y then Rr X d MRm_worked 67 L st h else Rr X d MRm_worked 57 L st h := R_ic_ne d_MRm_worked_54 (by decide)
theorem r_MRm_worked_57 {l1 l2 l3 l4 l5 l6 : Value} {x : Nat} : Rr X d MRm_worked 57 [.ref x, l1, l2, l3, l4, l5, l6] st h = Rr X d MRm_worked 58 [.ref x, l1, l2, l3, l4, l5, l6] (.ref x :: st) h := Rr_nx d_MRm_worked_57 rfl
theorem r_MRm_worked_58 {a : Nat} (hq : (qR a 10 23).isSome = true) : Rr X d MRm_worked 58 L (.ref a :: st) (Wd mu la ro et) = Rr X d MRm_worked 61 L (.ref (qRd a 10 23) :: st) (Wd mu la ro et) := R_gfR d_MRm_worked_58 ff_10_44 hq
theorem r_MRm_worked_61 {l0 l1 l2 l3 l4 l6 : Value} {x : Int32} : Rr X d MRm_worked 61 [l0, l1, l2, l3, l4, .int x, l6] st h = Rr X d MRm_worked 63 [l0, l1, l2, l3, l4, .int x, l6] (.int x :: st) h := Rr_nx d_MRm_worked_61 rfl
theorem r_MRm_worked_63 {a : Nat} {j : Int32} (hq : (qA a 0).isSome = true) : Rr X d MRm_worked 63 L (.int j :: .ref a :: st) (Wd mu la ro et) = if j < 0 ∨ qAd a 0 ≤ j.toNatClampNeg then none else Rr X d MRm_worked 64 L (.int (mu a j.toNatClampNeg) :: st) (Wd mu la ro et) := R_ialW d_MRm_worked_63 hq
theorem r_MRm_worked_64 : Rr X d MRm_worked 64 L st h = Rr X d MRm_worked 79 L st h := R_goto d_MRm_worked_64 (by decide)
theorem r_MRm_worked_67 {l1 l2 l3 l4 l5 l6 : Value} {x : Nat} : Rr X d MRm_worked 67 [.ref x, l1, l2, l3, l4, l5, l6] st h = Rr X d MRm_worked 68 [.ref x, l1, l2, l3, l4, l5, l6] (.ref x :: st) h := Rr_nx d_MRm_worked_67 rfl
theorem ff_10_57 : fF 10 57 = some (10, 27, 1, 1) := rfl
theorem r_MRm_worked_68 {a : Nat} (hq : (qR a 10 27).isSome = true) : Rr X d MRm_worked 68 L (.ref a :: st) (Wd mu la ro et) = Rr X d MRm_worked 71 L (.ref (qRd a 10 27) :: st) (Wd mu la ro et) := R_gfR d_MRm_worked_68 ff_10_57 hq
theorem r_MRm_worked_71 {l1 l2 l3 l4 l5 l6 : Value} {x : Nat} : Rr X d MRm_worked 71 [.ref x, l1, l2, l3, l4, l5, l6] st h = Rr X d MRm_worked 72 [.ref x, l1, l2, l3, l4, l5, l6] (.ref x :: st) h := Rr_nx d_MRm_worked_71 rfl
theorem r_MRm_worked_72 {a : Nat} (hq : (qR a 10 23).isSome = true) : Rr X d MRm_worked 72 L (.ref a :: st) (Wd mu la ro et) = Rr X d MRm_worked 75 L (.ref (qRd a 10 23) :: st) (Wd mu la ro et) := R_gfR d_MRm_worked_72 ff_10_44 hq
theorem r_MRm_worked_75 {l0 l1 l2 l3 l4 l6 : Value} {x : Int32} : Rr X d MRm_worked 75 [l0, l1, l2, l3, l4, .int x, l6] st h = Rr X d MRm_worked 77 [l0, l1, l2, l3, l4, .int x, l6] (.int x :: st) h := Rr_nx d_MRm_worked_75 rfl
theorem r_MRm_worked_77 {a : Nat} {j : Int32} (hq : (qA a 0).isSome = true) : Rr X d MRm_worked 77 L (.int j :: .ref a :: st) (Wd mu la ro et) = if j < 0 ∨ qAd a 0 ≤ j.toNatClampNeg then none else Rr X d MRm_worked 78 L (.int (mu a j.toNatClampNeg) :: st) (Wd mu la ro et) := R_ialW d_MRm_worked_77 hq
theorem r_MRm_worked_78 {a : Nat} {j : Int32} (hq : (qA a 0).isSome = true) : Rr X d MRm_worked 78 L (.int j :: .ref a :: st) (Wd mu la ro et) = if j < 0 ∨ qAd a 0 ≤ j.toNatClampNeg then none else Rr X d MRm_worked 79 L (.int (mu a j.toNatClampNeg) :: st) (Wd mu la ro et) := R_ialW d_MRm_worked_78 hq
theorem r_MRm_worked_79 {a : Nat} {j x : Int32} (hq : (qA a 0).isSome = true) : Rr X d MRm_worked 79 L (.int x :: .int j :: .ref a :: st) (Wd mu la ro et) = if j < 0 ∨ qAd a 0 ≤ j.toNatClampNeg then none else Rr X d MRm_worked 80 L st (Wd (up2 mu a j.toNatClampNeg (x)) la ro et) := R_iasW d_MRm_worked_79 hq
theorem r_MRm_worked_80 {l0 l1 l2 l3 l5 l6 : Value} {x : Int32} : Rr X d MRm_worked 80 [l0, l1, l2, l3, .int x, l5, l6] st h = Rr X d MRm_worked 83 (sL [l0, l1, l2, l3, .int x, l5, l6] 4 (.int (x + (1)))) st h := Rr_nx d_MRm_worked_80 rfl
theorem r_MRm_worked_83 : Rr X d MRm_worked 83 L st h = Rr X d MRm_worked 182 L st h := R_goto d_MRm_worked_83 (by decide)
theorem r_MRm_worked_86 {l0 l1 l2 l3 l4 l5 : Value} {x : Int32} : Rr X d MRm_worked 86 [l0, l1, l2, l3, l4, l5, .int x] st h = Rr X d MRm_worked 88 [l0, l1, l2, l3, l4, l5, .int x] (.int x :: st) h := Rr_nx d_MRm_worked_86 rfl
theorem r_MRm_worked_88 : Rr X d MRm_worked 88 L st h = Rr X d MRm_worked 89 L (.int (3) :: st) h := Rr_nx d_MRm_worked_88 rfl
theorem r_MRm_worked_89 {x y : Int32} : Rr X d MRm_worked 89 L (.int y :: .int x :: st) h = if ¬ x = y then Rr X d MRm_worked 121 L st h else Rr X d MRm_worked 92 L st h := R_ic_ne d_MRm_worked_89 (by decide)
theorem r_MRm_worked_92 {l1 l2 l3 l4 l5 l6 : Value} {x : Nat} : Rr X d MRm_worked 92 [.ref x, l1, l2, l3, l4, l5, l6] st h = Rr X d MRm_worked 93 [.ref x, l1, l2, l3, l4, l5, l6] (.ref x :: st) h := Rr_nx d_MRm_worked_92 rfl
theorem r_MRm_worked_93 {a : Nat} (hq : (qR a 10 28).isSome = true) : Rr X d MRm_worked 93 L (.ref a :: st) (Wd mu la ro et) = Rr X d MRm_worked 96 L (.ref (qRd a 10 28) :: st) (Wd mu la ro et) := R_gfR d_MRm_worked_93 ff_10_60 hq
theorem r_MRm_worked_96 {l0 l1 l2 l3 l5 l6 : Value} {x : Int32} : Rr X d MRm_worked 96 [l0, l1, l2, l3, .int x, l5, l6] st h = Rr X d MRm_worked 98 [l0, l1, l2, l3, .int x, l5, l6] (.int x :: st) h := Rr_nx d_MRm_worked_96 rfl
theorem r_MRm_worked_98 : Rr X d MRm_worked 98 L st h = Rr X d MRm_worked 99 L (.int (1) :: st) h := Rr_nx d_MRm_worked_98 rfl
theorem r_MRm_worked_99 {x y : Int32} : Rr X d MRm_worked 99 L (.int y :: .int x :: st) h = Rr X d MRm_worked 100 L (.int (x - y) :: st) h := Rr_nx d_MRm_worked_99 rfl
theorem r_MRm_worked_100 {l1 l2 l3 l4 l5 l6 : Value} {x : Nat} : Rr X d MRm_worked 100 [.ref x, l1, l2, l3, l4, l5, l6] st h = Rr X d MRm_worked 101 [.ref x, l1, l2, l3, l4, l5, l6] (.ref x :: st) h := Rr_nx d_MRm_worked_100 rfl
theorem r_MRm_worked_101 {a : Nat} (hq : (qR a 10 28).isSome = true) : Rr X d MRm_worked 101 L (.ref a :: st) (Wd mu la ro et) = Rr X d MRm_worked 104 L (.ref (qRd a 10 28) :: st) (Wd mu la ro et) := R_gfR d_MRm_worked_101 ff_10_60 hq
theorem r_MRm_worked_104 {l0 l1 l2 l3 l5 l6 : Value} {x : Int32} : Rr X d MRm_worked 104 [l0, l1, l2, l3, .int x, l5, l6] st h = Rr X d MRm_worked 106 [l0, l1, l2, l3, .int x, l5, l6] (.int x :: st) h := Rr_nx d_MRm_worked_104 rfl
theorem r_MRm_worked_106 : Rr X d MRm_worked 106 L st h = Rr X d MRm_worked 107 L (.int (1) :: st) h := Rr_nx d_MRm_worked_106 rfl
theorem r_MRm_worked_107 {x y : Int32} : Rr X d MRm_worked 107 L (.int y :: .int x :: st) h = Rr X d MRm_worked 108 L (.int (x - y) :: st) h := Rr_nx d_MRm_worked_107 rfl
theorem r_MRm_worked_108 {a : Nat} {j : Int32} (hq : (qA a 0).isSome = true) : Rr X d MRm_worked 108 L (.int j :: .ref a :: st) (Wd mu la ro et) = if j < 0 ∨ qAd a 0 ≤ j.toNatClampNeg then none else Rr X d MRm_worked 109 L (.int (mu a j.toNatClampNeg) :: st) (Wd mu la ro et) := R_ialW d_MRm_worked_108 hq
theorem r_MRm_worked_109 {x : Int32} : Rr X d MRm_worked 109 L (.int x :: st) h = if ¬ x = 0 then Rr X d MRm_worked 116 L st h else Rr X d MRm_worked 112 L st h := R_if_ne d_MRm_worked_109 (by decide)
theorem r_MRm_worked_112 : Rr X d MRm_worked 112 L st h = Rr X d MRm_worked 113 L (.int (1) :: st) h := Rr_nx d_MRm_worked_112 rfl
theorem r_MRm_worked_113 : Rr X d MRm_worked 113 L st h = Rr X d MRm_worked 117 L st h := R_goto d_MRm_worked_113 (by decide)
theorem r_MRm_worked_116 : Rr X d MRm_worked 116 L st h = Rr X d MRm_worked 117 L (.int (0) :: st) h := Rr_nx d_MRm_worked_116 rfl
theorem r_MRm_worked_117 {a : Nat} {j x : Int32} (hq : (qA a 0).isSome = true) : Rr X d MRm_worked 117 L (.int x :: .int j :: .ref a :: st) (Wd mu la ro et) = if j < 0 ∨ qAd a 0 ≤ j.toNatClampNeg then none else Rr X d MRm_worked 118 L st (Wd (up2 mu a j.toNatClampNeg (x)) la ro et) := R_iasW d_MRm_worked_117 hq
theorem r_MRm_worked_118 : Rr X d MRm_worked 118 L st h = Rr X d MRm_worked 182 L st h := R_goto d_MRm_worked_118 (by decide)
theorem r_MRm_worked_121 {l0 l1 l2 l3 l4 l5 : Value} {x : Int32} : Rr X d MRm_worked 121 [l0, l1, l2, l3, l4, l5, .int x] st h = Rr X d MRm_worked 123 [l0, l1, l2, l3, l4, l5, .int x] (.int x :: st) h := Rr_nx d_MRm_worked_121 rfl
theorem r_MRm_worked_123 : Rr X d MRm_worked 123 L st h = Rr X d MRm_worked 124 L (.int (4) :: st) h := Rr_nx d_MRm_worked_123 rfl
theorem r_MRm_worked_124 {x y : Int32} : Rr X d MRm_worked 124 L (.int y :: .int x :: st) h = if ¬ x = y then Rr X d MRm_worked 149 L st h else Rr X d MRm_worked 127 L st h := R_ic_ne d_MRm_worked_124 (by decide)
theorem r_MRm_worked_127 {l1 l2 l3 l4 l5 l6 : Value} {x : Nat} : Rr X d MRm_worked 127 [.ref x, l1, l2, l3, l4, l5, l6] st h = Rr X d MRm_worked 128 [.ref x, l1, l2, l3, l4, l5, l6] (.ref x :: st) h := Rr_nx d_MRm_worked_127 rfl
theorem r_MRm_worked_128 {a : Nat} (hq : (qR a 10 28).isSome = true) : Rr X d MRm_worked 128 L (.ref a :: st) (Wd mu la ro et) = Rr X d MRm_worked 131 L (.ref (qRd a 10 28) :: st) (Wd mu la ro et) := R_gfR d_MRm_worked_128 ff_10_60 hq
theorem r_MRm_worked_131 {l0 l1 l2 l3 l5 l6 : Value} {x : Int32} : Rr X d MRm_worked 131 [l0, l1, l2, l3, .int x, l5, l6] st h = Rr X d MRm_worked 133 [l0, l1, l2, l3, .int x, l5, l6] (.int x :: st) h := Rr_nx d_MRm_worked_131 rfl
theorem r_MRm_worked_133 : Rr X d MRm_worked 133 L st h = Rr X d MRm_worked 134 L (.int (1) :: st) h := Rr_nx d_MRm_worked_133 rfl
theorem r_MRm_worked_134 {x y : Int32} : Rr X d MRm_worked 134 L (.int y :: .int x :: st) h = Rr X d MRm_worked 135 L (.int (x - y) :: st) h := Rr_nx d_MRm_worked_134 rfl
theorem r_MRm_worked_135 {l1 l2 l3 l4 l5 l6 : Value} {x : Nat} : Rr X d MRm_worked 135 [.ref x, l1, l2, l3, l4, l5, l6] st h = Rr X d MRm_worked 136 [.ref x, l1, l2, l3, l4, l5, l6] (.ref x :: st) h := Rr_nx d_MRm_worked_135 rfl
theorem r_MRm_worked_136 {a : Nat} (hq : (qR a 10 28).isSome = true) : Rr X d MRm_worked 136 L (.ref a :: st) (Wd mu la ro et) = Rr X d MRm_worked 139 L (.ref (qRd a 10 28) :: st) (Wd mu la ro et) := R_gfR d_MRm_worked_136 ff_10_60 hq
theorem r_MRm_worked_139 {l0 l1 l2 l3 l5 l6 : Value} {x : Int32} : Rr X d MRm_worked 139 [l0, l1, l2, l3, .int x, l5, l6] st h = Rr X d MRm_worked 141 [l0, l1, l2, l3, .int x, l5, l6] (.int x :: st) h := Rr_nx d_MRm_worked_139 rfl
theorem r_MRm_worked_141 : Rr X d MRm_worked 141 L st h = Rr X d MRm_worked 142 L (.int (1) :: st) h := Rr_nx d_MRm_worked_141 rfl
theorem r_MRm_worked_142 {x y : Int32} : Rr X d MRm_worked 142 L (.int y :: .int x :: st) h = Rr X d MRm_worked 143 L (.int (x - y) :: st) h := Rr_nx d_MRm_worked_142 rfl
theorem r_MRm_worked_143 {a : Nat} {j : Int32} (hq : (qA a 0).isSome = true) : Rr X d MRm_worked 143 L (.int j :: .ref a :: st) (Wd mu la ro et) = if j < 0 ∨ qAd a 0 ≤ j.toNatClampNeg then none else Rr X d MRm_worked 144 L (.int (mu a j.toNatClampNeg) :: st) (Wd mu la ro et) := R_ialW d_MRm_worked_143 hq
theorem r_MRm_worked_144 {x : Int32} : Rr X d MRm_worked 144 L (.int x :: st) h = Rr X d MRm_worked 145 L (.int (-x) :: st) h := Rr_nx d_MRm_worked_144 rfl
theorem r_MRm_worked_145 {a : Nat} {j x : Int32} (hq : (qA a 0).isSome = true) : Rr X d MRm_worked 145 L (.int x :: .int j :: .ref a :: st) (Wd mu la ro et) = if j < 0 ∨ qAd a 0 ≤ j.toNatClampNeg then none else Rr X d MRm_worked 146 L st (Wd (up2 mu a j.toNatClampNeg (x)) la ro et) := R_iasW d_MRm_worked_145 hq
theorem r_MRm_worked_146 : Rr X d MRm_worked 146 L st h = Rr X d MRm_worked 182 L st h := R_goto d_MRm_worked_146 (by decide)
theorem r_MRm_worked_149 {l0 l1 l2 l3 l5 l6 : Value} {x : Int32} : Rr X d MRm_worked 149 [l0, l1, l2, l3, .int x, l5, l6] st h = Rr X d MRm_worked 152 (sL [l0, l1, l2, l3, .int x, l5, l6] 4 (.int (x + (-1)))) st h := Rr_nx d_MRm_worked_149 rfl
theorem r_MRm_worked_152 {l1 l2 l3 l4 l5 l6 : Value} {x : Nat} : Rr X d MRm_worked 152 [.ref x, l1, l2, l3, l4, l5, l6] st h = Rr X d MRm_worked 153 [.ref x, l1, l2, l3, l4, l5, l6] (.ref x :: st) h := Rr_nx d_MRm_worked_152 rfl
theorem r_MRm_worked_153 {a : Nat} (hq : (qR a 10 28).isSome = true) : Rr X d MRm_worked 153 L (.ref a :: st) (Wd mu la ro et) = Rr X d MRm_worked 156 L (.ref (qRd a 10 28) :: st) (Wd mu la ro et) := R_gfR d_MRm_worked_153 ff_10_60 hq
theorem r_MRm_worked_156 {l0 l1 l2 l3 l5 l6 : Value} {x : Int32} : Rr X d MRm_worked 156 [l0, l1, l2, l3, .int x, l5, l6] st h = Rr X d MRm_worked 158 [l0, l1, l2, l3, .int x, l5, l6] (.int x :: st) h := Rr_nx d_MRm_worked_156 rfl
theorem r_MRm_worked_158 : Rr X d MRm_worked 158 L st h = Rr X d MRm_worked 159 L (.int (1) :: st) h := Rr_nx d_MRm_worked_158 rfl
theorem r_MRm_worked_159 {x y : Int32} : Rr X d MRm_worked 159 L (.int y :: .int x :: st) h = Rr X d MRm_worked 160 L (.int (x - y) :: st) h := Rr_nx d_MRm_worked_159 rfl
theorem r_MRm_worked_160 {l0 l1 l2 l3 l4 l5 : Value} {x : Int32} : Rr X d MRm_worked 160 [l0, l1, l2, l3, l4, l5, .int x] st h = Rr X d MRm_worked 162 [l0, l1, l2, l3, l4, l5, .int x] (.int x :: st) h := Rr_nx d_MRm_worked_160 rfl
theorem r_MRm_worked_162 {l1 l2 l3 l4 l5 l6 : Value} {x : Nat} : Rr X d MRm_worked 162 [.ref x, l1, l2, l3, l4, l5, l6] st h = Rr X d MRm_worked 163 [.ref x, l1, l2, l3, l4, l5, l6] (.ref x :: st) h := Rr_nx d_MRm_worked_162 rfl
theorem r_MRm_worked_163 {a : Nat} (hq : (qR a 10 28).isSome = true) : Rr X d MRm_worked 163 L (.ref a :: st) (Wd mu la ro et) = Rr X d MRm_worked 166 L (.ref (qRd a 10 28) :: st) (Wd mu la ro et) := R_gfR d_MRm_worked_163 ff_10_60 hq
theorem r_MRm_worked_166 {l0 l1 l2 l3 l5 l6 : Value} {x : Int32} : Rr X d MRm_worked 166 [l0, l1, l2, l3, .int x, l5, l6] st h = Rr X d MRm_worked 168 [l0, l1, l2, l3, .int x, l5, l6] (.int x :: st) h := Rr_nx d_MRm_worked_166 rfl
theorem r_MRm_worked_168 : Rr X d MRm_worked 168 L st h = Rr X d MRm_worked 169 L (.int (1) :: st) h := Rr_nx d_MRm_worked_168 rfl
theorem r_MRm_worked_169 {x y : Int32} : Rr X d MRm_worked 169 L (.int y :: .int x :: st) h = Rr X d MRm_worked 170 L (.int (x - y) :: st) h := Rr_nx d_MRm_worked_169 rfl
theorem r_MRm_worked_170 {a : Nat} {j : Int32} (hq : (qA a 0).isSome = true) : Rr X d MRm_worked 170 L (.int j :: .ref a :: st) (Wd mu la ro et) = if j < 0 ∨ qAd a 0 ≤ j.toNatClampNeg then none else Rr X d MRm_worked 171 L (.int (mu a j.toNatClampNeg) :: st) (Wd mu la ro et) := R_ialW d_MRm_worked_170 hq
theorem r_MRm_worked_171 {l1 l2 l3 l4 l5 l6 : Value} {x : Nat} : Rr X d MRm_worked 171 [.ref x, l1, l2, l3, l4, l5, l6] st h = Rr X d MRm_worked 172 [.ref x, l1, l2, l3, l4, l5, l6] (.ref x :: st) h := Rr_nx d_MRm_worked_171 rfl
theorem r_MRm_worked_172 {a : Nat} (hq : (qR a 10 28).isSome = true) : Rr X d MRm_worked 172 L (.ref a :: st) (Wd mu la ro et) = Rr X d MRm_worked 175 L (.ref (qRd a 10 28) :: st) (Wd mu la ro et) := R_gfR d_MRm_worked_172 ff_10_60 hq
theorem r_MRm_worked_175 {l0 l1 l2 l3 l5 l6 : Value} {x : Int32} : Rr X d MRm_worked 175 [l0, l1, l2, l3, .int x, l5, l6] st h = Rr X d MRm_worked 177 [l0, l1, l2, l3, .int x, l5, l6] (.int x :: st) h := Rr_nx d_MRm_worked_175 rfl
theorem r_MRm_worked_177 {a : Nat} {j : Int32} (hq : (qA a 0).isSome = true) : Rr X d MRm_worked 177 L (.int j :: .ref a :: st) (Wd mu la ro et) = if j < 0 ∨ qAd a 0 ≤ j.toNatClampNeg then none else Rr X d MRm_worked 178 L (.int (mu a j.toNatClampNeg) :: st) (Wd mu la ro et) := R_ialW d_MRm_worked_177 hq
theorem fc_10_244 : fC 10 244 = some (1, 0, 3, MRm_twoOf) := rfl
theorem r_MRm_worked_178 {y0 : Int32} {y1 : Int32} {y2 : Int32} (hc : ckS st = true) : Rr X (d + 1) MRm_worked 178 L (.int y2 :: .int y1 :: .int y0 :: st) h = (Rr X d MRm_twoOf 0 [.int y0, .int y1, .int y2] [] h).bind fun q => Rr X (d + 1) MRm_worked 181 L (psh q.1 st) q.2 := R_is (av := [.int y2, .int y1, .int y0]) d_MRm_worked_178 (Or.inl fc_10_244) (ckS_le hc) rfl (Nat.le_of_ble_eq_true rfl) (Nat.le_of_ble_eq_true rfl)
theorem r_MRm_worked_181 {a : Nat} {j x : Int32} (hq : (qA a 0).isSome = true) : Rr X d MRm_worked 181 L (.int x :: .int j :: .ref a :: st) (Wd mu la ro et) = if j < 0 ∨ qAd a 0 ≤ j.toNatClampNeg then none else Rr X d MRm_worked 182 L st (Wd (up2 mu a j.toNatClampNeg (x)) la ro et) := R_iasW d_MRm_worked_181 hq
theorem r_MRm_worked_182 {l0 l1 l2 l3 l4 l6 : Value} {x : Int32} : Rr X d MRm_worked 182 [l0, l1, l2, l3, l4, .int x, l6] st h = Rr X d MRm_worked 185 (sL [l0, l1, l2, l3, l4, .int x, l6] 5 (.int (x + (1)))) st h := Rr_nx d_MRm_worked_182 rfl
theorem r_MRm_worked_185 : Rr X d MRm_worked 185 L st h = Rr X d MRm_worked 12 L st h := R_goto d_MRm_worked_185 (by decide)
theorem r_MRm_worked_188 {l1 l2 l3 l4 l5 l6 : Value} {x : Nat} : Rr X d MRm_worked 188 [.ref x, l1, l2, l3, l4, l5, l6] st h = Rr X d MRm_worked 189 [.ref x, l1, l2, l3, l4, l5, l6] (.ref x :: st) h := Rr_nx d_MRm_worked_188 rfl
theorem r_MRm_worked_189 {a : Nat} (hq : (qR a 10 28).isSome = true) : Rr X d MRm_worked 189 L (.ref a :: st) (Wd mu la ro et) = Rr X d MRm_worked 192 L (.ref (qRd a 10 28) :: st) (Wd mu la ro et) := R_gfR d_MRm_worked_189 ff_10_60 hq
theorem r_MRm_worked_192 : Rr X d MRm_worked 192 L st h = Rr X d MRm_worked 193 L (.int (0) :: st) h := Rr_nx d_MRm_worked_192 rfl
theorem r_MRm_worked_193 {a : Nat} {j : Int32} (hq : (qA a 0).isSome = true) : Rr X d MRm_worked 193 L (.int j :: .ref a :: st) (Wd mu la ro et) = if j < 0 ∨ qAd a 0 ≤ j.toNatClampNeg then none else Rr X d MRm_worked 194 L (.int (mu a j.toNatClampNeg) :: st) (Wd mu la ro et) := R_ialW d_MRm_worked_193 hq
theorem r_MRm_worked_194 {x : Int32} : Rr X d MRm_worked 194 L [.int x] h = some (some (.int x), h) := R_ir d_MRm_worked_194 rfl
theorem d_MRm_twoOf_0 : decode MRm_twoOf.2.2.1 0 = .ok (.iload_n 0, 1) := lkT_ok tk_MRm_twoOf rfl
theorem d_MRm_twoOf_1 : decode MRm_twoOf.2.2.1 1 = .ok (.tableswitch 217 37 62 #[153, 203, 217, 217, 217, 127, 119, 217, 123, 217, 131, 217, 217, 217, 217, 217, 217, 217, 217, 217, 217, 217, 217, 170, 181, 192], 119) := lkT_ok tk_MRm_twoOf rfl
theorem d_MRm_twoOf_120 : decode MRm_twoOf.2.2.1 120 = .ok (.iload_n 1, 1) := lkT_ok tk_MRm_twoOf rfl
theorem d_MRm_twoOf_121 : decode MRm_twoOf.2.2.1 121 = .ok (.iload_n 2, 1) := lkT_ok tk_MRm_twoOf rfl
theorem d_MRm_twoOf_122 : decode MRm_twoOf.2.2.1 122 = .ok (.iadd, 1) := lkT_ok tk_MRm_twoOf rfl
theorem d_MRm_twoOf_123 : decode MRm_twoOf.2.2.1 123 = .ok (.ireturn, 1) := lkT_ok tk_MRm_twoOf rfl
theorem d_MRm_twoOf_124 : decode MRm_twoOf.2.2.1 124 = .ok (.iload_n 1, 1) := lkT_ok tk_MRm_twoOf rfl
theorem d_MRm_twoOf_125 : decode MRm_twoOf.2.2.1 125 = .ok (.iload_n 2, 1) := lkT_ok tk_MRm_twoOf rfl
theorem d_MRm_twoOf_126 : decode MRm_twoOf.2.2.1 126 = .ok (.isub, 1) := lkT_ok tk_MRm_twoOf rfl
theorem d_MRm_twoOf_127 : decode MRm_twoOf.2.2.1 127 = .ok (.ireturn, 1) := lkT_ok tk_MRm_twoOf rfl
theorem d_MRm_twoOf_128 : decode MRm_twoOf.2.2.1 128 = .ok (.iload_n 1, 1) := lkT_ok tk_MRm_twoOf rfl
theorem d_MRm_twoOf_129 : decode MRm_twoOf.2.2.1 129 = .ok (.iload_n 2, 1) := lkT_ok tk_MRm_twoOf rfl
theorem d_MRm_twoOf_130 : decode MRm_twoOf.2.2.1 130 = .ok (.imul, 1) := lkT_ok tk_MRm_twoOf rfl
theorem d_MRm_twoOf_131 : decode MRm_twoOf.2.2.1 131 = .ok (.ireturn, 1) := lkT_ok tk_MRm_twoOf rfl
theorem d_MRm_twoOf_132 : decode MRm_twoOf.2.2.1 132 = .ok (.iload_n 2, 1) := lkT_ok tk_MRm_twoOf rfl
theorem d_MRm_twoOf_133 : decode MRm_twoOf.2.2.1 133 = .ok (.ifCond .ne 7, 3) := lkT_ok tk_MRm_twoOf rfl
theorem d_MRm_twoOf_136 : decode MRm_twoOf.2.2.1 136 = .ok (.iconst 0, 1) := lkT_ok tk_MRm_twoOf rfl
theorem d_MRm_twoOf_137 : decode MRm_twoOf.2.2.1 137 = .ok (.goto 16, 3) := lkT_ok tk_MRm_twoOf rfl
theorem d_MRm_twoOf_140 : decode MRm_twoOf.2.2.1 140 = .ok (.iload_n 2, 1) := lkT_ok tk_MRm_twoOf rfl
theorem d_MRm_twoOf_141 : decode MRm_twoOf.2.2.1 141 = .ok (.iconst (-1), 1) := lkT_ok tk_MRm_twoOf rfl
theorem d_MRm_twoOf_142 : decode MRm_twoOf.2.2.1 142 = .ok (.if_icmp .ne 8, 3) := lkT_ok tk_MRm_twoOf rfl
theorem d_MRm_twoOf_145 : decode MRm_twoOf.2.2.1 145 = .ok (.iload_n 1, 1) := lkT_ok tk_MRm_twoOf rfl
theorem d_MRm_twoOf_146 : decode MRm_twoOf.2.2.1 146 = .ok (.ineg, 1) := lkT_ok tk_MRm_twoOf rfl
theorem d_MRm_twoOf_147 : decode MRm_twoOf.2.2.1 147 = .ok (.goto 6, 3) := lkT_ok tk_MRm_twoOf rfl
theorem d_MRm_twoOf_150 : decode MRm_twoOf.2.2.1 150 = .ok (.iload_n 1, 1) := lkT_ok tk_MRm_twoOf rfl
theorem d_MRm_twoOf_151 : decode MRm_twoOf.2.2.1 151 = .ok (.iload_n 2, 1) := lkT_ok tk_MRm_twoOf rfl
theorem d_MRm_twoOf_152 : decode MRm_twoOf.2.2.1 152 = .ok (.idiv, 1) := lkT_ok tk_MRm_twoOf rfl
theorem d_MRm_twoOf_153 : decode MRm_twoOf.2.2.1 153 = .ok (.ireturn, 1) := lkT_ok tk_MRm_twoOf rfl
theorem d_MRm_twoOf_154 : decode MRm_twoOf.2.2.1 154 = .ok (.iload_n 2, 1) := lkT_ok tk_MRm_twoOf rfl
theorem d_MRm_twoOf_155 : decode MRm_twoOf.2.2.1 155 = .ok (.ifCond .eq 8, 3) := lkT_ok tk_MRm_twoOf rfl
theorem d_MRm_twoOf_158 : decode MRm_twoOf.2.2.1 158 = .ok (.iload_n 2, 1) := lkT_ok tk_MRm_twoOf rfl
theorem d_MRm_twoOf_159 : decode MRm_twoOf.2.2.1 159 = .ok (.iconst (-1), 1) := lkT_ok tk_MRm_twoOf rfl
theorem d_MRm_twoOf_160 : decode MRm_twoOf.2.2.1 160 = .ok (.if_icmp .ne 7, 3) := lkT_ok tk_MRm_twoOf rfl
theorem d_MRm_twoOf_163 : decode MRm_twoOf.2.2.1 163 = .ok (.iconst 0, 1) := lkT_ok tk_MRm_twoOf rfl
theorem d_MRm_twoOf_164 : decode MRm_twoOf.2.2.1 164 = .ok (.goto 6, 3) := lkT_ok tk_MRm_twoOf rfl
theorem d_MRm_twoOf_167 : decode MRm_twoOf.2.2.1 167 = .ok (.iload_n 1, 1) := lkT_ok tk_MRm_twoOf rfl
theorem d_MRm_twoOf_168 : decode MRm_twoOf.2.2.1 168 = .ok (.iload_n 2, 1) := lkT_ok tk_MRm_twoOf rfl
theorem d_MRm_twoOf_169 : decode MRm_twoOf.2.2.1 169 = .ok (.irem, 1) := lkT_ok tk_MRm_twoOf rfl
theorem d_MRm_twoOf_170 : decode MRm_twoOf.2.2.1 170 = .ok (.ireturn, 1) := lkT_ok tk_MRm_twoOf rfl
theorem d_MRm_twoOf_171 : decode MRm_twoOf.2.2.1 171 = .ok (.iload_n 1, 1) := lkT_ok tk_MRm_twoOf rfl
theorem d_MRm_twoOf_172 : decode MRm_twoOf.2.2.1 172 = .ok (.iload_n 2, 1) := lkT_ok tk_MRm_twoOf rfl
theorem d_MRm_twoOf_173 : decode MRm_twoOf.2.2.1 173 = .ok (.if_icmp .ge 7, 3) := lkT_ok tk_MRm_twoOf rfl
theorem d_MRm_twoOf_176 : decode MRm_twoOf.2.2.1 176 = .ok (.iconst 1, 1) := lkT_ok tk_MRm_twoOf rfl
theorem d_MRm_twoOf_177 : decode MRm_twoOf.2.2.1 177 = .ok (.goto 4, 3) := lkT_ok tk_MRm_twoOf rfl
theorem d_MRm_twoOf_180 : decode MRm_twoOf.2.2.1 180 = .ok (.iconst 0, 1) := lkT_ok tk_MRm_twoOf rfl
theorem d_MRm_twoOf_181 : decode MRm_twoOf.2.2.1 181 = .ok (.ireturn, 1) := lkT_ok tk_MRm_twoOf rfl
theorem d_MRm_twoOf_182 : decode MRm_twoOf.2.2.1 182 = .ok (.iload_n 1, 1) := lkT_ok tk_MRm_twoOf rfl
theorem d_MRm_twoOf_183 : decode MRm_twoOf.2.2.1 183 = .ok (.iload_n 2, 1) := lkT_ok tk_MRm_twoOf rfl
theorem d_MRm_twoOf_184 : decode MRm_twoOf.2.2.1 184 = .ok (.if_icmp .ne 7, 3) := lkT_ok tk_MRm_twoOf rfl
theorem d_MRm_twoOf_187 : decode MRm_twoOf.2.2.1 187 = .ok (.iconst 1, 1) := lkT_ok tk_MRm_twoOf rfl
theorem d_MRm_twoOf_188 : decode MRm_twoOf.2.2.1 188 = .ok (.goto 4, 3) := lkT_ok tk_MRm_twoOf rfl
theorem d_MRm_twoOf_191 : decode MRm_twoOf.2.2.1 191 = .ok (.iconst 0, 1) := lkT_ok tk_MRm_twoOf rfl
theorem d_MRm_twoOf_192 : decode MRm_twoOf.2.2.1 192 = .ok (.ireturn, 1) := lkT_ok tk_MRm_twoOf rfl
theorem d_MRm_twoOf_193 : decode MRm_twoOf.2.2.1 193 = .ok (.iload_n 1, 1) := lkT_ok tk_MRm_twoOf rfl
theorem d_MRm_twoOf_194 : decode MRm_twoOf.2.2.1 194 = .ok (.iload_n 2, 1) := lkT_ok tk_MRm_twoOf rfl
theorem d_MRm_twoOf_195 : decode MRm_twoOf.2.2.1 195 = .ok (.if_icmp .le 7, 3) := lkT_ok tk_MRm_twoOf rfl
theorem d_MRm_twoOf_198 : decode MRm_twoOf.2.2.1 198 = .ok (.iconst 1, 1) := lkT_ok tk_MRm_twoOf rfl
theorem d_MRm_twoOf_199 : decode MRm_twoOf.2.2.1 199 = .ok (.goto 4, 3) := lkT_ok tk_MRm_twoOf rfl
theorem d_MRm_twoOf_202 : decode MRm_twoOf.2.2.1 202 = .ok (.iconst 0, 1) := lkT_ok tk_MRm_twoOf rfl
theorem d_MRm_twoOf_203 : decode MRm_twoOf.2.2.1 203 = .ok (.ireturn, 1) := lkT_ok tk_MRm_twoOf rfl
theorem d_MRm_twoOf_204 : decode MRm_twoOf.2.2.1 204 = .ok (.iload_n 1, 1) := lkT_ok tk_MRm_twoOf rfl
theorem d_MRm_twoOf_205 : decode MRm_twoOf.2.2.1 205 = .ok (.ifCond .eq 11, 3) := lkT_ok tk_MRm_twoOf rfl
theorem d_MRm_twoOf_208 : decode MRm_twoOf.2.2.1 208 = .ok (.iload_n 2, 1) := lkT_ok tk_MRm_twoOf rfl
theorem d_MRm_twoOf_209 : decode MRm_twoOf.2.2.1 209 = .ok (.ifCond .eq 7, 3) := lkT_ok tk_MRm_twoOf rfl
theorem d_MRm_twoOf_212 : decode MRm_twoOf.2.2.1 212 = .ok (.iconst 1, 1) := lkT_ok tk_MRm_twoOf rfl
theorem d_MRm_twoOf_213 : decode MRm_twoOf.2.2.1 213 = .ok (.goto 4, 3) := lkT_ok tk_MRm_twoOf rfl
theorem d_MRm_twoOf_216 : decode MRm_twoOf.2.2.1 216 = .ok (.iconst 0, 1) := lkT_ok tk_MRm_twoOf rfl
theorem d_MRm_twoOf_217 : decode MRm_twoOf.2.2.1 217 = .ok (.ireturn, 1) := lkT_ok tk_MRm_twoOf rfl
theorem d_MRm_twoOf_218 : decode MRm_twoOf.2.2.1 218 = .ok (.iload_n 1, 1) := lkT_ok tk_MRm_twoOf rfl
theorem d_MRm_twoOf_219 : decode MRm_twoOf.2.2.1 219 = .ok (.ifCond .ne 7, 3) := lkT_ok tk_MRm_twoOf rfl
theorem d_MRm_twoOf_222 : decode MRm_twoOf.2.2.1 222 = .ok (.iload_n 2, 1) := lkT_ok tk_MRm_twoOf rfl
theorem d_MRm_twoOf_223 : decode MRm_twoOf.2.2.1 223 = .ok (.ifCond .eq 7, 3) := lkT_ok tk_MRm_twoOf rfl
theorem d_MRm_twoOf_226 : decode MRm_twoOf.2.2.1 226 = .ok (.iconst 1, 1) := lkT_ok tk_MRm_twoOf rfl
theorem d_MRm_twoOf_227 : decode MRm_twoOf.2.2.1 227 = .ok (.goto 4, 3) := lkT_ok tk_MRm_twoOf rfl
theorem d_MRm_twoOf_230 : decode MRm_twoOf.2.2.1 230 = .ok (.iconst 0, 1) := lkT_ok tk_MRm_twoOf rfl
theorem d_MRm_twoOf_231 : decode MRm_twoOf.2.2.1 231 = .ok (.ireturn, 1) := lkT_ok tk_MRm_twoOf rfl
theorem r_MRm_twoOf_0 {l1 l2 : Value} {x : Int32} : Rr X d MRm_twoOf 0 [.int x, l1, l2] st h = Rr X d MRm_twoOf 1 [.int x, l1, l2] (.int x :: st) h := Rr_nx d_MRm_twoOf_0 rfl
theorem r_MRm_twoOf_1_37 : Rr X d MRm_twoOf 1 L (.int (37) :: st) h = Rr X d MRm_twoOf 154 L st h := R_tab (off := 153) d_MRm_twoOf_1 (by decide) (by decide) (by decide)
theorem r_MRm_twoOf_1_38 : Rr X d MRm_twoOf 1 L (.int (38) :: st) h = Rr X d MRm_twoOf 204 L st h := R_tab (off := 203) d_MRm_twoOf_1 (by decide) (by decide) (by decide)
theorem r_MRm_twoOf_1_39 : Rr X d MRm_twoOf 1 L (.int (39) :: st) h = Rr X d MRm_twoOf 218 L st h := R_tab (off := 217) d_MRm_twoOf_1 (by decide) (by decide) (by decide)
theorem r_MRm_twoOf_1_40 : Rr X d MRm_twoOf 1 L (.int (40) :: st) h = Rr X d MRm_twoOf 218 L st h := R_tab (off := 217) d_MRm_twoOf_1 (by decide) (by decide) (by decide)
theorem r_MRm_twoOf_1_41 : Rr X d MRm_twoOf 1 L (.int (41) :: st) h = Rr X d MRm_twoOf 218 L st h := R_tab (off := 217) d_MRm_twoOf_1 (by decide) (by decide) (by decide)
theorem r_MRm_twoOf_1_42 : Rr X d MRm_twoOf 1 L (.int (42) :: st) h = Rr X d MRm_twoOf 128 L st h := R_tab (off := 127) d_MRm_twoOf_1 (by decide) (by decide) (by decide)
theorem r_MRm_twoOf_1_43 : Rr X d MRm_twoOf 1 L (.int (43) :: st) h = Rr X d MRm_twoOf 120 L st h := R_tab (off := 119) d_MRm_twoOf_1 (by decide) (by decide) (by decide)
theorem r_MRm_twoOf_1_44 : Rr X d MRm_twoOf 1 L (.int (44) :: st) h = Rr X d MRm_twoOf 218 L st h := R_tab (off := 217) d_MRm_twoOf_1 (by decide) (by decide) (by decide)
theorem r_MRm_twoOf_1_45 : Rr X d MRm_twoOf 1 L (.int (45) :: st) h = Rr X d MRm_twoOf 124 L st h := R_tab (off := 123) d_MRm_twoOf_1 (by decide) (by decide) (by decide)
theorem r_MRm_twoOf_1_46 : Rr X d MRm_twoOf 1 L (.int (46) :: st) h = Rr X d MRm_twoOf 218 L st h := R_tab (off := 217) d_MRm_twoOf_1 (by decide) (by decide) (by decide)
theorem r_MRm_twoOf_1_47 : Rr X d MRm_twoOf 1 L (.int (47) :: st) h = Rr X d MRm_twoOf 132 L st h := R_tab (off := 131) d_MRm_twoOf_1 (by decide) (by decide) (by decide)
theorem r_MRm_twoOf_1_48 : Rr X d MRm_twoOf 1 L (.int (48) :: st) h = Rr X d MRm_twoOf 218 L st h := R_tab (off := 217) d_MRm_twoOf_1 (by decide) (by decide) (by decide)
theorem r_MRm_twoOf_1_49 : Rr X d MRm_twoOf 1 L (.int (49) :: st) h = Rr X d MRm_twoOf 218 L st h := R_tab (off := 217) d_MRm_twoOf_1 (by decide) (by decide) (by decide)
theorem r_MRm_twoOf_1_50 : Rr X d MRm_twoOf 1 L (.int (50) :: st) h = Rr X d MRm_twoOf 218 L st h := R_tab (off := 217) d_MRm_twoOf_1 (by decide) (by decide) (by decide)
theorem r_MRm_twoOf_1_51 : Rr X d MRm_twoOf 1 L (.int (51) :: st) h = Rr X d MRm_twoOf 218 L st h := R_tab (off := 217) d_MRm_twoOf_1 (by decide) (by decide) (by decide)
theorem r_MRm_twoOf_1_52 : Rr X d MRm_twoOf 1 L (.int (52) :: st) h = Rr X d MRm_twoOf 218 L st h := R_tab (off := 217) d_MRm_twoOf_1 (by decide) (by decide) (by decide)
theorem r_MRm_twoOf_1_53 : Rr X d MRm_twoOf 1 L (.int (53) :: st) h = Rr X d MRm_twoOf 218 L st h := R_tab (off := 217) d_MRm_twoOf_1 (by decide) (by decide) (by decide)
theorem r_MRm_twoOf_1_54 : Rr X d MRm_twoOf 1 L (.int (54) :: st) h = Rr X d MRm_twoOf 218 L st h := R_tab (off := 217) d_MRm_twoOf_1 (by decide) (by decide) (by decide)
theorem r_MRm_twoOf_1_55 : Rr X d MRm_twoOf 1 L (.int (55) :: st) h = Rr X d MRm_twoOf 218 L st h := R_tab (off := 217) d_MRm_twoOf_1 (by decide) (by decide) (by decide)
theorem r_MRm_twoOf_1_56 : Rr X d MRm_twoOf 1 L (.int (56) :: st) h = Rr X d MRm_twoOf 218 L st h := R_tab (off := 217) d_MRm_twoOf_1 (by decide) (by decide) (by decide)
theorem r_MRm_twoOf_1_57 : Rr X d MRm_twoOf 1 L (.int (57) :: st) h = Rr X d MRm_twoOf 218 L st h := R_tab (off := 217) d_MRm_twoOf_1 (by decide) (by decide) (by decide)
theorem r_MRm_twoOf_1_58 : Rr X d MRm_twoOf 1 L (.int (58) :: st) h = Rr X d MRm_twoOf 218 L st h := R_tab (off := 217) d_MRm_twoOf_1 (by decide) (by decide) (by decide)
theorem r_MRm_twoOf_1_59 : Rr X d MRm_twoOf 1 L (.int (59) :: st) h = Rr X d MRm_twoOf 218 L st h := R_tab (off := 217) d_MRm_twoOf_1 (by decide) (by decide) (by decide)
theorem r_MRm_twoOf_1_60 : Rr X d MRm_twoOf 1 L (.int (60) :: st) h = Rr X d MRm_twoOf 171 L st h := R_tab (off := 170) d_MRm_twoOf_1 (by decide) (by decide) (by decide)
theorem r_MRm_twoOf_1_61 : Rr X d MRm_twoOf 1 L (.int (61) :: st) h = Rr X d MRm_twoOf 182 L st h := R_tab (off := 181) d_MRm_twoOf_1 (by decide) (by decide) (by decide)
theorem r_MRm_twoOf_1_62 : Rr X d MRm_twoOf 1 L (.int (62) :: st) h = Rr X d MRm_twoOf 193 L st h := R_tab (off := 192) d_MRm_twoOf_1 (by decide) (by decide) (by decide)
theorem r_MRm_twoOf_1D {x : Int32} (hx : x.toInt < 37 ∨ 62 < x.toInt) : Rr X d MRm_twoOf 1 L (.int x :: st) h = Rr X d MRm_twoOf 218 L st h := R_tabD d_MRm_twoOf_1 hx (by decide)
theorem r_MRm_twoOf_120 {l0 l2 : Value} {x : Int32} : Rr X d MRm_twoOf 120 [l0, .int x, l2] st h = Rr X d MRm_twoOf 121 [l0, .int x, l2] (.int x :: st) h := Rr_nx d_MRm_twoOf_120 rfl
theorem r_MRm_twoOf_121 {l0 l1 : Value} {x : Int32} : Rr X d MRm_twoOf 121 [l0, l1, .int x] st h = Rr X d MRm_twoOf 122 [l0, l1, .int x] (.int x :: st) h := Rr_nx d_MRm_twoOf_121 rfl
theorem r_MRm_twoOf_122 {x y : Int32} : Rr X d MRm_twoOf 122 L (.int y :: .int x :: st) h = Rr X d MRm_twoOf 123 L (.int (x + y) :: st) h := Rr_nx d_MRm_twoOf_122 rfl
theorem r_MRm_twoOf_123 {x : Int32} : Rr X d MRm_twoOf 123 L [.int x] h = some (some (.int x), h) := R_ir d_MRm_twoOf_123 rfl
theorem r_MRm_twoOf_124 {l0 l2 : Value} {x : Int32} : Rr X d MRm_twoOf 124 [l0, .int x, l2] st h = Rr X d MRm_twoOf 125 [l0, .int x, l2] (.int x :: st) h := Rr_nx d_MRm_twoOf_124 rfl
theorem r_MRm_twoOf_125 {l0 l1 : Value} {x : Int32} : Rr X d MRm_twoOf 125 [l0, l1, .int x] st h = Rr X d MRm_twoOf 126 [l0, l1, .int x] (.int x :: st) h := Rr_nx d_MRm_twoOf_125 rfl
theorem r_MRm_twoOf_126 {x y : Int32} : Rr X d MRm_twoOf 126 L (.int y :: .int x :: st) h = Rr X d MRm_twoOf 127 L (.int (x - y) :: st) h := Rr_nx d_MRm_twoOf_126 rfl
theorem r_MRm_twoOf_127 {x : Int32} : Rr X d MRm_twoOf 127 L [.int x] h = some (some (.int x), h) := R_ir d_MRm_twoOf_127 rfl
theorem r_MRm_twoOf_128 {l0 l2 : Value} {x : Int32} : Rr X d MRm_twoOf 128 [l0, .int x, l2] st h = Rr X d MRm_twoOf 129 [l0, .int x, l2] (.int x :: st) h := Rr_nx d_MRm_twoOf_128 rfl
theorem r_MRm_twoOf_129 {l0 l1 : Value} {x : Int32} : Rr X d MRm_twoOf 129 [l0, l1, .int x] st h = Rr X d MRm_twoOf 130 [l0, l1, .int x] (.int x :: st) h := Rr_nx d_MRm_twoOf_129 rfl
theorem r_MRm_twoOf_130 {x y : Int32} : Rr X d MRm_twoOf 130 L (.int y :: .int x :: st) h = Rr X d MRm_twoOf 131 L (.int (x * y) :: st) h := Rr_nx d_MRm_twoOf_130 rfl
theorem r_MRm_twoOf_131 {x : Int32} : Rr X d MRm_twoOf 131 L [.int x] h = some (some (.int x), h) := R_ir d_MRm_twoOf_131 rfl
theorem r_MRm_twoOf_132 {l0 l1 : Value} {x : Int32} : Rr X d MRm_twoOf 132 [l0, l1, .int x] st h = Rr X d MRm_twoOf 133 [l0, l1, .int x] (.int x :: st) h := Rr_nx d_MRm_twoOf_132 rfl
theorem r_MRm_twoOf_133 {x : Int32} : Rr X d MRm_twoOf 133 L (.int x :: st) h = if ¬ x = 0 then Rr X d MRm_twoOf 140 L st h else Rr X d MRm_twoOf 136 L st h := R_if_ne d_MRm_twoOf_133 (by decide)
theorem r_MRm_twoOf_136 : Rr X d MRm_twoOf 136 L st h = Rr X d MRm_twoOf 137 L (.int (0) :: st) h := Rr_nx d_MRm_twoOf_136 rfl
theorem r_MRm_twoOf_137 : Rr X d MRm_twoOf 137 L st h = Rr X d MRm_twoOf 153 L st h := R_goto d_MRm_twoOf_137 (by decide)
theorem r_MRm_twoOf_140 {l0 l1 : Value} {x : Int32} : Rr X d MRm_twoOf 140 [l0, l1, .int x] st h = Rr X d MRm_twoOf 141 [l0, l1, .int x] (.int x :: st) h := Rr_nx d_MRm_twoOf_140 rfl
theorem r_MRm_twoOf_141 : Rr X d MRm_twoOf 141 L st h = Rr X d MRm_twoOf 142 L (.int (-1) :: st) h := Rr_nx d_MRm_twoOf_141 rfl
theorem r_MRm_twoOf_142 {x y : Int32} : Rr X d MRm_twoOf 142 L (.int y :: .int x :: st) h = if ¬ x = y then Rr X d MRm_twoOf 150 L st h else Rr X d MRm_twoOf 145 L st h := R_ic_ne d_MRm_twoOf_142 (by decide)
theorem r_MRm_twoOf_145 {l0 l2 : Value} {x : Int32} : Rr X d MRm_twoOf 145 [l0, .int x, l2] st h = Rr X d MRm_twoOf 146 [l0, .int x, l2] (.int x :: st) h := Rr_nx d_MRm_twoOf_145 rfl
theorem r_MRm_twoOf_146 {x : Int32} : Rr X d MRm_twoOf 146 L (.int x :: st) h = Rr X d MRm_twoOf 147 L (.int (-x) :: st) h := Rr_nx d_MRm_twoOf_146 rfl
theorem r_MRm_twoOf_147 : Rr X d MRm_twoOf 147 L st h = Rr X d MRm_twoOf 153 L st h := R_goto d_MRm_twoOf_147 (by decide)
theorem r_MRm_twoOf_150 {l0 l2 : Value} {x : Int32} : Rr X d MRm_twoOf 150 [l0, .int x, l2] st h = Rr X d MRm_twoOf 151 [l0, .int x, l2] (.int x :: st) h := Rr_nx d_MRm_twoOf_150 rfl
theorem r_MRm_twoOf_151 {l0 l1 : Value} {x : Int32} : Rr X d MRm_twoOf 151 [l0, l1, .int x] st h = Rr X d MRm_twoOf 152 [l0, l1, .int x] (.int x :: st) h := Rr_nx d_MRm_twoOf_151 rfl
theorem r_MRm_twoOf_152 {x y : Int32} : Rr X d MRm_twoOf 152 L (.int y :: .int x :: st) h = if y = 0 then none else Rr X d MRm_twoOf 153 L (.int (x / y) :: st) h := R_dv d_MRm_twoOf_152
theorem r_MRm_twoOf_153 {x : Int32} : Rr X d MRm_twoOf 153 L [.int x] h = some (some (.int x), h) := R_ir d_MRm_twoOf_153 rfl
theorem r_MRm_twoOf_154 {l0 l1 : Value} {x : Int32} : Rr X d MRm_twoOf 154 [l0, l1, .int x] st h = Rr X d MRm_twoOf 155 [l0, l1, .int x] (.int x :: st) h := Rr_nx d_MRm_twoOf_154 rfl
theorem r_MRm_twoOf_155 {x : Int32} : Rr X d MRm_twoOf 155 L (.int x :: st) h = if x = 0 then Rr X d MRm_twoOf 163 L st h else Rr X d MRm_twoOf 158 L st h := R_if_eq d_MRm_twoOf_155 (by decide)
theorem r_MRm_twoOf_158 {l0 l1 : Value} {x : Int32} : Rr X d MRm_twoOf 158 [l0, l1, .int x] st h = Rr X d MRm_twoOf 159 [l0, l1, .int x] (.int x :: st) h := Rr_nx d_MRm_twoOf_158 rfl
theorem r_MRm_twoOf_159 : Rr X d MRm_twoOf 159 L st h = Rr X d MRm_twoOf 160 L (.int (-1) :: st) h := Rr_nx d_MRm_twoOf_159 rfl
theorem r_MRm_twoOf_160 {x y : Int32} : Rr X d MRm_twoOf 160 L (.int y :: .int x :: st) h = if ¬ x = y then Rr X d MRm_twoOf 167 L st h else Rr X d MRm_twoOf 163 L st h := R_ic_ne d_MRm_twoOf_160 (by decide)
theorem r_MRm_twoOf_163 : Rr X d MRm_twoOf 163 L st h = Rr X d MRm_twoOf 164 L (.int (0) :: st) h := Rr_nx d_MRm_twoOf_163 rfl
theorem r_MRm_twoOf_164 : Rr X d MRm_twoOf 164 L st h = Rr X d MRm_twoOf 170 L st h := R_goto d_MRm_twoOf_164 (by decide)
theorem r_MRm_twoOf_167 {l0 l2 : Value} {x : Int32} : Rr X d MRm_twoOf 167 [l0, .int x, l2] st h = Rr X d MRm_twoOf 168 [l0, .int x, l2] (.int x :: st) h := Rr_nx d_MRm_twoOf_167 rfl
theorem r_MRm_twoOf_168 {l0 l1 : Value} {x : Int32} : Rr X d MRm_twoOf 168 [l0, l1, .int x] st h = Rr X d MRm_twoOf 169 [l0, l1, .int x] (.int x :: st) h := Rr_nx d_MRm_twoOf_168 rfl
theorem r_MRm_twoOf_169 {x y : Int32} : Rr X d MRm_twoOf 169 L (.int y :: .int x :: st) h = if y = 0 then none else Rr X d MRm_twoOf 170 L (.int (x - x / y * y) :: st) h := R_rm d_MRm_twoOf_169
theorem r_MRm_twoOf_170 {x : Int32} : Rr X d MRm_twoOf 170 L [.int x] h = some (some (.int x), h) := R_ir d_MRm_twoOf_170 rfl
theorem r_MRm_twoOf_171 {l0 l2 : Value} {x : Int32} : Rr X d MRm_twoOf 171 [l0, .int x, l2] st h = Rr X d MRm_twoOf 172 [l0, .int x, l2] (.int x :: st) h := Rr_nx d_MRm_twoOf_171 rfl
theorem r_MRm_twoOf_172 {l0 l1 : Value} {x : Int32} : Rr X d MRm_twoOf 172 [l0, l1, .int x] st h = Rr X d MRm_twoOf 173 [l0, l1, .int x] (.int x :: st) h := Rr_nx d_MRm_twoOf_172 rfl
theorem r_MRm_twoOf_173 {x y : Int32} : Rr X d MRm_twoOf 173 L (.int y :: .int x :: st) h = if y ≤ x then Rr X d MRm_twoOf 180 L st h else Rr X d MRm_twoOf 176 L st h := R_ic_ge d_MRm_twoOf_173 (by decide)
theorem r_MRm_twoOf_176 : Rr X d MRm_twoOf 176 L st h = Rr X d MRm_twoOf 177 L (.int (1) :: st) h := Rr_nx d_MRm_twoOf_176 rfl
theorem r_MRm_twoOf_177 : Rr X d MRm_twoOf 177 L st h = Rr X d MRm_twoOf 181 L st h := R_goto d_MRm_twoOf_177 (by decide)
theorem r_MRm_twoOf_180 : Rr X d MRm_twoOf 180 L st h = Rr X d MRm_twoOf 181 L (.int (0) :: st) h := Rr_nx d_MRm_twoOf_180 rfl
theorem r_MRm_twoOf_181 {x : Int32} : Rr X d MRm_twoOf 181 L [.int x] h = some (some (.int x), h) := R_ir d_MRm_twoOf_181 rfl
theorem r_MRm_twoOf_182 {l0 l2 : Value} {x : Int32} : Rr X d MRm_twoOf 182 [l0, .int x, l2] st h = Rr X d MRm_twoOf 183 [l0, .int x, l2] (.int x :: st) h := Rr_nx d_MRm_twoOf_182 rfl
theorem r_MRm_twoOf_183 {l0 l1 : Value} {x : Int32} : Rr X d MRm_twoOf 183 [l0, l1, .int x] st h = Rr X d MRm_twoOf 184 [l0, l1, .int x] (.int x :: st) h := Rr_nx d_MRm_twoOf_183 rfl
theorem r_MRm_twoOf_184 {x y : Int32} : Rr X d MRm_twoOf 184 L (.int y :: .int x :: st) h = if ¬ x = y then Rr X d MRm_twoOf 191 L st h else Rr X d MRm_twoOf 187 L st h := R_ic_ne d_MRm_twoOf_184 (by decide)
theorem r_MRm_twoOf_187 : Rr X d MRm_twoOf 187 L st h = Rr X d MRm_twoOf 188 L (.int (1) :: st) h := Rr_nx d_MRm_twoOf_187 rfl
theorem r_MRm_twoOf_188 : Rr X d MRm_twoOf 188 L st h = Rr X d MRm_twoOf 192 L st h := R_goto d_MRm_twoOf_188 (by decide)
theorem r_MRm_twoOf_191 : Rr X d MRm_twoOf 191 L st h = Rr X d MRm_twoOf 192 L (.int (0) :: st) h := Rr_nx d_MRm_twoOf_191 rfl
theorem r_MRm_twoOf_192 {x : Int32} : Rr X d MRm_twoOf 192 L [.int x] h = some (some (.int x), h) := R_ir d_MRm_twoOf_192 rfl
theorem r_MRm_twoOf_193 {l0 l2 : Value} {x : Int32} : Rr X d MRm_twoOf 193 [l0, .int x, l2] st h = Rr X d MRm_twoOf 194 [l0, .int x, l2] (.int x :: st) h := Rr_nx d_MRm_twoOf_193 rfl
theorem r_MRm_twoOf_194 {l0 l1 : Value} {x : Int32} : Rr X d MRm_twoOf 194 [l0, l1, .int x] st h = Rr X d MRm_twoOf 195 [l0, l1, .int x] (.int x :: st) h := Rr_nx d_MRm_twoOf_194 rfl
theorem r_MRm_twoOf_195 {x y : Int32} : Rr X d MRm_twoOf 195 L (.int y :: .int x :: st) h = if x ≤ y then Rr X d MRm_twoOf 202 L st h else Rr X d MRm_twoOf 198 L st h := R_ic_le d_MRm_twoOf_195 (by decide)
theorem r_MRm_twoOf_198 : Rr X d MRm_twoOf 198 L st h = Rr X d MRm_twoOf 199 L (.int (1) :: st) h := Rr_nx d_MRm_twoOf_198 rfl
theorem r_MRm_twoOf_199 : Rr X d MRm_twoOf 199 L st h = Rr X d MRm_twoOf 203 L st h := R_goto d_MRm_twoOf_199 (by decide)
theorem r_MRm_twoOf_202 : Rr X d MRm_twoOf 202 L st h = Rr X d MRm_twoOf 203 L (.int (0) :: st) h := Rr_nx d_MRm_twoOf_202 rfl
theorem r_MRm_twoOf_203 {x : Int32} : Rr X d MRm_twoOf 203 L [.int x] h = some (some (.int x), h) := R_ir d_MRm_twoOf_203 rfl
theorem r_MRm_twoOf_204 {l0 l2 : Value} {x : Int32} : Rr X d MRm_twoOf 204 [l0, .int x, l2] st h = Rr X d MRm_twoOf 205 [l0, .int x, l2] (.int x :: st) h := Rr_nx d_MRm_twoOf_204 rfl
theorem r_MRm_twoOf_205 {x : Int32} : Rr X d MRm_twoOf 205 L (.int x :: st) h = if x = 0 then Rr X d MRm_twoOf 216 L st h else Rr X d MRm_twoOf 208 L st h := R_if_eq d_MRm_twoOf_205 (by decide)
theorem r_MRm_twoOf_208 {l0 l1 : Value} {x : Int32} : Rr X d MRm_twoOf 208 [l0, l1, .int x] st h = Rr X d MRm_twoOf 209 [l0, l1, .int x] (.int x :: st) h := Rr_nx d_MRm_twoOf_208 rfl
theorem r_MRm_twoOf_209 {x : Int32} : Rr X d MRm_twoOf 209 L (.int x :: st) h = if x = 0 then Rr X d MRm_twoOf 216 L st h else Rr X d MRm_twoOf 212 L st h := R_if_eq d_MRm_twoOf_209 (by decide)
theorem r_MRm_twoOf_212 : Rr X d MRm_twoOf 212 L st h = Rr X d MRm_twoOf 213 L (.int (1) :: st) h := Rr_nx d_MRm_twoOf_212 rfl
theorem r_MRm_twoOf_213 : Rr X d MRm_twoOf 213 L st h = Rr X d MRm_twoOf 217 L st h := R_goto d_MRm_twoOf_213 (by decide)
theorem r_MRm_twoOf_216 : Rr X d MRm_twoOf 216 L st h = Rr X d MRm_twoOf 217 L (.int (0) :: st) h := Rr_nx d_MRm_twoOf_216 rfl
theorem r_MRm_twoOf_217 {x : Int32} : Rr X d MRm_twoOf 217 L [.int x] h = some (some (.int x), h) := R_ir d_MRm_twoOf_217 rfl
theorem r_MRm_twoOf_218 {l0 l2 : Value} {x : Int32} : Rr X d MRm_twoOf 218 [l0, .int x, l2] st h = Rr X d MRm_twoOf 219 [l0, .int x, l2] (.int x :: st) h := Rr_nx d_MRm_twoOf_218 rfl
theorem r_MRm_twoOf_219 {x : Int32} : Rr X d MRm_twoOf 219 L (.int x :: st) h = if ¬ x = 0 then Rr X d MRm_twoOf 226 L st h else Rr X d MRm_twoOf 222 L st h := R_if_ne d_MRm_twoOf_219 (by decide)
theorem r_MRm_twoOf_222 {l0 l1 : Value} {x : Int32} : Rr X d MRm_twoOf 222 [l0, l1, .int x] st h = Rr X d MRm_twoOf 223 [l0, l1, .int x] (.int x :: st) h := Rr_nx d_MRm_twoOf_222 rfl
theorem r_MRm_twoOf_223 {x : Int32} : Rr X d MRm_twoOf 223 L (.int x :: st) h = if x = 0 then Rr X d MRm_twoOf 230 L st h else Rr X d MRm_twoOf 226 L st h := R_if_eq d_MRm_twoOf_223 (by decide)
theorem r_MRm_twoOf_226 : Rr X d MRm_twoOf 226 L st h = Rr X d MRm_twoOf 227 L (.int (1) :: st) h := Rr_nx d_MRm_twoOf_226 rfl
theorem r_MRm_twoOf_227 : Rr X d MRm_twoOf 227 L st h = Rr X d MRm_twoOf 231 L st h := R_goto d_MRm_twoOf_227 (by decide)
theorem r_MRm_twoOf_230 : Rr X d MRm_twoOf 230 L st h = Rr X d MRm_twoOf 231 L (.int (0) :: st) h := Rr_nx d_MRm_twoOf_230 rfl
theorem r_MRm_twoOf_231 {x : Int32} : Rr X d MRm_twoOf 231 L [.int x] h = some (some (.int x), h) := R_ir d_MRm_twoOf_231 rfl
end RULES
