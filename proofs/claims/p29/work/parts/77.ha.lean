section RULES
variable {X : Tok} {d : Nat} {st L : List Value} {h : Hp} {mu : Nat → Nat → Int32} {la : Nat → Nat → Int64} {ro : Nat → Nat → Option Nat} {et : Nat → Option va_E}
theorem d_MSt_readFrom_0 : decode MSt_readFrom.2.2.1 0 = .ok (.aload_n 0, 1) := lkT_ok tk_MSt_readFrom rfl
theorem d_MSt_readFrom_1 : decode MSt_readFrom.2.2.1 1 = .ok (.iconst 0, 1) := lkT_ok tk_MSt_readFrom rfl
theorem d_MSt_readFrom_2 : decode MSt_readFrom.2.2.1 2 = .ok (.putfield 24, 3) := lkT_ok tk_MSt_readFrom rfl
theorem d_MSt_readFrom_5 : decode MSt_readFrom.2.2.1 5 = .ok (.iconst 1, 1) := lkT_ok tk_MSt_readFrom rfl
theorem d_MSt_readFrom_6 : decode MSt_readFrom.2.2.1 6 = .ok (.istore_n 2, 1) := lkT_ok tk_MSt_readFrom rfl
theorem d_MSt_readFrom_7 : decode MSt_readFrom.2.2.1 7 = .ok (.iconst 0, 1) := lkT_ok tk_MSt_readFrom rfl
theorem d_MSt_readFrom_8 : decode MSt_readFrom.2.2.1 8 = .ok (.istore_n 3, 1) := lkT_ok tk_MSt_readFrom rfl
theorem d_MSt_readFrom_9 : decode MSt_readFrom.2.2.1 9 = .ok (.iload_n 3, 1) := lkT_ok tk_MSt_readFrom rfl
theorem d_MSt_readFrom_10 : decode MSt_readFrom.2.2.1 10 = .ok (.bipush 12, 2) := lkT_ok tk_MSt_readFrom rfl
theorem d_MSt_readFrom_12 : decode MSt_readFrom.2.2.1 12 = .ok (.if_icmp .ge 55, 3) := lkT_ok tk_MSt_readFrom rfl
theorem d_MSt_readFrom_15 : decode MSt_readFrom.2.2.1 15 = .ok (.iload_n 2, 1) := lkT_ok tk_MSt_readFrom rfl
theorem d_MSt_readFrom_16 : decode MSt_readFrom.2.2.1 16 = .ok (.ifCond .eq 51, 3) := lkT_ok tk_MSt_readFrom rfl
theorem d_MSt_readFrom_19 : decode MSt_readFrom.2.2.1 19 = .ok (.aload_n 0, 1) := lkT_ok tk_MSt_readFrom rfl
theorem d_MSt_readFrom_20 : decode MSt_readFrom.2.2.1 20 = .ok (.aload_n 1, 1) := lkT_ok tk_MSt_readFrom rfl
theorem d_MSt_readFrom_21 : decode MSt_readFrom.2.2.1 21 = .ok (.iload_n 3, 1) := lkT_ok tk_MSt_readFrom rfl
theorem d_MSt_readFrom_22 : decode MSt_readFrom.2.2.1 22 = .ok (.invokevirtual 28, 3) := lkT_ok tk_MSt_readFrom rfl
theorem d_MSt_readFrom_25 : decode MSt_readFrom.2.2.1 25 = .ok (.ifCond .ne 5, 3) := lkT_ok tk_MSt_readFrom rfl
theorem d_MSt_readFrom_28 : decode MSt_readFrom.2.2.1 28 = .ok (.iconst 0, 1) := lkT_ok tk_MSt_readFrom rfl
theorem d_MSt_readFrom_29 : decode MSt_readFrom.2.2.1 29 = .ok (.ireturn, 1) := lkT_ok tk_MSt_readFrom rfl
theorem d_MSt_readFrom_30 : decode MSt_readFrom.2.2.1 30 = .ok (.aload_n 0, 1) := lkT_ok tk_MSt_readFrom rfl
theorem d_MSt_readFrom_31 : decode MSt_readFrom.2.2.1 31 = .ok (.iload_n 3, 1) := lkT_ok tk_MSt_readFrom rfl
theorem d_MSt_readFrom_32 : decode MSt_readFrom.2.2.1 32 = .ok (.iconst 1, 1) := lkT_ok tk_MSt_readFrom rfl
theorem d_MSt_readFrom_33 : decode MSt_readFrom.2.2.1 33 = .ok (.iadd, 1) := lkT_ok tk_MSt_readFrom rfl
theorem d_MSt_readFrom_34 : decode MSt_readFrom.2.2.1 34 = .ok (.putfield 24, 3) := lkT_ok tk_MSt_readFrom rfl
theorem d_MSt_readFrom_37 : decode MSt_readFrom.2.2.1 37 = .ok (.aload_n 0, 1) := lkT_ok tk_MSt_readFrom rfl
theorem d_MSt_readFrom_38 : decode MSt_readFrom.2.2.1 38 = .ok (.getfield 24, 3) := lkT_ok tk_MSt_readFrom rfl
theorem d_MSt_readFrom_41 : decode MSt_readFrom.2.2.1 41 = .ok (.bipush 12, 2) := lkT_ok tk_MSt_readFrom rfl
theorem d_MSt_readFrom_43 : decode MSt_readFrom.2.2.1 43 = .ok (.if_icmp .ge 16, 3) := lkT_ok tk_MSt_readFrom rfl
theorem d_MSt_readFrom_46 : decode MSt_readFrom.2.2.1 46 = .ok (.aload_n 1, 1) := lkT_ok tk_MSt_readFrom rfl
theorem d_MSt_readFrom_47 : decode MSt_readFrom.2.2.1 47 = .ok (.bipush 59, 2) := lkT_ok tk_MSt_readFrom rfl
theorem d_MSt_readFrom_49 : decode MSt_readFrom.2.2.1 49 = .ok (.invokevirtual 32, 3) := lkT_ok tk_MSt_readFrom rfl
theorem d_MSt_readFrom_52 : decode MSt_readFrom.2.2.1 52 = .ok (.ifCond .eq 7, 3) := lkT_ok tk_MSt_readFrom rfl
theorem d_MSt_readFrom_55 : decode MSt_readFrom.2.2.1 55 = .ok (.iconst 1, 1) := lkT_ok tk_MSt_readFrom rfl
theorem d_MSt_readFrom_56 : decode MSt_readFrom.2.2.1 56 = .ok (.goto 4, 3) := lkT_ok tk_MSt_readFrom rfl
theorem d_MSt_readFrom_59 : decode MSt_readFrom.2.2.1 59 = .ok (.iconst 0, 1) := lkT_ok tk_MSt_readFrom rfl
theorem d_MSt_readFrom_60 : decode MSt_readFrom.2.2.1 60 = .ok (.istore_n 2, 1) := lkT_ok tk_MSt_readFrom rfl
theorem d_MSt_readFrom_61 : decode MSt_readFrom.2.2.1 61 = .ok (.iinc 3 1, 3) := lkT_ok tk_MSt_readFrom rfl
theorem d_MSt_readFrom_64 : decode MSt_readFrom.2.2.1 64 = .ok (.goto (-55), 3) := lkT_ok tk_MSt_readFrom rfl
theorem d_MSt_readFrom_67 : decode MSt_readFrom.2.2.1 67 = .ok (.bipush 47, 2) := lkT_ok tk_MSt_readFrom rfl
theorem d_MSt_readFrom_69 : decode MSt_readFrom.2.2.1 69 = .ok (.istore_n 3, 1) := lkT_ok tk_MSt_readFrom rfl
theorem d_MSt_readFrom_70 : decode MSt_readFrom.2.2.1 70 = .ok (.iconst 0, 1) := lkT_ok tk_MSt_readFrom rfl
theorem d_MSt_readFrom_71 : decode MSt_readFrom.2.2.1 71 = .ok (.istore 4, 2) := lkT_ok tk_MSt_readFrom rfl
theorem d_MSt_readFrom_73 : decode MSt_readFrom.2.2.1 73 = .ok (.iload 4, 2) := lkT_ok tk_MSt_readFrom rfl
theorem d_MSt_readFrom_75 : decode MSt_readFrom.2.2.1 75 = .ok (.aload_n 0, 1) := lkT_ok tk_MSt_readFrom rfl
theorem d_MSt_readFrom_76 : decode MSt_readFrom.2.2.1 76 = .ok (.getfield 21, 3) := lkT_ok tk_MSt_readFrom rfl
theorem d_MSt_readFrom_79 : decode MSt_readFrom.2.2.1 79 = .ok (.arraylength, 1) := lkT_ok tk_MSt_readFrom rfl
theorem d_MSt_readFrom_80 : decode MSt_readFrom.2.2.1 80 = .ok (.if_icmp .ge 32, 3) := lkT_ok tk_MSt_readFrom rfl
theorem d_MSt_readFrom_83 : decode MSt_readFrom.2.2.1 83 = .ok (.aload_n 1, 1) := lkT_ok tk_MSt_readFrom rfl
theorem d_MSt_readFrom_84 : decode MSt_readFrom.2.2.1 84 = .ok (.iload_n 3, 1) := lkT_ok tk_MSt_readFrom rfl
theorem d_MSt_readFrom_85 : decode MSt_readFrom.2.2.1 85 = .ok (.invokevirtual 32, 3) := lkT_ok tk_MSt_readFrom rfl
theorem d_MSt_readFrom_88 : decode MSt_readFrom.2.2.1 88 = .ok (.ifCond .eq 13, 3) := lkT_ok tk_MSt_readFrom rfl
theorem d_MSt_readFrom_91 : decode MSt_readFrom.2.2.1 91 = .ok (.aload_n 0, 1) := lkT_ok tk_MSt_readFrom rfl
theorem d_MSt_readFrom_92 : decode MSt_readFrom.2.2.1 92 = .ok (.aload_n 1, 1) := lkT_ok tk_MSt_readFrom rfl
theorem d_MSt_readFrom_93 : decode MSt_readFrom.2.2.1 93 = .ok (.iload 4, 2) := lkT_ok tk_MSt_readFrom rfl
theorem d_MSt_readFrom_95 : decode MSt_readFrom.2.2.1 95 = .ok (.invokevirtual 38, 3) := lkT_ok tk_MSt_readFrom rfl
theorem d_MSt_readFrom_98 : decode MSt_readFrom.2.2.1 98 = .ok (.ifCond .ne 5, 3) := lkT_ok tk_MSt_readFrom rfl
theorem d_MSt_readFrom_101 : decode MSt_readFrom.2.2.1 101 = .ok (.iconst 0, 1) := lkT_ok tk_MSt_readFrom rfl
theorem d_MSt_readFrom_102 : decode MSt_readFrom.2.2.1 102 = .ok (.ireturn, 1) := lkT_ok tk_MSt_readFrom rfl
theorem d_MSt_readFrom_103 : decode MSt_readFrom.2.2.1 103 = .ok (.bipush 44, 2) := lkT_ok tk_MSt_readFrom rfl
theorem d_MSt_readFrom_105 : decode MSt_readFrom.2.2.1 105 = .ok (.istore_n 3, 1) := lkT_ok tk_MSt_readFrom rfl
theorem d_MSt_readFrom_106 : decode MSt_readFrom.2.2.1 106 = .ok (.iinc 4 1, 3) := lkT_ok tk_MSt_readFrom rfl
theorem d_MSt_readFrom_109 : decode MSt_readFrom.2.2.1 109 = .ok (.goto (-36), 3) := lkT_ok tk_MSt_readFrom rfl
theorem d_MSt_readFrom_112 : decode MSt_readFrom.2.2.1 112 = .ok (.aload_n 0, 1) := lkT_ok tk_MSt_readFrom rfl
theorem d_MSt_readFrom_113 : decode MSt_readFrom.2.2.1 113 = .ok (.invokevirtual 41, 3) := lkT_ok tk_MSt_readFrom rfl
theorem d_MSt_readFrom_116 : decode MSt_readFrom.2.2.1 116 = .ok (.aload_n 1, 1) := lkT_ok tk_MSt_readFrom rfl
theorem d_MSt_readFrom_117 : decode MSt_readFrom.2.2.1 117 = .ok (.invokevirtual 44, 3) := lkT_ok tk_MSt_readFrom rfl
theorem d_MSt_readFrom_120 : decode MSt_readFrom.2.2.1 120 = .ok (.ireturn, 1) := lkT_ok tk_MSt_readFrom rfl
theorem r_MSt_readFrom_0 {l1 l2 l3 l4 : Value} {x : Nat} : Rr X d MSt_readFrom 0 [.ref x, l1, l2, l3, l4] st h = Rr X d MSt_readFrom 1 [.ref x, l1, l2, l3, l4] (.ref x :: st) h := Rr_nx d_MSt_readFrom_0 rfl
theorem r_MSt_readFrom_1 : Rr X d MSt_readFrom 1 L st h = Rr X d MSt_readFrom 2 L (.int (0) :: st) h := Rr_nx d_MSt_readFrom_1 rfl
theorem ff_7_24 : fF 7 24 = some (7, 4, 0, 0) := rfl
theorem r_MSt_readFrom_2 {a : Nat} {x : Int32} (hq : qI a 7 4 = true) : Rr X d MSt_readFrom 2 L (.int x :: .ref a :: st) (Wd mu la ro et) = Rr X d MSt_readFrom 5 L st (Wd (up2 mu a 4 x) la ro et) := R_pfI d_MSt_readFrom_2 ff_7_24 hq
theorem r_MSt_readFrom_5 : Rr X d MSt_readFrom 5 L st h = Rr X d MSt_readFrom 6 L (.int (1) :: st) h := Rr_nx d_MSt_readFrom_5 rfl
theorem r_MSt_readFrom_6 {l0 l1 l2 l3 l4 : Value} {x : Int32} : Rr X d MSt_readFrom 6 [l0, l1, l2, l3, l4] (.int x :: st) h = Rr X d MSt_readFrom 7 (sL [l0, l1, l2, l3, l4] 2 (.int x)) st h := Rr_nx d_MSt_readFrom_6 rfl
theorem r_MSt_readFrom_7 : Rr X d MSt_readFrom 7 L st h = Rr X d MSt_readFrom 8 L (.int (0) :: st) h := Rr_nx d_MSt_readFrom_7 rfl
theorem r_MSt_readFrom_8 {l0 l1 l2 l3 l4 : Value} {x : Int32} : Rr X d MSt_readFrom 8 [l0, l1, l2, l3, l4] (.int x :: st) h = Rr X d MSt_readFrom 9 (sL [l0, l1, l2, l3, l4] 3 (.int x)) st h := Rr_nx d_MSt_readFrom_8 rfl
theorem r_MSt_readFrom_9 {l0 l1 l2 l4 : Value} {x : Int32} : Rr X d MSt_readFrom 9 [l0, l1, l2, .int x, l4] st h = Rr X d MSt_readFrom 10 [l0, l1, l2, .int x, l4] (.int x :: st) h := Rr_nx d_MSt_readFrom_9 rfl
theorem r_MSt_readFrom_10 : Rr X d MSt_readFrom 10 L st h = Rr X d MSt_readFrom 12 L (.int (12) :: st) h := Rr_nx d_MSt_readFrom_10 rfl
theorem r_MSt_readFrom_12 {x y : Int32} : Rr X d MSt_readFrom 12 L (.int y :: .int x :: st) h = if y ≤ x then Rr X d MSt_readFrom 67 L st h else Rr X d MSt_readFrom 15 L st h := R_ic_ge d_MSt_readFrom_12 (by decide)
theorem r_MSt_readFrom_15 {l0 l1 l3 l4 : Value} {x : Int32} : Rr X d MSt_readFrom 15 [l0, l1, .int x, l3, l4] st h = Rr X d MSt_readFrom 16 [l0, l1, .int x, l3, l4] (.int x :: st) h := Rr_nx d_MSt_readFrom_15 rfl
theorem r_MSt_readFrom_16 {x : Int32} : Rr X d MSt_readFrom 16 L (.int x :: st) h = if x = 0 then Rr X d MSt_readFrom 67 L st h else Rr X d MSt_readFrom 19 L st h := R_if_eq d_MSt_readFrom_16 (by decide)
theorem r_MSt_readFrom_19 {l1 l2 l3 l4 : Value} {x : Nat} : Rr X d MSt_readFrom 19 [.ref x, l1, l2, l3, l4] st h = Rr X d MSt_readFrom 20 [.ref x, l1, l2, l3, l4] (.ref x :: st) h := Rr_nx d_MSt_readFrom_19 rfl
theorem r_MSt_readFrom_20 {l0 l2 l3 l4 : Value} {x : Nat} : Rr X d MSt_readFrom 20 [l0, .ref x, l2, l3, l4] st h = Rr X d MSt_readFrom 21 [l0, .ref x, l2, l3, l4] (.ref x :: st) h := Rr_nx d_MSt_readFrom_20 rfl
theorem r_MSt_readFrom_20n {l0 l2 l3 l4 : Value} : Rr X d MSt_readFrom 20 [l0, .null, l2, l3, l4] st h = Rr X d MSt_readFrom 21 [l0, .null, l2, l3, l4] (.null :: st) h := Rr_nx d_MSt_readFrom_20 rfl
theorem r_MSt_readFrom_21 {l0 l1 l2 l4 : Value} {x : Int32} : Rr X d MSt_readFrom 21 [l0, l1, l2, .int x, l4] st h = Rr X d MSt_readFrom 22 [l0, l1, l2, .int x, l4] (.int x :: st) h := Rr_nx d_MSt_readFrom_21 rfl
theorem fc_7_28 : fC 7 28 = some (0, 7, 2, MSt_readLump) := rfl
theorem r_MSt_readFrom_22 {y0 : Nat} {y1 : Int32} {a : Nat} (hO : qO a 7 = true) (hc : ckS st = true) : Rr X (d + 1) MSt_readFrom 22 L (.int y1 :: .ref y0 :: .ref a :: st) (Wd mu la ro et) = (Rr X d MSt_readLump 0 [.ref a, .ref y0, .int y1, mkU] [] (Wd mu la ro et)).bind fun q => Rr X (d + 1) MSt_readFrom 25 L (psh q.1 st) q.2 := R_iv (av := [.int y1, .ref y0]) d_MSt_readFrom_22 fc_7_28 hO (ckS_le hc) rfl (Nat.le_of_ble_eq_true rfl) (Nat.le_of_ble_eq_true rfl)
theorem r_MSt_readFrom_25 {x : Int32} : Rr X d MSt_readFrom 25 L (.int x :: st) h = if ¬ x = 0 then Rr X d MSt_readFrom 30 L st h else Rr X d MSt_readFrom 28 L st h := R_if_ne d_MSt_readFrom_25 (by decide)
theorem r_MSt_readFrom_28 : Rr X d MSt_readFrom 28 L st h = Rr X d MSt_readFrom 29 L (.int (0) :: st) h := Rr_nx d_MSt_readFrom_28 rfl
theorem r_MSt_readFrom_29 {x : Int32} : Rr X d MSt_readFrom 29 L [.int x] h = if x = 0 ∨ x = 1 then some (some (.int x), h) else none := R_zr d_MSt_readFrom_29 rfl
theorem r_MSt_readFrom_30 {l1 l2 l3 l4 : Value} {x : Nat} : Rr X d MSt_readFrom 30 [.ref x, l1, l2, l3, l4] st h = Rr X d MSt_readFrom 31 [.ref x, l1, l2, l3, l4] (.ref x :: st) h := Rr_nx d_MSt_readFrom_30 rfl
theorem r_MSt_readFrom_31 {l0 l1 l2 l4 : Value} {x : Int32} : Rr X d MSt_readFrom 31 [l0, l1, l2, .int x, l4] st h = Rr X d MSt_readFrom 32 [l0, l1, l2, .int x, l4] (.int x :: st) h := Rr_nx d_MSt_readFrom_31 rfl
theorem r_MSt_readFrom_32 : Rr X d MSt_readFrom 32 L st h = Rr X d MSt_readFrom 33 L (.int (1) :: st) h := Rr_nx d_MSt_readFrom_32 rfl
theorem r_MSt_readFrom_33 {x y : Int32} : Rr X d MSt_readFrom 33 L (.int y :: .int x :: st) h = Rr X d MSt_readFrom 34 L (.int (x + y) :: st) h := Rr_nx d_MSt_readFrom_33 rfl
theorem r_MSt_readFrom_34 {a : Nat} {x : Int32} (hq : qI a 7 4 = true) : Rr X d MSt_readFrom 34 L (.int x :: .ref a :: st) (Wd mu la ro et) = Rr X d MSt_readFrom 37 L st (Wd (up2 mu a 4 x) la ro et) := R_pfI d_MSt_readFrom_34 ff_7_24 hq
theorem r_MSt_readFrom_37 {l1 l2 l3 l4 : Value} {x : Nat} : Rr X d MSt_readFrom 37 [.ref x, l1, l2, l3, l4] st h = Rr X d MSt_readFrom 38 [.ref x, l1, l2, l3, l4] (.ref x :: st) h := Rr_nx d_MSt_readFrom_37 rfl
theorem r_MSt_readFrom_38 {a : Nat} (hq : qI a 7 4 = true) : Rr X d MSt_readFrom 38 L (.ref a :: st) (Wd mu la ro et) = Rr X d MSt_readFrom 41 L (.int (mu a 4) :: st) (Wd mu la ro et) := R_gfI d_MSt_readFrom_38 ff_7_24 hq
theorem r_MSt_readFrom_41 : Rr X d MSt_readFrom 41 L st h = Rr X d MSt_readFrom 43 L (.int (12) :: st) h := Rr_nx d_MSt_readFrom_41 rfl
theorem r_MSt_readFrom_43 {x y : Int32} : Rr X d MSt_readFrom 43 L (.int y :: .int x :: st) h = if y ≤ x then Rr X d MSt_readFrom 59 L st h else Rr X d MSt_readFrom 46 L st h := R_ic_ge d_MSt_readFrom_43 (by decide)
theorem r_MSt_readFrom_46 {l0 l2 l3 l4 : Value} {x : Nat} : Rr X d MSt_readFrom 46 [l0, .ref x, l2, l3, l4] st h = Rr X d MSt_readFrom 47 [l0, .ref x, l2, l3, l4] (.ref x :: st) h := Rr_nx d_MSt_readFrom_46 rfl
theorem r_MSt_readFrom_46n {l0 l2 l3 l4 : Value} : Rr X d MSt_readFrom 46 [l0, .null, l2, l3, l4] st h = Rr X d MSt_readFrom 47 [l0, .null, l2, l3, l4] (.null :: st) h := Rr_nx d_MSt_readFrom_46 rfl
theorem r_MSt_readFrom_47 : Rr X d MSt_readFrom 47 L st h = Rr X d MSt_readFrom 49 L (.int (59) :: st) h := Rr_nx d_MSt_readFrom_47 rfl
theorem fc_7_32 : fC 7 32 = some (0, 8, 1, MTa_skip) := rfl
theorem r_MSt_readFrom_49 {y0 : Int32} {a : Nat} (hO : qO a 8 = true) (hc : ckS st = true) : Rr X (d + 1) MSt_readFrom 49 L (.int y0 :: .ref a :: st) (Wd mu la ro et) = (Rr X d MTa_skip 0 [.ref a, .int y0] [] (Wd mu la ro et)).bind fun q => Rr X (d + 1) MSt_readFrom 52 L (psh q.1 st) q.2 := R_iv (av := [.int y0]) d_MSt_readFrom_49 fc_7_32 hO (ckS_le hc) rfl (Nat.le_of_ble_eq_true rfl) (Nat.le_of_ble_eq_true rfl)
theorem r_MSt_readFrom_52 {x : Int32} : Rr X d MSt_readFrom 52 L (.int x :: st) h = if x = 0 then Rr X d MSt_readFrom 59 L st h else Rr X d MSt_readFrom 55 L st h := R_if_eq d_MSt_readFrom_52 (by decide)
theorem r_MSt_readFrom_55 : Rr X d MSt_readFrom 55 L st h = Rr X d MSt_readFrom 56 L (.int (1) :: st) h := Rr_nx d_MSt_readFrom_55 rfl
theorem r_MSt_readFrom_56 : Rr X d MSt_readFrom 56 L st h = Rr X d MSt_readFrom 60 L st h := R_goto d_MSt_readFrom_56 (by decide)
theorem r_MSt_readFrom_59 : Rr X d MSt_readFrom 59 L st h = Rr X d MSt_readFrom 60 L (.int (0) :: st) h := Rr_nx d_MSt_readFrom_59 rfl
theorem r_MSt_readFrom_60 {l0 l1 l2 l3 l4 : Value} {x : Int32} : Rr X d MSt_readFrom 60 [l0, l1, l2, l3, l4] (.int x :: st) h = Rr X d MSt_readFrom 61 (sL [l0, l1, l2, l3, l4] 2 (.int x)) st h := Rr_nx d_MSt_readFrom_60 rfl
theorem r_MSt_readFrom_61 {l0 l1 l2 l4 : Value} {x : Int32} : Rr X d MSt_readFrom 61 [l0, l1, l2, .int x, l4] st h = Rr X d MSt_readFrom 64 (sL [l0, l1, l2, .int x, l4] 3 (.int (x + (1)))) st h := Rr_nx d_MSt_readFrom_61 rfl
theorem r_MSt_readFrom_64 : Rr X d MSt_readFrom 64 L st h = Rr X d MSt_readFrom 9 L st h := R_goto d_MSt_readFrom_64 (by decide)
theorem r_MSt_readFrom_67 : Rr X d MSt_readFrom 67 L st h = Rr X d MSt_readFrom 69 L (.int (47) :: st) h := Rr_nx d_MSt_readFrom_67 rfl
theorem r_MSt_readFrom_69 {l0 l1 l2 l3 l4 : Value} {x : Int32} : Rr X d MSt_readFrom 69 [l0, l1, l2, l3, l4] (.int x :: st) h = Rr X d MSt_readFrom 70 (sL [l0, l1, l2, l3, l4] 3 (.int x)) st h := Rr_nx d_MSt_readFrom_69 rfl
theorem r_MSt_readFrom_70 : Rr X d MSt_readFrom 70 L st h = Rr X d MSt_readFrom 71 L (.int (0) :: st) h := Rr_nx d_MSt_readFrom_70 rfl
theorem r_MSt_readFrom_71 {l0 l1 l2 l3 l4 : Value} {x : Int32} : Rr X d MSt_readFrom 71 [l0, l1, l2, l3, l4] (.int x :: st) h = Rr X d MSt_readFrom 73 (sL [l0, l1, l2, l3, l4] 4 (.int x)) st h := Rr_nx d_MSt_readFrom_71 rfl
theorem r_MSt_readFrom_73 {l0 l1 l2 l3 : Value} {x : Int32} : Rr X d MSt_readFrom 73 [l0, l1, l2, l3, .int x] st h = Rr X d MSt_readFrom 75 [l0, l1, l2, l3, .int x] (.int x :: st) h := Rr_nx d_MSt_readFrom_73 rfl
theorem r_MSt_readFrom_75 {l1 l2 l3 l4 : Value} {x : Nat} : Rr X d MSt_readFrom 75 [.ref x, l1, l2, l3, l4] st h = Rr X d MSt_readFrom 76 [.ref x, l1, l2, l3, l4] (.ref x :: st) h := Rr_nx d_MSt_readFrom_75 rfl
theorem ff_7_21 : fF 7 21 = some (7, 3, 1, 1) := rfl
theorem r_MSt_readFrom_76 {a : Nat} (hq : (qR a 7 3).isSome = true) : Rr X d MSt_readFrom 76 L (.ref a :: st) (Wd mu la ro et) = Rr X d MSt_readFrom 79 L (.ref (qRd a 7 3) :: st) (Wd mu la ro et) := R_gfR d_MSt_readFrom_76 ff_7_21 hq
theorem r_MSt_readFrom_79 {a : Nat} (hq : (qL a).isSome = true) : Rr X d MSt_readFrom 79 L (.ref a :: st) (Wd mu la ro et) = Rr X d MSt_readFrom 80 L (.int (Int32.ofNat (qLd a)) :: st) (Wd mu la ro et) := R_lenW d_MSt_readFrom_79 hq
theorem r_MSt_readFrom_80 {x y : Int32} : Rr X d MSt_readFrom 80 L (.int y :: .int x :: st) h = if y ≤ x then Rr X d MSt_readFrom 112 L st h else Rr X d MSt_readFrom 83 L st h := R_ic_ge d_MSt_readFrom_80 (by decide)
theorem r_MSt_readFrom_83 {l0 l2 l3 l4 : Value} {x : Nat} : Rr X d MSt_readFrom 83 [l0, .ref x, l2, l3, l4] st h = Rr X d MSt_readFrom 84 [l0, .ref x, l2, l3, l4] (.ref x :: st) h := Rr_nx d_MSt_readFrom_83 rfl
theorem r_MSt_readFrom_83n {l0 l2 l3 l4 : Value} : Rr X d MSt_readFrom 83 [l0, .null, l2, l3, l4] st h = Rr X d MSt_readFrom 84 [l0, .null, l2, l3, l4] (.null :: st) h := Rr_nx d_MSt_readFrom_83 rfl
theorem r_MSt_readFrom_84 {l0 l1 l2 l4 : Value} {x : Int32} : Rr X d MSt_readFrom 84 [l0, l1, l2, .int x, l4] st h = Rr X d MSt_readFrom 85 [l0, l1, l2, .int x, l4] (.int x :: st) h := Rr_nx d_MSt_readFrom_84 rfl
theorem r_MSt_readFrom_85 {y0 : Int32} {a : Nat} (hO : qO a 8 = true) (hc : ckS st = true) : Rr X (d + 1) MSt_readFrom 85 L (.int y0 :: .ref a :: st) (Wd mu la ro et) = (Rr X d MTa_skip 0 [.ref a, .int y0] [] (Wd mu la ro et)).bind fun q => Rr X (d + 1) MSt_readFrom 88 L (psh q.1 st) q.2 := R_iv (av := [.int y0]) d_MSt_readFrom_85 fc_7_32 hO (ckS_le hc) rfl (Nat.le_of_ble_eq_true rfl) (Nat.le_of_ble_eq_true rfl)
theorem r_MSt_readFrom_88 {x : Int32} : Rr X d MSt_readFrom 88 L (.int x :: st) h = if x = 0 then Rr X d MSt_readFrom 101 L st h else Rr X d MSt_readFrom 91 L st h := R_if_eq d_MSt_readFrom_88 (by decide)
theorem r_MSt_readFrom_91 {l1 l2 l3 l4 : Value} {x : Nat} : Rr X d MSt_readFrom 91 [.ref x, l1, l2, l3, l4] st h = Rr X d MSt_readFrom 92 [.ref x, l1, l2, l3, l4] (.ref x :: st) h := Rr_nx d_MSt_readFrom_91 rfl
theorem r_MSt_readFrom_92 {l0 l2 l3 l4 : Value} {x : Nat} : Rr X d MSt_readFrom 92 [l0, .ref x, l2, l3, l4] st h = Rr X d MSt_readFrom 93 [l0, .ref x, l2, l3, l4] (.ref x :: st) h := Rr_nx d_MSt_readFrom_92 rfl
theorem r_MSt_readFrom_92n {l0 l2 l3 l4 : Value} : Rr X d MSt_readFrom 92 [l0, .null, l2, l3, l4] st h = Rr X d MSt_readFrom 93 [l0, .null, l2, l3, l4] (.null :: st) h := Rr_nx d_MSt_readFrom_92 rfl
theorem r_MSt_readFrom_93 {l0 l1 l2 l3 : Value} {x : Int32} : Rr X d MSt_readFrom 93 [l0, l1, l2, l3, .int x] st h = Rr X d MSt_readFrom 95 [l0, l1, l2, l3, .int x] (.int x :: st) h := Rr_nx d_MSt_readFrom_93 rfl
theorem fc_7_38 : fC 7 38 = some (0, 7, 2, MSt_readRate) := rfl
theorem r_MSt_readFrom_95 {y0 : Nat} {y1 : Int32} {a : Nat} (hO : qO a 7 = true) (hc : ckS st = true) : Rr X (d + 1) MSt_readFrom 95 L (.int y1 :: .ref y0 :: .ref a :: st) (Wd mu la ro et) = (Rr X d MSt_readRate 0 [.ref a, .ref y0, .int y1, mkU, mkU] [] (Wd mu la ro et)).bind fun q => Rr X (d + 1) MSt_readFrom 98 L (psh q.1 st) q.2 := R_iv (av := [.int y1, .ref y0]) d_MSt_readFrom_95 fc_7_38 hO (ckS_le hc) rfl (Nat.le_of_ble_eq_true rfl) (Nat.le_of_ble_eq_true rfl)
theorem r_MSt_readFrom_98 {x : Int32} : Rr X d MSt_readFrom 98 L (.int x :: st) h = if ¬ x = 0 then Rr X d MSt_readFrom 103 L st h else Rr X d MSt_readFrom 101 L st h := R_if_ne d_MSt_readFrom_98 (by decide)
theorem r_MSt_readFrom_101 : Rr X d MSt_readFrom 101 L st h = Rr X d MSt_readFrom 102 L (.int (0) :: st) h := Rr_nx d_MSt_readFrom_101 rfl
theorem r_MSt_readFrom_102 {x : Int32} : Rr X d MSt_readFrom 102 L [.int x] h = if x = 0 ∨ x = 1 then some (some (.int x), h) else none := R_zr d_MSt_readFrom_102 rfl
theorem r_MSt_readFrom_103 : Rr X d MSt_readFrom 103 L st h = Rr X d MSt_readFrom 105 L (.int (44) :: st) h := Rr_nx d_MSt_readFrom_103 rfl
theorem r_MSt_readFrom_105 {l0 l1 l2 l3 l4 : Value} {x : Int32} : Rr X d MSt_readFrom 105 [l0, l1, l2, l3, l4] (.int x :: st) h = Rr X d MSt_readFrom 106 (sL [l0, l1, l2, l3, l4] 3 (.int x)) st h := Rr_nx d_MSt_readFrom_105 rfl
theorem r_MSt_readFrom_106 {l0 l1 l2 l3 : Value} {x : Int32} : Rr X d MSt_readFrom 106 [l0, l1, l2, l3, .int x] st h = Rr X d MSt_readFrom 109 (sL [l0, l1, l2, l3, .int x] 4 (.int (x + (1)))) st h := Rr_nx d_MSt_readFrom_106 rfl
theorem r_MSt_readFrom_109 : Rr X d MSt_readFrom 109 L st h = Rr X d MSt_readFrom 73 L st h := R_goto d_MSt_readFrom_109 (by decide)
theorem r_MSt_readFrom_112 {l1 l2 l3 l4 : Value} {x : Nat} : Rr X d MSt_readFrom 112 [.ref x, l1, l2, l3, l4] st h = Rr X d MSt_readFrom 113 [.ref x, l1, l2, l3, l4] (.ref x :: st) h := Rr_nx d_MSt_readFrom_112 rfl
theorem fc_7_41 : fC 7 41 = some (0, 7, 0, MSt_weigh) := rfl
theorem r_MSt_readFrom_113 {a : Nat} (hO : qO a 7 = true) (hc : ckS st = true) : Rr X (d + 1) MSt_readFrom 113 L (.ref a :: st) (Wd mu la ro et) = (Rr X d MSt_weigh 0 [.ref a, mkU, mkU, mkU, mkU] [] (Wd mu la ro et)).bind fun q => Rr X (d + 1) MSt_readFrom 116 L (psh q.1 st) q.2 := R_iv (av := []) d_MSt_readFrom_113 fc_7_41 hO (ckS_le hc) rfl (Nat.le_of_ble_eq_true rfl) (Nat.le_of_ble_eq_true rfl)
theorem r_MSt_readFrom_116 {l0 l2 l3 l4 : Value} {x : Nat} : Rr X d MSt_readFrom 116 [l0, .ref x, l2, l3, l4] st h = Rr X d MSt_readFrom 117 [l0, .ref x, l2, l3, l4] (.ref x :: st) h := Rr_nx d_MSt_readFrom_116 rfl
theorem r_MSt_readFrom_116n {l0 l2 l3 l4 : Value} : Rr X d MSt_readFrom 116 [l0, .null, l2, l3, l4] st h = Rr X d MSt_readFrom 117 [l0, .null, l2, l3, l4] (.null :: st) h := Rr_nx d_MSt_readFrom_116 rfl
theorem fc_7_44 : fC 7 44 = some (0, 8, 0, MTa_isAtEnd) := rfl
theorem r_MSt_readFrom_117 {a : Nat} (hO : qO a 8 = true) (hc : ckS st = true) : Rr X (d + 1) MSt_readFrom 117 L (.ref a :: st) (Wd mu la ro et) = (Rr X d MTa_isAtEnd 0 [.ref a] [] (Wd mu la ro et)).bind fun q => Rr X (d + 1) MSt_readFrom 120 L (psh q.1 st) q.2 := R_iv (av := []) d_MSt_readFrom_117 fc_7_44 hO (ckS_le hc) rfl (Nat.le_of_ble_eq_true rfl) (Nat.le_of_ble_eq_true rfl)
theorem r_MSt_readFrom_120 {x : Int32} : Rr X d MSt_readFrom 120 L [.int x] h = if x = 0 ∨ x = 1 then some (some (.int x), h) else none := R_zr d_MSt_readFrom_120 rfl
theorem d_MSt_readLump_0 : decode MSt_readLump.2.2.1 0 = .ok (.aload_n 1, 1) := lkT_ok tk_MSt_readLump rfl
theorem d_MSt_readLump_1 : decode MSt_readLump.2.2.1 1 = .ok (.iconst 1, 1) := lkT_ok tk_MSt_readLump rfl
theorem d_MSt_readLump_2 : decode MSt_readLump.2.2.1 2 = .ok (.invokevirtual 48, 3) := lkT_ok tk_MSt_readLump rfl
theorem d_MSt_readLump_5 : decode MSt_readLump.2.2.1 5 = .ok (.istore_n 3, 1) := lkT_ok tk_MSt_readLump rfl
theorem d_MSt_readLump_6 : decode MSt_readLump.2.2.1 6 = .ok (.iload_n 3, 1) := lkT_ok tk_MSt_readLump rfl
theorem d_MSt_readLump_7 : decode MSt_readLump.2.2.1 7 = .ok (.ifCond .lt 16, 3) := lkT_ok tk_MSt_readLump rfl
theorem d_MSt_readLump_10 : decode MSt_readLump.2.2.1 10 = .ok (.iload_n 2, 1) := lkT_ok tk_MSt_readLump rfl
theorem d_MSt_readLump_11 : decode MSt_readLump.2.2.1 11 = .ok (.ifCond .lt 12, 3) := lkT_ok tk_MSt_readLump rfl
theorem d_MSt_readLump_14 : decode MSt_readLump.2.2.1 14 = .ok (.iload_n 2, 1) := lkT_ok tk_MSt_readLump rfl
theorem d_MSt_readLump_15 : decode MSt_readLump.2.2.1 15 = .ok (.aload_n 0, 1) := lkT_ok tk_MSt_readLump rfl
theorem d_MSt_readLump_16 : decode MSt_readLump.2.2.1 16 = .ok (.getfield 11, 3) := lkT_ok tk_MSt_readLump rfl
theorem d_MSt_readLump_19 : decode MSt_readLump.2.2.1 19 = .ok (.arraylength, 1) := lkT_ok tk_MSt_readLump rfl
theorem d_MSt_readLump_20 : decode MSt_readLump.2.2.1 20 = .ok (.if_icmp .lt 5, 3) := lkT_ok tk_MSt_readLump rfl
theorem d_MSt_readLump_23 : decode MSt_readLump.2.2.1 23 = .ok (.iconst 0, 1) := lkT_ok tk_MSt_readLump rfl
theorem d_MSt_readLump_24 : decode MSt_readLump.2.2.1 24 = .ok (.ireturn, 1) := lkT_ok tk_MSt_readLump rfl
theorem d_MSt_readLump_25 : decode MSt_readLump.2.2.1 25 = .ok (.aload_n 0, 1) := lkT_ok tk_MSt_readLump rfl
theorem d_MSt_readLump_26 : decode MSt_readLump.2.2.1 26 = .ok (.getfield 11, 3) := lkT_ok tk_MSt_readLump rfl
theorem d_MSt_readLump_29 : decode MSt_readLump.2.2.1 29 = .ok (.iload_n 2, 1) := lkT_ok tk_MSt_readLump rfl
theorem d_MSt_readLump_30 : decode MSt_readLump.2.2.1 30 = .ok (.iload_n 3, 1) := lkT_ok tk_MSt_readLump rfl
theorem d_MSt_readLump_31 : decode MSt_readLump.2.2.1 31 = .ok (.iastore, 1) := lkT_ok tk_MSt_readLump rfl
theorem d_MSt_readLump_32 : decode MSt_readLump.2.2.1 32 = .ok (.aload_n 1, 1) := lkT_ok tk_MSt_readLump rfl
theorem d_MSt_readLump_33 : decode MSt_readLump.2.2.1 33 = .ok (.aload_n 0, 1) := lkT_ok tk_MSt_readLump rfl
theorem d_MSt_readLump_34 : decode MSt_readLump.2.2.1 34 = .ok (.getfield 15, 3) := lkT_ok tk_MSt_readLump rfl
theorem d_MSt_readLump_37 : decode MSt_readLump.2.2.1 37 = .ok (.iload_n 2, 1) := lkT_ok tk_MSt_readLump rfl
theorem d_MSt_readLump_38 : decode MSt_readLump.2.2.1 38 = .ok (.invokestatic 52, 3) := lkT_ok tk_MSt_readLump rfl
theorem d_MSt_readLump_41 : decode MSt_readLump.2.2.1 41 = .ok (.ifCond .eq 19, 3) := lkT_ok tk_MSt_readLump rfl
theorem d_MSt_readLump_44 : decode MSt_readLump.2.2.1 44 = .ok (.aload_n 1, 1) := lkT_ok tk_MSt_readLump rfl
theorem d_MSt_readLump_45 : decode MSt_readLump.2.2.1 45 = .ok (.aload_n 0, 1) := lkT_ok tk_MSt_readLump rfl
theorem d_MSt_readLump_46 : decode MSt_readLump.2.2.1 46 = .ok (.getfield 18, 3) := lkT_ok tk_MSt_readLump rfl
theorem d_MSt_readLump_49 : decode MSt_readLump.2.2.1 49 = .ok (.iload_n 2, 1) := lkT_ok tk_MSt_readLump rfl
theorem d_MSt_readLump_50 : decode MSt_readLump.2.2.1 50 = .ok (.invokestatic 52, 3) := lkT_ok tk_MSt_readLump rfl
theorem d_MSt_readLump_53 : decode MSt_readLump.2.2.1 53 = .ok (.ifCond .eq 7, 3) := lkT_ok tk_MSt_readLump rfl
theorem d_MSt_readLump_56 : decode MSt_readLump.2.2.1 56 = .ok (.iconst 1, 1) := lkT_ok tk_MSt_readLump rfl
theorem d_MSt_readLump_57 : decode MSt_readLump.2.2.1 57 = .ok (.goto 4, 3) := lkT_ok tk_MSt_readLump rfl
theorem d_MSt_readLump_60 : decode MSt_readLump.2.2.1 60 = .ok (.iconst 0, 1) := lkT_ok tk_MSt_readLump rfl
theorem d_MSt_readLump_61 : decode MSt_readLump.2.2.1 61 = .ok (.ireturn, 1) := lkT_ok tk_MSt_readLump rfl
theorem r_MSt_readLump_0 {l0 l2 l3 : Value} {x : Nat} : Rr X d MSt_readLump 0 [l0, .ref x, l2, l3] st h = Rr X d MSt_readLump 1 [l0, .ref x, l2, l3] (.ref x :: st) h := Rr_nx d_MSt_readLump_0 rfl
theorem r_MSt_readLump_0n {l0 l2 l3 : Value} : Rr X d MSt_readLump 0 [l0, .null, l2, l3] st h = Rr X d MSt_readLump 1 [l0, .null, l2, l3] (.null :: st) h := Rr_nx d_MSt_readLump_0 rfl
theorem r_MSt_readLump_1 : Rr X d MSt_readLump 1 L st h = Rr X d MSt_readLump 2 L (.int (1) :: st) h := Rr_nx d_MSt_readLump_1 rfl
theorem fc_7_48 : fC 7 48 = some (0, 8, 1, MTa_digit) := rfl
theorem r_MSt_readLump_2 {y0 : Int32} {a : Nat} (hO : qO a 8 = true) (hc : ckS st = true) : Rr X (d + 1) MSt_readLump 2 L (.int y0 :: .ref a :: st) (Wd mu la ro et) = (Rr X d MTa_digit 0 [.ref a, .int y0, mkU] [] (Wd mu la ro et)).bind fun q => Rr X (d + 1) MSt_readLump 5 L (psh q.1 st) q.2 := R_iv (av := [.int y0]) d_MSt_readLump_2 fc_7_48 hO (ckS_le hc) rfl (Nat.le_of_ble_eq_true rfl) (Nat.le_of_ble_eq_true rfl)
theorem r_MSt_readLump_5 {l0 l1 l2 l3 : Value} {x : Int32} : Rr X d MSt_readLump 5 [l0, l1, l2, l3] (.int x :: st) h = Rr X d MSt_readLump 6 (sL [l0, l1, l2, l3] 3 (.int x)) st h := Rr_nx d_MSt_readLump_5 rfl
theorem r_MSt_readLump_6 {l0 l1 l2 : Value} {x : Int32} : Rr X d MSt_readLump 6 [l0, l1, l2, .int x] st h = Rr X d MSt_readLump 7 [l0, l1, l2, .int x] (.int x :: st) h := Rr_nx d_MSt_readLump_6 rfl
theorem r_MSt_readLump_7 {x : Int32} : Rr X d MSt_readLump 7 L (.int x :: st) h = if x < 0 then Rr X d MSt_readLump 23 L st h else Rr X d MSt_readLump 10 L st h := R_if_lt d_MSt_readLump_7 (by decide)
theorem r_MSt_readLump_10 {l0 l1 l3 : Value} {x : Int32} : Rr X d MSt_readLump 10 [l0, l1, .int x, l3] st h = Rr X d MSt_readLump 11 [l0, l1, .int x, l3] (.int x :: st) h := Rr_nx d_MSt_readLump_10 rfl
theorem r_MSt_readLump_11 {x : Int32} : Rr X d MSt_readLump 11 L (.int x :: st) h = if x < 0 then Rr X d MSt_readLump 23 L st h else Rr X d MSt_readLump 14 L st h := R_if_lt d_MSt_readLump_11 (by decide)
theorem r_MSt_readLump_14 {l0 l1 l3 : Value} {x : Int32} : Rr X d MSt_readLump 14 [l0, l1, .int x, l3] st h = Rr X d MSt_readLump 15 [l0, l1, .int x, l3] (.int x :: st) h := Rr_nx d_MSt_readLump_14 rfl
theorem r_MSt_readLump_15 {l1 l2 l3 : Value} {x : Nat} : Rr X d MSt_readLump 15 [.ref x, l1, l2, l3] st h = Rr X d MSt_readLump 16 [.ref x, l1, l2, l3] (.ref x :: st) h := Rr_nx d_MSt_readLump_15 rfl
theorem ff_7_11 : fF 7 11 = some (7, 0, 1, 1) := rfl
theorem r_MSt_readLump_16 {a : Nat} (hq : (qR a 7 0).isSome = true) : Rr X d MSt_readLump 16 L (.ref a :: st) (Wd mu la ro et) = Rr X d MSt_readLump 19 L (.ref (qRd a 7 0) :: st) (Wd mu la ro et) := R_gfR d_MSt_readLump_16 ff_7_11 hq
theorem r_MSt_readLump_19 {a : Nat} (hq : (qL a).isSome = true) : Rr X d MSt_readLump 19 L (.ref a :: st) (Wd mu la ro et) = Rr X d MSt_readLump 20 L (.int (Int32.ofNat (qLd a)) :: st) (Wd mu la ro et) := R_lenW d_MSt_readLump_19 hq
theorem r_MSt_readLump_20 {x y : Int32} : Rr X d MSt_readLump 20 L (.int y :: .int x :: st) h = if x < y then Rr X d MSt_readLump 25 L st h else Rr X d MSt_readLump 23 L st h := R_ic_lt d_MSt_readLump_20 (by decide)
theorem r_MSt_readLump_23 : Rr X d MSt_readLump 23 L st h = Rr X d MSt_readLump 24 L (.int (0) :: st) h := Rr_nx d_MSt_readLump_23 rfl
theorem r_MSt_readLump_24 {x : Int32} : Rr X d MSt_readLump 24 L [.int x] h = if x = 0 ∨ x = 1 then some (some (.int x), h) else none := R_zr d_MSt_readLump_24 rfl
theorem r_MSt_readLump_25 {l1 l2 l3 : Value} {x : Nat} : Rr X d MSt_readLump 25 [.ref x, l1, l2, l3] st h = Rr X d MSt_readLump 26 [.ref x, l1, l2, l3] (.ref x :: st) h := Rr_nx d_MSt_readLump_25 rfl
theorem r_MSt_readLump_26 {a : Nat} (hq : (qR a 7 0).isSome = true) : Rr X d MSt_readLump 26 L (.ref a :: st) (Wd mu la ro et) = Rr X d MSt_readLump 29 L (.ref (qRd a 7 0) :: st) (Wd mu la ro et) := R_gfR d_MSt_readLump_26 ff_7_11 hq
theorem r_MSt_readLump_29 {l0 l1 l3 : Value} {x : Int32} : Rr X d MSt_readLump 29 [l0, l1, .int x, l3] st h = Rr X d MSt_readLump 30 [l0, l1, .int x, l3] (.int x :: st) h := Rr_nx d_MSt_readLump_29 rfl
theorem r_MSt_readLump_30 {l0 l1 l2 : Value} {x : Int32} : Rr X d MSt_readLump 30 [l0, l1, l2, .int x] st h = Rr X d MSt_readLump 31 [l0, l1, l2, .int x] (.int x :: st) h := Rr_nx d_MSt_readLump_30 rfl
theorem r_MSt_readLump_31 {a : Nat} {j x : Int32} (hq : (qA a 0).isSome = true) : Rr X d MSt_readLump 31 L (.int x :: .int j :: .ref a :: st) (Wd mu la ro et) = if j < 0 ∨ qAd a 0 ≤ j.toNatClampNeg then none else Rr X d MSt_readLump 32 L st (Wd (up2 mu a j.toNatClampNeg (x)) la ro et) := R_iasW d_MSt_readLump_31 hq
theorem r_MSt_readLump_32 {l0 l2 l3 : Value} {x : Nat} : Rr X d MSt_readLump 32 [l0, .ref x, l2, l3] st h = Rr X d MSt_readLump 33 [l0, .ref x, l2, l3] (.ref x :: st) h := Rr_nx d_MSt_readLump_32 rfl
theorem r_MSt_readLump_32n {l0 l2 l3 : Value} : Rr X d MSt_readLump 32 [l0, .null, l2, l3] st h = Rr X d MSt_readLump 33 [l0, .null, l2, l3] (.null :: st) h := Rr_nx d_MSt_readLump_32 rfl
theorem r_MSt_readLump_33 {l1 l2 l3 : Value} {x : Nat} : Rr X d MSt_readLump 33 [.ref x, l1, l2, l3] st h = Rr X d MSt_readLump 34 [.ref x, l1, l2, l3] (.ref x :: st) h := Rr_nx d_MSt_readLump_33 rfl
theorem ff_7_15 : fF 7 15 = some (7, 1, 1, 1) := rfl
theorem r_MSt_readLump_34 {a : Nat} (hq : (qR a 7 1).isSome = true) : Rr X d MSt_readLump 34 L (.ref a :: st) (Wd mu la ro et) = Rr X d MSt_readLump 37 L (.ref (qRd a 7 1) :: st) (Wd mu la ro et) := R_gfR d_MSt_readLump_34 ff_7_15 hq
theorem r_MSt_readLump_37 {l0 l1 l3 : Value} {x : Int32} : Rr X d MSt_readLump 37 [l0, l1, .int x, l3] st h = Rr X d MSt_readLump 38 [l0, l1, .int x, l3] (.int x :: st) h := Rr_nx d_MSt_readLump_37 rfl
theorem fc_7_52 : fC 7 52 = some (1, 0, 3, MSt_readSigned) := rfl
theorem r_MSt_readLump_38 {y0 : Nat} {y1 : Nat} {y2 : Int32} (hc : ckS st = true) : Rr X (d + 1) MSt_readLump 38 L (.int y2 :: .ref y1 :: .ref y0 :: st) h = (Rr X d MSt_readSigned 0 [.ref y0, .ref y1, .int y2, mkU, mkU] [] h).bind fun q => Rr X (d + 1) MSt_readLump 41 L (psh q.1 st) q.2 := R_is (av := [.int y2, .ref y1, .ref y0]) d_MSt_readLump_38 (Or.inl fc_7_52) (ckS_le hc) rfl (Nat.le_of_ble_eq_true rfl) (Nat.le_of_ble_eq_true rfl)
theorem r_MSt_readLump_41 {x : Int32} : Rr X d MSt_readLump 41 L (.int x :: st) h = if x = 0 then Rr X d MSt_readLump 60 L st h else Rr X d MSt_readLump 44 L st h := R_if_eq d_MSt_readLump_41 (by decide)
theorem r_MSt_readLump_44 {l0 l2 l3 : Value} {x : Nat} : Rr X d MSt_readLump 44 [l0, .ref x, l2, l3] st h = Rr X d MSt_readLump 45 [l0, .ref x, l2, l3] (.ref x :: st) h := Rr_nx d_MSt_readLump_44 rfl
theorem r_MSt_readLump_44n {l0 l2 l3 : Value} : Rr X d MSt_readLump 44 [l0, .null, l2, l3] st h = Rr X d MSt_readLump 45 [l0, .null, l2, l3] (.null :: st) h := Rr_nx d_MSt_readLump_44 rfl
theorem r_MSt_readLump_45 {l1 l2 l3 : Value} {x : Nat} : Rr X d MSt_readLump 45 [.ref x, l1, l2, l3] st h = Rr X d MSt_readLump 46 [.ref x, l1, l2, l3] (.ref x :: st) h := Rr_nx d_MSt_readLump_45 rfl
theorem ff_7_18 : fF 7 18 = some (7, 2, 1, 1) := rfl
theorem r_MSt_readLump_46 {a : Nat} (hq : (qR a 7 2).isSome = true) : Rr X d MSt_readLump 46 L (.ref a :: st) (Wd mu la ro et) = Rr X d MSt_readLump 49 L (.ref (qRd a 7 2) :: st) (Wd mu la ro et) := R_gfR d_MSt_readLump_46 ff_7_18 hq
theorem r_MSt_readLump_49 {l0 l1 l3 : Value} {x : Int32} : Rr X d MSt_readLump 49 [l0, l1, .int x, l3] st h = Rr X d MSt_readLump 50 [l0, l1, .int x, l3] (.int x :: st) h := Rr_nx d_MSt_readLump_49 rfl
theorem r_MSt_readLump_50 {y0 : Nat} {y1 : Nat} {y2 : Int32} (hc : ckS st = true) : Rr X (d + 1) MSt_readLump 50 L (.int y2 :: .ref y1 :: .ref y0 :: st) h = (Rr X d MSt_readSigned 0 [.ref y0, .ref y1, .int y2, mkU, mkU] [] h).bind fun q => Rr X (d + 1) MSt_readLump 53 L (psh q.1 st) q.2 := R_is (av := [.int y2, .ref y1, .ref y0]) d_MSt_readLump_50 (Or.inl fc_7_52) (ckS_le hc) rfl (Nat.le_of_ble_eq_true rfl) (Nat.le_of_ble_eq_true rfl)
theorem r_MSt_readLump_53 {x : Int32} : Rr X d MSt_readLump 53 L (.int x :: st) h = if x = 0 then Rr X d MSt_readLump 60 L st h else Rr X d MSt_readLump 56 L st h := R_if_eq d_MSt_readLump_53 (by decide)
theorem r_MSt_readLump_56 : Rr X d MSt_readLump 56 L st h = Rr X d MSt_readLump 57 L (.int (1) :: st) h := Rr_nx d_MSt_readLump_56 rfl
theorem r_MSt_readLump_57 : Rr X d MSt_readLump 57 L st h = Rr X d MSt_readLump 61 L st h := R_goto d_MSt_readLump_57 (by decide)
theorem r_MSt_readLump_60 : Rr X d MSt_readLump 60 L st h = Rr X d MSt_readLump 61 L (.int (0) :: st) h := Rr_nx d_MSt_readLump_60 rfl
theorem r_MSt_readLump_61 {x : Int32} : Rr X d MSt_readLump 61 L [.int x] h = if x = 0 ∨ x = 1 then some (some (.int x), h) else none := R_zr d_MSt_readLump_61 rfl
theorem d_MSt_readSigned_0 : decode MSt_readSigned.2.2.1 0 = .ok (.aload_n 0, 1) := lkT_ok tk_MSt_readSigned rfl
theorem d_MSt_readSigned_1 : decode MSt_readSigned.2.2.1 1 = .ok (.bipush 45, 2) := lkT_ok tk_MSt_readSigned rfl
theorem d_MSt_readSigned_3 : decode MSt_readSigned.2.2.1 3 = .ok (.invokevirtual 32, 3) := lkT_ok tk_MSt_readSigned rfl
theorem d_MSt_readSigned_6 : decode MSt_readSigned.2.2.1 6 = .ok (.istore_n 3, 1) := lkT_ok tk_MSt_readSigned rfl
theorem d_MSt_readSigned_7 : decode MSt_readSigned.2.2.1 7 = .ok (.iload_n 3, 1) := lkT_ok tk_MSt_readSigned rfl
theorem d_MSt_readSigned_8 : decode MSt_readSigned.2.2.1 8 = .ok (.ifCond .ne 14, 3) := lkT_ok tk_MSt_readSigned rfl
theorem d_MSt_readSigned_11 : decode MSt_readSigned.2.2.1 11 = .ok (.aload_n 0, 1) := lkT_ok tk_MSt_readSigned rfl
theorem d_MSt_readSigned_12 : decode MSt_readSigned.2.2.1 12 = .ok (.bipush 43, 2) := lkT_ok tk_MSt_readSigned rfl
theorem d_MSt_readSigned_14 : decode MSt_readSigned.2.2.1 14 = .ok (.invokevirtual 32, 3) := lkT_ok tk_MSt_readSigned rfl
theorem d_MSt_readSigned_17 : decode MSt_readSigned.2.2.1 17 = .ok (.ifCond .ne 5, 3) := lkT_ok tk_MSt_readSigned rfl
theorem d_MSt_readSigned_20 : decode MSt_readSigned.2.2.1 20 = .ok (.iconst 0, 1) := lkT_ok tk_MSt_readSigned rfl
theorem d_MSt_readSigned_21 : decode MSt_readSigned.2.2.1 21 = .ok (.ireturn, 1) := lkT_ok tk_MSt_readSigned rfl
theorem d_MSt_readSigned_22 : decode MSt_readSigned.2.2.1 22 = .ok (.aload_n 0, 1) := lkT_ok tk_MSt_readSigned rfl
theorem d_MSt_readSigned_23 : decode MSt_readSigned.2.2.1 23 = .ok (.iconst 0, 1) := lkT_ok tk_MSt_readSigned rfl
theorem d_MSt_readSigned_24 : decode MSt_readSigned.2.2.1 24 = .ok (.invokevirtual 48, 3) := lkT_ok tk_MSt_readSigned rfl
theorem d_MSt_readSigned_27 : decode MSt_readSigned.2.2.1 27 = .ok (.istore 4, 2) := lkT_ok tk_MSt_readSigned rfl
theorem d_MSt_readSigned_29 : decode MSt_readSigned.2.2.1 29 = .ok (.iload 4, 2) := lkT_ok tk_MSt_readSigned rfl
theorem d_MSt_readSigned_31 : decode MSt_readSigned.2.2.1 31 = .ok (.ifCond .lt 13, 3) := lkT_ok tk_MSt_readSigned rfl
theorem d_MSt_readSigned_34 : decode MSt_readSigned.2.2.1 34 = .ok (.iload_n 2, 1) := lkT_ok tk_MSt_readSigned rfl
theorem d_MSt_readSigned_35 : decode MSt_readSigned.2.2.1 35 = .ok (.ifCond .lt 9, 3) := lkT_ok tk_MSt_readSigned rfl
theorem d_MSt_readSigned_38 : decode MSt_readSigned.2.2.1 38 = .ok (.iload_n 2, 1) := lkT_ok tk_MSt_readSigned rfl
theorem d_MSt_readSigned_39 : decode MSt_readSigned.2.2.1 39 = .ok (.aload_n 1, 1) := lkT_ok tk_MSt_readSigned rfl
theorem d_MSt_readSigned_40 : decode MSt_readSigned.2.2.1 40 = .ok (.arraylength, 1) := lkT_ok tk_MSt_readSigned rfl
theorem d_MSt_readSigned_41 : decode MSt_readSigned.2.2.1 41 = .ok (.if_icmp .lt 5, 3) := lkT_ok tk_MSt_readSigned rfl
theorem d_MSt_readSigned_44 : decode MSt_readSigned.2.2.1 44 = .ok (.iconst 0, 1) := lkT_ok tk_MSt_readSigned rfl
theorem d_MSt_readSigned_45 : decode MSt_readSigned.2.2.1 45 = .ok (.ireturn, 1) := lkT_ok tk_MSt_readSigned rfl
theorem d_MSt_readSigned_46 : decode MSt_readSigned.2.2.1 46 = .ok (.aload_n 1, 1) := lkT_ok tk_MSt_readSigned rfl
theorem d_MSt_readSigned_47 : decode MSt_readSigned.2.2.1 47 = .ok (.iload_n 2, 1) := lkT_ok tk_MSt_readSigned rfl
theorem d_MSt_readSigned_48 : decode MSt_readSigned.2.2.1 48 = .ok (.iload_n 3, 1) := lkT_ok tk_MSt_readSigned rfl
theorem d_MSt_readSigned_49 : decode MSt_readSigned.2.2.1 49 = .ok (.ifCond .eq 9, 3) := lkT_ok tk_MSt_readSigned rfl
theorem d_MSt_readSigned_52 : decode MSt_readSigned.2.2.1 52 = .ok (.iload 4, 2) := lkT_ok tk_MSt_readSigned rfl
theorem d_MSt_readSigned_54 : decode MSt_readSigned.2.2.1 54 = .ok (.ineg, 1) := lkT_ok tk_MSt_readSigned rfl
theorem d_MSt_readSigned_55 : decode MSt_readSigned.2.2.1 55 = .ok (.goto 5, 3) := lkT_ok tk_MSt_readSigned rfl
theorem d_MSt_readSigned_58 : decode MSt_readSigned.2.2.1 58 = .ok (.iload 4, 2) := lkT_ok tk_MSt_readSigned rfl
theorem d_MSt_readSigned_60 : decode MSt_readSigned.2.2.1 60 = .ok (.iastore, 1) := lkT_ok tk_MSt_readSigned rfl
theorem d_MSt_readSigned_61 : decode MSt_readSigned.2.2.1 61 = .ok (.iconst 1, 1) := lkT_ok tk_MSt_readSigned rfl
theorem d_MSt_readSigned_62 : decode MSt_readSigned.2.2.1 62 = .ok (.ireturn, 1) := lkT_ok tk_MSt_readSigned rfl
theorem r_MSt_readSigned_0 {l1 l2 l3 l4 : Value} {x : Nat} : Rr X d MSt_readSigned 0 [.ref x, l1, l2, l3, l4] st h = Rr X d MSt_readSigned 1 [.ref x, l1, l2, l3, l4] (.ref x :: st) h := Rr_nx d_MSt_readSigned_0 rfl
theorem r_MSt_readSigned_1 : Rr X d MSt_readSigned 1 L st h = Rr X d MSt_readSigned 3 L (.int (45) :: st) h := Rr_nx d_MSt_readSigned_1 rfl
theorem r_MSt_readSigned_3 {y0 : Int32} {a : Nat} (hO : qO a 8 = true) (hc : ckS st = true) : Rr X (d + 1) MSt_readSigned 3 L (.int y0 :: .ref a :: st) (Wd mu la ro et) = (Rr X d MTa_skip 0 [.ref a, .int y0] [] (Wd mu la ro et)).bind fun q => Rr X (d + 1) MSt_readSigned 6 L (psh q.1 st) q.2 := R_iv (av := [.int y0]) d_MSt_readSigned_3 fc_7_32 hO (ckS_le hc) rfl (Nat.le_of_ble_eq_true rfl) (Nat.le_of_ble_eq_true rfl)
theorem r_MSt_readSigned_6 {l0 l1 l2 l3 l4 : Value} {x : Int32} : Rr X d MSt_readSigned 6 [l0, l1, l2, l3, l4] (.int x :: st) h = Rr X d MSt_readSigned 7 (sL [l0, l1, l2, l3, l4] 3 (.int x)) st h := Rr_nx d_MSt_readSigned_6 rfl
theorem r_MSt_readSigned_7 {l0 l1 l2 l4 : Value} {x : Int32} : Rr X d MSt_readSigned 7 [l0, l1, l2, .int x, l4] st h = Rr X d MSt_readSigned 8 [l0, l1, l2, .int x, l4] (.int x :: st) h := Rr_nx d_MSt_readSigned_7 rfl
theorem r_MSt_readSigned_8 {x : Int32} : Rr X d MSt_readSigned 8 L (.int x :: st) h = if ¬ x = 0 then Rr X d MSt_readSigned 22 L st h else Rr X d MSt_readSigned 11 L st h := R_if_ne d_MSt_readSigned_8 (by decide)
theorem r_MSt_readSigned_11 {l1 l2 l3 l4 : Value} {x : Nat} : Rr X d MSt_readSigned 11 [.ref x, l1, l2, l3, l4] st h = Rr X d MSt_readSigned 12 [.ref x, l1, l2, l3, l4] (.ref x :: st) h := Rr_nx d_MSt_readSigned_11 rfl
theorem r_MSt_readSigned_12 : Rr X d MSt_readSigned 12 L st h = Rr X d MSt_readSigned 14 L (.int (43) :: st) h := Rr_nx d_MSt_readSigned_12 rfl
theorem r_MSt_readSigned_14 {y0 : Int32} {a : Nat} (hO : qO a 8 = true) (hc : ckS st = true) : Rr X (d + 1) MSt_readSigned 14 L (.int y0 :: .ref a :: st) (Wd mu la ro et) = (Rr X d MTa_skip 0 [.ref a, .int y0] [] (Wd mu la ro et)).bind fun q => Rr X (d + 1) MSt_readSigned 17 L (psh q.1 st) q.2 := R_iv (av := [.int y0]) d_MSt_readSigned_14 fc_7_32 hO (ckS_le hc) rfl (Nat.le_of_ble_eq_true rfl) (Nat.le_of_ble_eq_true rfl)
theorem r_MSt_readSigned_17 {x : Int32} : Rr X d MSt_readSigned 17 L (.int x :: st) h = if ¬ x = 0 then Rr X d MSt_readSigned 22 L st h else Rr X d MSt_readSigned 20 L st h := R_if_ne d_MSt_readSigned_17 (by decide)
theorem r_MSt_readSigned_20 : Rr X d MSt_readSigned 20 L st h = Rr X d MSt_readSigned 21 L (.int (0) :: st) h := Rr_nx d_MSt_readSigned_20 rfl
theorem r_MSt_readSigned_21 {x : Int32} : Rr X d MSt_readSigned 21 L [.int x] h = if x = 0 ∨ x = 1 then some (some (.int x), h) else none := R_zr d_MSt_readSigned_21 rfl
theorem r_MSt_readSigned_22 {l1 l2 l3 l4 : Value} {x : Nat} : Rr X d MSt_readSigned 22 [.ref x, l1, l2, l3, l4] st h = Rr X d MSt_readSigned 23 [.ref x, l1, l2, l3, l4] (.ref x :: st) h := Rr_nx d_MSt_readSigned_22 rfl
theorem r_MSt_readSigned_23 : Rr X d MSt_readSigned 23 L st h = Rr X d MSt_readSigned 24 L (.int (0) :: st) h := Rr_nx d_MSt_readSigned_23 rfl
theorem r_MSt_readSigned_24 {y0 : Int32} {a : Nat} (hO : qO a 8 = true) (hc : ckS st = true) : Rr X (d + 1) MSt_readSigned 24 L (.int y0 :: .ref a :: st) (Wd mu la ro et) = (Rr X d MTa_digit 0 [.ref a, .int y0, mkU] [] (Wd mu la ro et)).bind fun q => Rr X (d + 1) MSt_readSigned 27 L (psh q.1 st) q.2 := R_iv (av := [.int y0]) d_MSt_readSigned_24 fc_7_48 hO (ckS_le hc) rfl (Nat.le_of_ble_eq_true rfl) (Nat.le_of_ble_eq_true rfl)
theorem r_MSt_readSigned_27 {l0 l1 l2 l3 l4 : Value} {x : Int32} : Rr X d MSt_readSigned 27 [l0, l1, l2, l3, l4] (.int x :: st) h = Rr X d MSt_readSigned 29 (sL [l0, l1, l2, l3, l4] 4 (.int x)) st h := Rr_nx d_MSt_readSigned_27 rfl
theorem r_MSt_readSigned_29 {l0 l1 l2 l3 : Value} {x : Int32} : Rr X d MSt_readSigned 29 [l0, l1, l2, l3, .int x] st h = Rr X d MSt_readSigned 31 [l0, l1, l2, l3, .int x] (.int x :: st) h := Rr_nx d_MSt_readSigned_29 rfl
theorem r_MSt_readSigned_31 {x : Int32} : Rr X d MSt_readSigned 31 L (.int x :: st) h = if x < 0 then Rr X d MSt_readSigned 44 L st h else Rr X d MSt_readSigned 34 L st h := R_if_lt d_MSt_readSigned_31 (by decide)
theorem r_MSt_readSigned_34 {l0 l1 l3 l4 : Value} {x : Int32} : Rr X d MSt_readSigned 34 [l0, l1, .int x, l3, l4] st h = Rr X d MSt_readSigned 35 [l0, l1, .int x, l3, l4] (.int x :: st) h := Rr_nx d_MSt_readSigned_34 rfl
theorem r_MSt_readSigned_35 {x : Int32} : Rr X d MSt_readSigned 35 L (.int x :: st) h = if x < 0 then Rr X d MSt_readSigned 44 L st h else Rr X d MSt_readSigned 38 L st h := R_if_lt d_MSt_readSigned_35 (by decide)
theorem r_MSt_readSigned_38 {l0 l1 l3 l4 : Value} {x : Int32} : Rr X d MSt_readSigned 38 [l0, l1, .int x, l3, l4] st h = Rr X d MSt_readSigned 39 [l0, l1, .int x, l3, l4] (.int x :: st) h := Rr_nx d_MSt_readSigned_38 rfl
theorem r_MSt_readSigned_39 {l0 l2 l3 l4 : Value} {x : Nat} : Rr X d MSt_readSigned 39 [l0, .ref x, l2, l3, l4] st h = Rr X d MSt_readSigned 40 [l0, .ref x, l2, l3, l4] (.ref x :: st) h := Rr_nx d_MSt_readSigned_39 rfl
theorem r_MSt_readSigned_39n {l0 l2 l3 l4 : Value} : Rr X d MSt_readSigned 39 [l0, .null, l2, l3, l4] st h = Rr X d MSt_readSigned 40 [l0, .null, l2, l3, l4] (.null :: st) h := Rr_nx d_MSt_readSigned_39 rfl
theorem r_MSt_readSigned_40 {a : Nat} (hq : (qL a).isSome = true) : Rr X d MSt_readSigned 40 L (.ref a :: st) (Wd mu la ro et) = Rr X d MSt_readSigned 41 L (.int (Int32.ofNat (qLd a)) :: st) (Wd mu la ro et) := R_lenW d_MSt_readSigned_40 hq
theorem r_MSt_readSigned_41 {x y : Int32} : Rr X d MSt_readSigned 41 L (.int y :: .int x :: st) h = if x < y then Rr X d MSt_readSigned 46 L st h else Rr X d MSt_readSigned 44 L st h := R_ic_lt d_MSt_readSigned_41 (by decide)
theorem r_MSt_readSigned_44 : Rr X d MSt_readSigned 44 L st h = Rr X d MSt_readSigned 45 L (.int (0) :: st) h := Rr_nx d_MSt_readSigned_44 rfl
theorem r_MSt_readSigned_45 {x : Int32} : Rr X d MSt_readSigned 45 L [.int x] h = if x = 0 ∨ x = 1 then some (some (.int x), h) else none := R_zr d_MSt_readSigned_45 rfl
theorem r_MSt_readSigned_46 {l0 l2 l3 l4 : Value} {x : Nat} : Rr X d MSt_readSigned 46 [l0, .ref x, l2, l3, l4] st h = Rr X d MSt_readSigned 47 [l0, .ref x, l2, l3, l4] (.ref x :: st) h := Rr_nx d_MSt_readSigned_46 rfl
theorem r_MSt_readSigned_46n {l0 l2 l3 l4 : Value} : Rr X d MSt_readSigned 46 [l0, .null, l2, l3, l4] st h = Rr X d MSt_readSigned 47 [l0, .null, l2, l3, l4] (.null :: st) h := Rr_nx d_MSt_readSigned_46 rfl
theorem r_MSt_readSigned_47 {l0 l1 l3 l4 : Value} {x : Int32} : Rr X d MSt_readSigned 47 [l0, l1, .int x, l3, l4] st h = Rr X d MSt_readSigned 48 [l0, l1, .int x, l3, l4] (.int x :: st) h := Rr_nx d_MSt_readSigned_47 rfl
theorem r_MSt_readSigned_48 {l0 l1 l2 l4 : Value} {x : Int32} : Rr X d MSt_readSigned 48 [l0, l1, l2, .int x, l4] st h = Rr X d MSt_readSigned 49 [l0, l1, l2, .int x, l4] (.int x :: st) h := Rr_nx d_MSt_readSigned_48 rfl
theorem r_MSt_readSigned_49 {x : Int32} : Rr X d MSt_readSigned 49 L (.int x :: st) h = if x = 0 then Rr X d MSt_readSigned 58 L st h else Rr X d MSt_readSigned 52 L st h := R_if_eq d_MSt_readSigned_49 (by decide)
theorem r_MSt_readSigned_52 {l0 l1 l2 l3 : Value} {x : Int32} : Rr X d MSt_readSigned 52 [l0, l1, l2, l3, .int x] st h = Rr X d MSt_readSigned 54 [l0, l1, l2, l3, .int x] (.int x :: st) h := Rr_nx d_MSt_readSigned_52 rfl
theorem r_MSt_readSigned_54 {x : Int32} : Rr X d MSt_readSigned 54 L (.int x :: st) h = Rr X d MSt_readSigned 55 L (.int (-x) :: st) h := Rr_nx d_MSt_readSigned_54 rfl
theorem r_MSt_readSigned_55 : Rr X d MSt_readSigned 55 L st h = Rr X d MSt_readSigned 60 L st h := R_goto d_MSt_readSigned_55 (by decide)
theorem r_MSt_readSigned_58 {l0 l1 l2 l3 : Value} {x : Int32} : Rr X d MSt_readSigned 58 [l0, l1, l2, l3, .int x] st h = Rr X d MSt_readSigned 60 [l0, l1, l2, l3, .int x] (.int x :: st) h := Rr_nx d_MSt_readSigned_58 rfl
theorem r_MSt_readSigned_60 {a : Nat} {j x : Int32} (hq : (qA a 0).isSome = true) : Rr X d MSt_readSigned 60 L (.int x :: .int j :: .ref a :: st) (Wd mu la ro et) = if j < 0 ∨ qAd a 0 ≤ j.toNatClampNeg then none else Rr X d MSt_readSigned 61 L st (Wd (up2 mu a j.toNatClampNeg (x)) la ro et) := R_iasW d_MSt_readSigned_60 hq
theorem r_MSt_readSigned_61 : Rr X d MSt_readSigned 61 L st h = Rr X d MSt_readSigned 62 L (.int (1) :: st) h := Rr_nx d_MSt_readSigned_61 rfl
theorem r_MSt_readSigned_62 {x : Int32} : Rr X d MSt_readSigned 62 L [.int x] h = if x = 0 ∨ x = 1 then some (some (.int x), h) else none := R_zr d_MSt_readSigned_62 rfl
theorem d_MSt_readRate_0 : decode MSt_readRate.2.2.1 0 = .ok (.aload_n 1, 1) := lkT_ok tk_MSt_readRate rfl
theorem d_MSt_readRate_1 : decode MSt_readRate.2.2.1 1 = .ok (.getfield 56, 3) := lkT_ok tk_MSt_readRate rfl
theorem d_MSt_readRate_4 : decode MSt_readRate.2.2.1 4 = .ok (.istore_n 3, 1) := lkT_ok tk_MSt_readRate rfl
theorem d_MSt_readRate_5 : decode MSt_readRate.2.2.1 5 = .ok (.aload_n 1, 1) := lkT_ok tk_MSt_readRate rfl
theorem d_MSt_readRate_6 : decode MSt_readRate.2.2.1 6 = .ok (.iconst 3, 1) := lkT_ok tk_MSt_readRate rfl
theorem d_MSt_readRate_7 : decode MSt_readRate.2.2.1 7 = .ok (.invokevirtual 59, 3) := lkT_ok tk_MSt_readRate rfl
theorem d_MSt_readRate_10 : decode MSt_readRate.2.2.1 10 = .ok (.istore 4, 2) := lkT_ok tk_MSt_readRate rfl
theorem d_MSt_readRate_12 : decode MSt_readRate.2.2.1 12 = .ok (.iload 4, 2) := lkT_ok tk_MSt_readRate rfl
theorem d_MSt_readRate_14 : decode MSt_readRate.2.2.1 14 = .ok (.ifCond .lt 16, 3) := lkT_ok tk_MSt_readRate rfl
theorem d_MSt_readRate_17 : decode MSt_readRate.2.2.1 17 = .ok (.iload_n 2, 1) := lkT_ok tk_MSt_readRate rfl
theorem d_MSt_readRate_18 : decode MSt_readRate.2.2.1 18 = .ok (.ifCond .lt 12, 3) := lkT_ok tk_MSt_readRate rfl
theorem d_MSt_readRate_21 : decode MSt_readRate.2.2.1 21 = .ok (.iload_n 2, 1) := lkT_ok tk_MSt_readRate rfl
theorem d_MSt_readRate_22 : decode MSt_readRate.2.2.1 22 = .ok (.aload_n 0, 1) := lkT_ok tk_MSt_readRate rfl
theorem d_MSt_readRate_23 : decode MSt_readRate.2.2.1 23 = .ok (.getfield 21, 3) := lkT_ok tk_MSt_readRate rfl
theorem d_MSt_readRate_26 : decode MSt_readRate.2.2.1 26 = .ok (.arraylength, 1) := lkT_ok tk_MSt_readRate rfl
theorem d_MSt_readRate_27 : decode MSt_readRate.2.2.1 27 = .ok (.if_icmp .lt 5, 3) := lkT_ok tk_MSt_readRate rfl
theorem d_MSt_readRate_30 : decode MSt_readRate.2.2.1 30 = .ok (.iconst 0, 1) := lkT_ok tk_MSt_readRate rfl
theorem d_MSt_readRate_31 : decode MSt_readRate.2.2.1 31 = .ok (.ireturn, 1) := lkT_ok tk_MSt_readRate rfl
theorem d_MSt_readRate_32 : decode MSt_readRate.2.2.1 32 = .ok (.iload 4, 2) := lkT_ok tk_MSt_readRate rfl
theorem d_MSt_readRate_34 : decode MSt_readRate.2.2.1 34 = .ok (.iload_n 2, 1) := lkT_ok tk_MSt_readRate rfl
theorem d_MSt_readRate_35 : decode MSt_readRate.2.2.1 35 = .ok (.invokestatic 62, 3) := lkT_ok tk_MSt_readRate rfl
theorem d_MSt_readRate_38 : decode MSt_readRate.2.2.1 38 = .ok (.if_icmp .le 10, 3) := lkT_ok tk_MSt_readRate rfl
theorem d_MSt_readRate_41 : decode MSt_readRate.2.2.1 41 = .ok (.aload_n 1, 1) := lkT_ok tk_MSt_readRate rfl
theorem d_MSt_readRate_42 : decode MSt_readRate.2.2.1 42 = .ok (.iload_n 3, 1) := lkT_ok tk_MSt_readRate rfl
theorem d_MSt_readRate_43 : decode MSt_readRate.2.2.1 43 = .ok (.putfield 56, 3) := lkT_ok tk_MSt_readRate rfl
theorem d_MSt_readRate_46 : decode MSt_readRate.2.2.1 46 = .ok (.iconst 0, 1) := lkT_ok tk_MSt_readRate rfl
theorem d_MSt_readRate_47 : decode MSt_readRate.2.2.1 47 = .ok (.ireturn, 1) := lkT_ok tk_MSt_readRate rfl
theorem d_MSt_readRate_48 : decode MSt_readRate.2.2.1 48 = .ok (.aload_n 0, 1) := lkT_ok tk_MSt_readRate rfl
theorem d_MSt_readRate_49 : decode MSt_readRate.2.2.1 49 = .ok (.getfield 21, 3) := lkT_ok tk_MSt_readRate rfl
theorem d_MSt_readRate_52 : decode MSt_readRate.2.2.1 52 = .ok (.iload_n 2, 1) := lkT_ok tk_MSt_readRate rfl
theorem d_MSt_readRate_53 : decode MSt_readRate.2.2.1 53 = .ok (.iload 4, 2) := lkT_ok tk_MSt_readRate rfl
theorem d_MSt_readRate_55 : decode MSt_readRate.2.2.1 55 = .ok (.iastore, 1) := lkT_ok tk_MSt_readRate rfl
theorem d_MSt_readRate_56 : decode MSt_readRate.2.2.1 56 = .ok (.iconst 1, 1) := lkT_ok tk_MSt_readRate rfl
theorem d_MSt_readRate_57 : decode MSt_readRate.2.2.1 57 = .ok (.ireturn, 1) := lkT_ok tk_MSt_readRate rfl
theorem r_MSt_readRate_0 {l0 l2 l3 l4 : Value} {x : Nat} : Rr X d MSt_readRate 0 [l0, .ref x, l2, l3, l4] st h = Rr X d MSt_readRate 1 [l0, .ref x, l2, l3, l4] (.ref x :: st) h := Rr_nx d_MSt_readRate_0 rfl
theorem r_MSt_readRate_0n {l0 l2 l3 l4 : Value} : Rr X d MSt_readRate 0 [l0, .null, l2, l3, l4] st h = Rr X d MSt_readRate 1 [l0, .null, l2, l3, l4] (.null :: st) h := Rr_nx d_MSt_readRate_0 rfl
theorem ff_7_56 : fF 7 56 = some (8, 2, 0, 0) := rfl
theorem r_MSt_readRate_1 {a : Nat} (hq : qI a 8 2 = true) : Rr X d MSt_readRate 1 L (.ref a :: st) (Wd mu la ro et) = Rr X d MSt_readRate 4 L (.int (mu a 2) :: st) (Wd mu la ro et) := R_gfI d_MSt_readRate_1 ff_7_56 hq
theorem r_MSt_readRate_4 {l0 l1 l2 l3 l4 : Value} {x : Int32} : Rr X d MSt_readRate 4 [l0, l1, l2, l3, l4] (.int x :: st) h = Rr X d MSt_readRate 5 (sL [l0, l1, l2, l3, l4] 3 (.int x)) st h := Rr_nx d_MSt_readRate_4 rfl
theorem r_MSt_readRate_5 {l0 l2 l3 l4 : Value} {x : Nat} : Rr X d MSt_readRate 5 [l0, .ref x, l2, l3, l4] st h = Rr X d MSt_readRate 6 [l0, .ref x, l2, l3, l4] (.ref x :: st) h := Rr_nx d_MSt_readRate_5 rfl
theorem r_MSt_readRate_5n {l0 l2 l3 l4 : Value} : Rr X d MSt_readRate 5 [l0, .null, l2, l3, l4] st h = Rr X d MSt_readRate 6 [l0, .null, l2, l3, l4] (.null :: st) h := Rr_nx d_MSt_readRate_5 rfl
theorem r_MSt_readRate_6 : Rr X d MSt_readRate 6 L st h = Rr X d MSt_readRate 7 L (.int (3) :: st) h := Rr_nx d_MSt_readRate_6 rfl
theorem fc_7_59 : fC 7 59 = some (0, 8, 1, MTa_number) := rfl
theorem r_MSt_readRate_7 {y0 : Int32} {a : Nat} (hO : qO a 8 = true) (hc : ckS st = true) : Rr X (d + 1) MSt_readRate 7 L (.int y0 :: .ref a :: st) (Wd mu la ro et) = (Rr X d MTa_number 0 [.ref a, .int y0, mkU, mkU, mkU, mkU] [] (Wd mu la ro et)).bind fun q => Rr X (d + 1) MSt_readRate 10 L (psh q.1 st) q.2 := R_iv (av := [.int y0]) d_MSt_readRate_7 fc_7_59 hO (ckS_le hc) rfl (Nat.le_of_ble_eq_true rfl) (Nat.le_of_ble_eq_true rfl)
theorem r_MSt_readRate_10 {l0 l1 l2 l3 l4 : Value} {x : Int32} : Rr X d MSt_readRate 10 [l0, l1, l2, l3, l4] (.int x :: st) h = Rr X d MSt_readRate 12 (sL [l0, l1, l2, l3, l4] 4 (.int x)) st h := Rr_nx d_MSt_readRate_10 rfl
theorem r_MSt_readRate_12 {l0 l1 l2 l3 : Value} {x : Int32} : Rr X d MSt_readRate 12 [l0, l1, l2, l3, .int x] st h = Rr X d MSt_readRate 14 [l0, l1, l2, l3, .int x] (.int x :: st) h := Rr_nx d_MSt_readRate_12 rfl
theorem r_MSt_readRate_14 {x : Int32} : Rr X d MSt_readRate 14 L (.int x :: st) h = if x < 0 then Rr X d MSt_readRate 30 L st h else Rr X d MSt_readRate 17 L st h := R_if_lt d_MSt_readRate_14 (by decide)
theorem r_MSt_readRate_17 {l0 l1 l3 l4 : Value} {x : Int32} : Rr X d MSt_readRate 17 [l0, l1, .int x, l3, l4] st h = Rr X d MSt_readRate 18 [l0, l1, .int x, l3, l4] (.int x :: st) h := Rr_nx d_MSt_readRate_17 rfl
theorem r_MSt_readRate_18 {x : Int32} : Rr X d MSt_readRate 18 L (.int x :: st) h = if x < 0 then Rr X d MSt_readRate 30 L st h else Rr X d MSt_readRate 21 L st h := R_if_lt d_MSt_readRate_18 (by decide)
theorem r_MSt_readRate_21 {l0 l1 l3 l4 : Value} {x : Int32} : Rr X d MSt_readRate 21 [l0, l1, .int x, l3, l4] st h = Rr X d MSt_readRate 22 [l0, l1, .int x, l3, l4] (.int x :: st) h := Rr_nx d_MSt_readRate_21 rfl
theorem r_MSt_readRate_22 {l1 l2 l3 l4 : Value} {x : Nat} : Rr X d MSt_readRate 22 [.ref x, l1, l2, l3, l4] st h = Rr X d MSt_readRate 23 [.ref x, l1, l2, l3, l4] (.ref x :: st) h := Rr_nx d_MSt_readRate_22 rfl
theorem r_MSt_readRate_23 {a : Nat} (hq : (qR a 7 3).isSome = true) : Rr X d MSt_readRate 23 L (.ref a :: st) (Wd mu la ro et) = Rr X d MSt_readRate 26 L (.ref (qRd a 7 3) :: st) (Wd mu la ro et) := R_gfR d_MSt_readRate_23 ff_7_21 hq
theorem r_MSt_readRate_26 {a : Nat} (hq : (qL a).isSome = true) : Rr X d MSt_readRate 26 L (.ref a :: st) (Wd mu la ro et) = Rr X d MSt_readRate 27 L (.int (Int32.ofNat (qLd a)) :: st) (Wd mu la ro et) := R_lenW d_MSt_readRate_26 hq
theorem r_MSt_readRate_27 {x y : Int32} : Rr X d MSt_readRate 27 L (.int y :: .int x :: st) h = if x < y then Rr X d MSt_readRate 32 L st h else Rr X d MSt_readRate 30 L st h := R_ic_lt d_MSt_readRate_27 (by decide)
theorem r_MSt_readRate_30 : Rr X d MSt_readRate 30 L st h = Rr X d MSt_readRate 31 L (.int (0) :: st) h := Rr_nx d_MSt_readRate_30 rfl
theorem r_MSt_readRate_31 {x : Int32} : Rr X d MSt_readRate 31 L [.int x] h = if x = 0 ∨ x = 1 then some (some (.int x), h) else none := R_zr d_MSt_readRate_31 rfl
theorem r_MSt_readRate_32 {l0 l1 l2 l3 : Value} {x : Int32} : Rr X d MSt_readRate 32 [l0, l1, l2, l3, .int x] st h = Rr X d MSt_readRate 34 [l0, l1, l2, l3, .int x] (.int x :: st) h := Rr_nx d_MSt_readRate_32 rfl
theorem r_MSt_readRate_34 {l0 l1 l3 l4 : Value} {x : Int32} : Rr X d MSt_readRate 34 [l0, l1, .int x, l3, l4] st h = Rr X d MSt_readRate 35 [l0, l1, .int x, l3, l4] (.int x :: st) h := Rr_nx d_MSt_readRate_34 rfl
theorem fc_7_62 : fC 7 62 = some (1, 0, 1, MSt_mostRate) := rfl
theorem r_MSt_readRate_35 {y0 : Int32} (hc : ckS st = true) : Rr X (d + 1) MSt_readRate 35 L (.int y0 :: st) h = (Rr X d MSt_mostRate 0 [.int y0] [] h).bind fun q => Rr X (d + 1) MSt_readRate 38 L (psh q.1 st) q.2 := R_is (av := [.int y0]) d_MSt_readRate_35 (Or.inl fc_7_62) (ckS_le hc) rfl (Nat.le_of_ble_eq_true rfl) (Nat.le_of_ble_eq_true rfl)
theorem r_MSt_readRate_38 {x y : Int32} : Rr X d MSt_readRate 38 L (.int y :: .int x :: st) h = if x ≤ y then Rr X d MSt_readRate 48 L st h else Rr X d MSt_readRate 41 L st h := R_ic_le d_MSt_readRate_38 (by decide)
theorem r_MSt_readRate_41 {l0 l2 l3 l4 : Value} {x : Nat} : Rr X d MSt_readRate 41 [l0, .ref x, l2, l3, l4] st h = Rr X d MSt_readRate 42 [l0, .ref x, l2, l3, l4] (.ref x :: st) h := Rr_nx d_MSt_readRate_41 rfl
theorem r_MSt_readRate_41n {l0 l2 l3 l4 : Value} : Rr X d MSt_readRate 41 [l0, .null, l2, l3, l4] st h = Rr X d MSt_readRate 42 [l0, .null, l2, l3, l4] (.null :: st) h := Rr_nx d_MSt_readRate_41 rfl
theorem r_MSt_readRate_42 {l0 l1 l2 l4 : Value} {x : Int32} : Rr X d MSt_readRate 42 [l0, l1, l2, .int x, l4] st h = Rr X d MSt_readRate 43 [l0, l1, l2, .int x, l4] (.int x :: st) h := Rr_nx d_MSt_readRate_42 rfl
theorem r_MSt_readRate_43 {a : Nat} {x : Int32} (hq : qI a 8 2 = true) : Rr X d MSt_readRate 43 L (.int x :: .ref a :: st) (Wd mu la ro et) = Rr X d MSt_readRate 46 L st (Wd (up2 mu a 2 x) la ro et) := R_pfI d_MSt_readRate_43 ff_7_56 hq
theorem r_MSt_readRate_46 : Rr X d MSt_readRate 46 L st h = Rr X d MSt_readRate 47 L (.int (0) :: st) h := Rr_nx d_MSt_readRate_46 rfl
theorem r_MSt_readRate_47 {x : Int32} : Rr X d MSt_readRate 47 L [.int x] h = if x = 0 ∨ x = 1 then some (some (.int x), h) else none := R_zr d_MSt_readRate_47 rfl
theorem r_MSt_readRate_48 {l1 l2 l3 l4 : Value} {x : Nat} : Rr X d MSt_readRate 48 [.ref x, l1, l2, l3, l4] st h = Rr X d MSt_readRate 49 [.ref x, l1, l2, l3, l4] (.ref x :: st) h := Rr_nx d_MSt_readRate_48 rfl
theorem r_MSt_readRate_49 {a : Nat} (hq : (qR a 7 3).isSome = true) : Rr X d MSt_readRate 49 L (.ref a :: st) (Wd mu la ro et) = Rr X d MSt_readRate 52 L (.ref (qRd a 7 3) :: st) (Wd mu la ro et) := R_gfR d_MSt_readRate_49 ff_7_21 hq
theorem r_MSt_readRate_52 {l0 l1 l3 l4 : Value} {x : Int32} : Rr X d MSt_readRate 52 [l0, l1, .int x, l3, l4] st h = Rr X d MSt_readRate 53 [l0, l1, .int x, l3, l4] (.int x :: st) h := Rr_nx d_MSt_readRate_52 rfl
theorem r_MSt_readRate_53 {l0 l1 l2 l3 : Value} {x : Int32} : Rr X d MSt_readRate 53 [l0, l1, l2, l3, .int x] st h = Rr X d MSt_readRate 55 [l0, l1, l2, l3, .int x] (.int x :: st) h := Rr_nx d_MSt_readRate_53 rfl
theorem r_MSt_readRate_55 {a : Nat} {j x : Int32} (hq : (qA a 0).isSome = true) : Rr X d MSt_readRate 55 L (.int x :: .int j :: .ref a :: st) (Wd mu la ro et) = if j < 0 ∨ qAd a 0 ≤ j.toNatClampNeg then none else Rr X d MSt_readRate 56 L st (Wd (up2 mu a j.toNatClampNeg (x)) la ro et) := R_iasW d_MSt_readRate_55 hq
theorem r_MSt_readRate_56 : Rr X d MSt_readRate 56 L st h = Rr X d MSt_readRate 57 L (.int (1) :: st) h := Rr_nx d_MSt_readRate_56 rfl
theorem r_MSt_readRate_57 {x : Int32} : Rr X d MSt_readRate 57 L [.int x] h = if x = 0 ∨ x = 1 then some (some (.int x), h) else none := R_zr d_MSt_readRate_57 rfl
theorem d_MSt_mostRate_0 : decode MSt_mostRate.2.2.1 0 = .ok (.iload_n 0, 1) := lkT_ok tk_MSt_mostRate rfl
theorem d_MSt_mostRate_1 : decode MSt_mostRate.2.2.1 1 = .ok (.iconst 2, 1) := lkT_ok tk_MSt_mostRate rfl
theorem d_MSt_mostRate_2 : decode MSt_mostRate.2.2.1 2 = .ok (.if_icmp .ge 9, 3) := lkT_ok tk_MSt_mostRate rfl
theorem d_MSt_mostRate_5 : decode MSt_mostRate.2.2.1 5 = .ok (.sipush 999, 3) := lkT_ok tk_MSt_mostRate rfl
theorem d_MSt_mostRate_8 : decode MSt_mostRate.2.2.1 8 = .ok (.goto 5, 3) := lkT_ok tk_MSt_mostRate rfl
theorem d_MSt_mostRate_11 : decode MSt_mostRate.2.2.1 11 = .ok (.bipush 100, 2) := lkT_ok tk_MSt_mostRate rfl
theorem d_MSt_mostRate_13 : decode MSt_mostRate.2.2.1 13 = .ok (.ireturn, 1) := lkT_ok tk_MSt_mostRate rfl
theorem r_MSt_mostRate_0 {x : Int32} : Rr X d MSt_mostRate 0 [.int x] st h = Rr X d MSt_mostRate 1 [.int x] (.int x :: st) h := Rr_nx d_MSt_mostRate_0 rfl
theorem r_MSt_mostRate_1 : Rr X d MSt_mostRate 1 L st h = Rr X d MSt_mostRate 2 L (.int (2) :: st) h := Rr_nx d_MSt_mostRate_1 rfl
theorem r_MSt_mostRate_2 {x y : Int32} : Rr X d MSt_mostRate 2 L (.int y :: .int x :: st) h = if y ≤ x then Rr X d MSt_mostRate 11 L st h else Rr X d MSt_mostRate 5 L st h := R_ic_ge d_MSt_mostRate_2 (by decide)
theorem r_MSt_mostRate_5 : Rr X d MSt_mostRate 5 L st h = Rr X d MSt_mostRate 8 L (.int (999) :: st) h := Rr_nx d_MSt_mostRate_5 rfl
theorem r_MSt_mostRate_8 : Rr X d MSt_mostRate 8 L st h = Rr X d MSt_mostRate 13 L st h := R_goto d_MSt_mostRate_8 (by decide)
theorem r_MSt_mostRate_11 : Rr X d MSt_mostRate 11 L st h = Rr X d MSt_mostRate 13 L (.int (100) :: st) h := Rr_nx d_MSt_mostRate_11 rfl
theorem r_MSt_mostRate_13 {x : Int32} : Rr X d MSt_mostRate 13 L [.int x] h = some (some (.int x), h) := R_ir d_MSt_mostRate_13 rfl
theorem d_MSt_weigh_0 : decode MSt_weigh.2.2.1 0 = .ok (.aload_n 0, 1) := lkT_ok tk_MSt_weigh rfl
theorem d_MSt_weigh_1 : decode MSt_weigh.2.2.1 1 = .ok (.iconst 0, 1) := lkT_ok tk_MSt_weigh rfl
theorem d_MSt_weigh_2 : decode MSt_weigh.2.2.1 2 = .ok (.putfield 65, 3) := lkT_ok tk_MSt_weigh rfl
theorem d_MSt_weigh_5 : decode MSt_weigh.2.2.1 5 = .ok (.aload_n 0, 1) := lkT_ok tk_MSt_weigh rfl
theorem d_MSt_weigh_6 : decode MSt_weigh.2.2.1 6 = .ok (.iconst 0, 1) := lkT_ok tk_MSt_weigh rfl
theorem d_MSt_weigh_7 : decode MSt_weigh.2.2.1 7 = .ok (.putfield 68, 3) := lkT_ok tk_MSt_weigh rfl
theorem d_MSt_weigh_10 : decode MSt_weigh.2.2.1 10 = .ok (.aload_n 0, 1) := lkT_ok tk_MSt_weigh rfl
theorem d_MSt_weigh_11 : decode MSt_weigh.2.2.1 11 = .ok (.iconst 0, 1) := lkT_ok tk_MSt_weigh rfl
theorem d_MSt_weigh_12 : decode MSt_weigh.2.2.1 12 = .ok (.putfield 71, 3) := lkT_ok tk_MSt_weigh rfl
theorem d_MSt_weigh_15 : decode MSt_weigh.2.2.1 15 = .ok (.aload_n 0, 1) := lkT_ok tk_MSt_weigh rfl
theorem d_MSt_weigh_16 : decode MSt_weigh.2.2.1 16 = .ok (.iconst 0, 1) := lkT_ok tk_MSt_weigh rfl
theorem d_MSt_weigh_17 : decode MSt_weigh.2.2.1 17 = .ok (.putfield 74, 3) := lkT_ok tk_MSt_weigh rfl
theorem d_MSt_weigh_20 : decode MSt_weigh.2.2.1 20 = .ok (.aload_n 0, 1) := lkT_ok tk_MSt_weigh rfl
theorem d_MSt_weigh_21 : decode MSt_weigh.2.2.1 21 = .ok (.iconst 0, 1) := lkT_ok tk_MSt_weigh rfl
theorem d_MSt_weigh_22 : decode MSt_weigh.2.2.1 22 = .ok (.putfield 77, 3) := lkT_ok tk_MSt_weigh rfl
theorem d_MSt_weigh_25 : decode MSt_weigh.2.2.1 25 = .ok (.aload_n 0, 1) := lkT_ok tk_MSt_weigh rfl
theorem d_MSt_weigh_26 : decode MSt_weigh.2.2.1 26 = .ok (.iconst 0, 1) := lkT_ok tk_MSt_weigh rfl
theorem d_MSt_weigh_27 : decode MSt_weigh.2.2.1 27 = .ok (.putfield 80, 3) := lkT_ok tk_MSt_weigh rfl
theorem d_MSt_weigh_30 : decode MSt_weigh.2.2.1 30 = .ok (.iconst 0, 1) := lkT_ok tk_MSt_weigh rfl
theorem d_MSt_weigh_31 : decode MSt_weigh.2.2.1 31 = .ok (.istore_n 1, 1) := lkT_ok tk_MSt_weigh rfl
theorem d_MSt_weigh_32 : decode MSt_weigh.2.2.1 32 = .ok (.iload_n 1, 1) := lkT_ok tk_MSt_weigh rfl
theorem d_MSt_weigh_33 : decode MSt_weigh.2.2.1 33 = .ok (.aload_n 0, 1) := lkT_ok tk_MSt_weigh rfl
theorem d_MSt_weigh_34 : decode MSt_weigh.2.2.1 34 = .ok (.getfield 24, 3) := lkT_ok tk_MSt_weigh rfl
theorem d_MSt_weigh_37 : decode MSt_weigh.2.2.1 37 = .ok (.if_icmp .ge 117, 3) := lkT_ok tk_MSt_weigh rfl
theorem d_MSt_weigh_40 : decode MSt_weigh.2.2.1 40 = .ok (.iload_n 1, 1) := lkT_ok tk_MSt_weigh rfl
theorem d_MSt_weigh_41 : decode MSt_weigh.2.2.1 41 = .ok (.bipush 12, 2) := lkT_ok tk_MSt_weigh rfl
theorem d_MSt_weigh_43 : decode MSt_weigh.2.2.1 43 = .ok (.if_icmp .ge 111, 3) := lkT_ok tk_MSt_weigh rfl
theorem d_MSt_weigh_46 : decode MSt_weigh.2.2.1 46 = .ok (.aload_n 0, 1) := lkT_ok tk_MSt_weigh rfl
theorem d_MSt_weigh_47 : decode MSt_weigh.2.2.1 47 = .ok (.getfield 11, 3) := lkT_ok tk_MSt_weigh rfl
theorem d_MSt_weigh_50 : decode MSt_weigh.2.2.1 50 = .ok (.iload_n 1, 1) := lkT_ok tk_MSt_weigh rfl
theorem d_MSt_weigh_51 : decode MSt_weigh.2.2.1 51 = .ok (.iaload, 1) := lkT_ok tk_MSt_weigh rfl
theorem d_MSt_weigh_52 : decode MSt_weigh.2.2.1 52 = .ok (.istore_n 2, 1) := lkT_ok tk_MSt_weigh rfl
theorem d_MSt_weigh_53 : decode MSt_weigh.2.2.1 53 = .ok (.aload_n 0, 1) := lkT_ok tk_MSt_weigh rfl
theorem d_MSt_weigh_54 : decode MSt_weigh.2.2.1 54 = .ok (.getfield 15, 3) := lkT_ok tk_MSt_weigh rfl
theorem d_MSt_weigh_57 : decode MSt_weigh.2.2.1 57 = .ok (.iload_n 1, 1) := lkT_ok tk_MSt_weigh rfl
theorem d_MSt_weigh_58 : decode MSt_weigh.2.2.1 58 = .ok (.iaload, 1) := lkT_ok tk_MSt_weigh rfl
theorem d_MSt_weigh_59 : decode MSt_weigh.2.2.1 59 = .ok (.istore_n 3, 1) := lkT_ok tk_MSt_weigh rfl
theorem d_MSt_weigh_60 : decode MSt_weigh.2.2.1 60 = .ok (.aload_n 0, 1) := lkT_ok tk_MSt_weigh rfl
theorem d_MSt_weigh_61 : decode MSt_weigh.2.2.1 61 = .ok (.getfield 18, 3) := lkT_ok tk_MSt_weigh rfl
theorem d_MSt_weigh_64 : decode MSt_weigh.2.2.1 64 = .ok (.iload_n 1, 1) := lkT_ok tk_MSt_weigh rfl
theorem d_MSt_weigh_65 : decode MSt_weigh.2.2.1 65 = .ok (.iaload, 1) := lkT_ok tk_MSt_weigh rfl
theorem d_MSt_weigh_66 : decode MSt_weigh.2.2.1 66 = .ok (.istore 4, 2) := lkT_ok tk_MSt_weigh rfl
theorem d_MSt_weigh_68 : decode MSt_weigh.2.2.1 68 = .ok (.aload_n 0, 1) := lkT_ok tk_MSt_weigh rfl
theorem d_MSt_weigh_69 : decode MSt_weigh.2.2.1 69 = .ok (.dup, 1) := lkT_ok tk_MSt_weigh rfl
theorem d_MSt_weigh_70 : decode MSt_weigh.2.2.1 70 = .ok (.getfield 65, 3) := lkT_ok tk_MSt_weigh rfl
theorem d_MSt_weigh_73 : decode MSt_weigh.2.2.1 73 = .ok (.iload_n 2, 1) := lkT_ok tk_MSt_weigh rfl
theorem d_MSt_weigh_74 : decode MSt_weigh.2.2.1 74 = .ok (.iadd, 1) := lkT_ok tk_MSt_weigh rfl
theorem d_MSt_weigh_75 : decode MSt_weigh.2.2.1 75 = .ok (.putfield 65, 3) := lkT_ok tk_MSt_weigh rfl
theorem d_MSt_weigh_78 : decode MSt_weigh.2.2.1 78 = .ok (.aload_n 0, 1) := lkT_ok tk_MSt_weigh rfl
theorem d_MSt_weigh_79 : decode MSt_weigh.2.2.1 79 = .ok (.dup, 1) := lkT_ok tk_MSt_weigh rfl
theorem d_MSt_weigh_80 : decode MSt_weigh.2.2.1 80 = .ok (.getfield 68, 3) := lkT_ok tk_MSt_weigh rfl
theorem d_MSt_weigh_83 : decode MSt_weigh.2.2.1 83 = .ok (.iload_n 2, 1) := lkT_ok tk_MSt_weigh rfl
theorem d_MSt_weigh_84 : decode MSt_weigh.2.2.1 84 = .ok (.iload_n 3, 1) := lkT_ok tk_MSt_weigh rfl
theorem d_MSt_weigh_85 : decode MSt_weigh.2.2.1 85 = .ok (.imul, 1) := lkT_ok tk_MSt_weigh rfl
theorem d_MSt_weigh_86 : decode MSt_weigh.2.2.1 86 = .ok (.iadd, 1) := lkT_ok tk_MSt_weigh rfl
theorem d_MSt_weigh_87 : decode MSt_weigh.2.2.1 87 = .ok (.putfield 68, 3) := lkT_ok tk_MSt_weigh rfl
theorem d_MSt_weigh_90 : decode MSt_weigh.2.2.1 90 = .ok (.aload_n 0, 1) := lkT_ok tk_MSt_weigh rfl
theorem d_MSt_weigh_91 : decode MSt_weigh.2.2.1 91 = .ok (.dup, 1) := lkT_ok tk_MSt_weigh rfl
theorem d_MSt_weigh_92 : decode MSt_weigh.2.2.1 92 = .ok (.getfield 71, 3) := lkT_ok tk_MSt_weigh rfl
theorem d_MSt_weigh_95 : decode MSt_weigh.2.2.1 95 = .ok (.iload_n 2, 1) := lkT_ok tk_MSt_weigh rfl
theorem d_MSt_weigh_96 : decode MSt_weigh.2.2.1 96 = .ok (.iload 4, 2) := lkT_ok tk_MSt_weigh rfl
theorem d_MSt_weigh_98 : decode MSt_weigh.2.2.1 98 = .ok (.imul, 1) := lkT_ok tk_MSt_weigh rfl
theorem d_MSt_weigh_99 : decode MSt_weigh.2.2.1 99 = .ok (.iadd, 1) := lkT_ok tk_MSt_weigh rfl
theorem d_MSt_weigh_100 : decode MSt_weigh.2.2.1 100 = .ok (.putfield 71, 3) := lkT_ok tk_MSt_weigh rfl
theorem d_MSt_weigh_103 : decode MSt_weigh.2.2.1 103 = .ok (.aload_n 0, 1) := lkT_ok tk_MSt_weigh rfl
theorem d_MSt_weigh_104 : decode MSt_weigh.2.2.1 104 = .ok (.dup, 1) := lkT_ok tk_MSt_weigh rfl
theorem d_MSt_weigh_105 : decode MSt_weigh.2.2.1 105 = .ok (.getfield 74, 3) := lkT_ok tk_MSt_weigh rfl
theorem d_MSt_weigh_108 : decode MSt_weigh.2.2.1 108 = .ok (.iload_n 2, 1) := lkT_ok tk_MSt_weigh rfl
theorem d_MSt_weigh_109 : decode MSt_weigh.2.2.1 109 = .ok (.iload_n 3, 1) := lkT_ok tk_MSt_weigh rfl
theorem d_MSt_weigh_110 : decode MSt_weigh.2.2.1 110 = .ok (.imul, 1) := lkT_ok tk_MSt_weigh rfl
theorem d_MSt_weigh_111 : decode MSt_weigh.2.2.1 111 = .ok (.iload_n 3, 1) := lkT_ok tk_MSt_weigh rfl
theorem d_MSt_weigh_112 : decode MSt_weigh.2.2.1 112 = .ok (.imul, 1) := lkT_ok tk_MSt_weigh rfl
theorem d_MSt_weigh_113 : decode MSt_weigh.2.2.1 113 = .ok (.iadd, 1) := lkT_ok tk_MSt_weigh rfl
theorem d_MSt_weigh_114 : decode MSt_weigh.2.2.1 114 = .ok (.putfield 74, 3) := lkT_ok tk_MSt_weigh rfl
theorem d_MSt_weigh_117 : decode MSt_weigh.2.2.1 117 = .ok (.aload_n 0, 1) := lkT_ok tk_MSt_weigh rfl
theorem d_MSt_weigh_118 : decode MSt_weigh.2.2.1 118 = .ok (.dup, 1) := lkT_ok tk_MSt_weigh rfl
theorem d_MSt_weigh_119 : decode MSt_weigh.2.2.1 119 = .ok (.getfield 77, 3) := lkT_ok tk_MSt_weigh rfl
theorem d_MSt_weigh_122 : decode MSt_weigh.2.2.1 122 = .ok (.iload_n 2, 1) := lkT_ok tk_MSt_weigh rfl
theorem d_MSt_weigh_123 : decode MSt_weigh.2.2.1 123 = .ok (.iload 4, 2) := lkT_ok tk_MSt_weigh rfl
theorem d_MSt_weigh_125 : decode MSt_weigh.2.2.1 125 = .ok (.imul, 1) := lkT_ok tk_MSt_weigh rfl
theorem d_MSt_weigh_126 : decode MSt_weigh.2.2.1 126 = .ok (.iload 4, 2) := lkT_ok tk_MSt_weigh rfl
theorem d_MSt_weigh_128 : decode MSt_weigh.2.2.1 128 = .ok (.imul, 1) := lkT_ok tk_MSt_weigh rfl
theorem d_MSt_weigh_129 : decode MSt_weigh.2.2.1 129 = .ok (.iadd, 1) := lkT_ok tk_MSt_weigh rfl
theorem d_MSt_weigh_130 : decode MSt_weigh.2.2.1 130 = .ok (.putfield 77, 3) := lkT_ok tk_MSt_weigh rfl
theorem d_MSt_weigh_133 : decode MSt_weigh.2.2.1 133 = .ok (.aload_n 0, 1) := lkT_ok tk_MSt_weigh rfl
theorem d_MSt_weigh_134 : decode MSt_weigh.2.2.1 134 = .ok (.dup, 1) := lkT_ok tk_MSt_weigh rfl
theorem d_MSt_weigh_135 : decode MSt_weigh.2.2.1 135 = .ok (.getfield 80, 3) := lkT_ok tk_MSt_weigh rfl
theorem d_MSt_weigh_138 : decode MSt_weigh.2.2.1 138 = .ok (.iload_n 2, 1) := lkT_ok tk_MSt_weigh rfl
theorem d_MSt_weigh_139 : decode MSt_weigh.2.2.1 139 = .ok (.iload_n 3, 1) := lkT_ok tk_MSt_weigh rfl
theorem d_MSt_weigh_140 : decode MSt_weigh.2.2.1 140 = .ok (.imul, 1) := lkT_ok tk_MSt_weigh rfl
theorem d_MSt_weigh_141 : decode MSt_weigh.2.2.1 141 = .ok (.iload 4, 2) := lkT_ok tk_MSt_weigh rfl
theorem d_MSt_weigh_143 : decode MSt_weigh.2.2.1 143 = .ok (.imul, 1) := lkT_ok tk_MSt_weigh rfl
theorem d_MSt_weigh_144 : decode MSt_weigh.2.2.1 144 = .ok (.iadd, 1) := lkT_ok tk_MSt_weigh rfl
theorem d_MSt_weigh_145 : decode MSt_weigh.2.2.1 145 = .ok (.putfield 80, 3) := lkT_ok tk_MSt_weigh rfl
theorem d_MSt_weigh_148 : decode MSt_weigh.2.2.1 148 = .ok (.iinc 1 1, 3) := lkT_ok tk_MSt_weigh rfl
theorem d_MSt_weigh_151 : decode MSt_weigh.2.2.1 151 = .ok (.goto (-119), 3) := lkT_ok tk_MSt_weigh rfl
theorem d_MSt_weigh_154 : decode MSt_weigh.2.2.1 154 = .ok (.return_, 1) := lkT_ok tk_MSt_weigh rfl
theorem r_MSt_weigh_0 {l1 l2 l3 l4 : Value} {x : Nat} : Rr X d MSt_weigh 0 [.ref x, l1, l2, l3, l4] st h = Rr X d MSt_weigh 1 [.ref x, l1, l2, l3, l4] (.ref x :: st) h := Rr_nx d_MSt_weigh_0 rfl
theorem r_MSt_weigh_1 : Rr X d MSt_weigh 1 L st h = Rr X d MSt_weigh 2 L (.int (0) :: st) h := Rr_nx d_MSt_weigh_1 rfl
theorem ff_7_65 : fF 7 65 = some (7, 5, 0, 0) := rfl
theorem r_MSt_weigh_2 {a : Nat} {x : Int32} (hq : qI a 7 5 = true) : Rr X d MSt_weigh 2 L (.int x :: .ref a :: st) (Wd mu la ro et) = Rr X d MSt_weigh 5 L st (Wd (up2 mu a 5 x) la ro et) := R_pfI d_MSt_weigh_2 ff_7_65 hq
theorem r_MSt_weigh_5 {l1 l2 l3 l4 : Value} {x : Nat} : Rr X d MSt_weigh 5 [.ref x, l1, l2, l3, l4] st h = Rr X d MSt_weigh 6 [.ref x, l1, l2, l3, l4] (.ref x :: st) h := Rr_nx d_MSt_weigh_5 rfl
theorem r_MSt_weigh_6 : Rr X d MSt_weigh 6 L st h = Rr X d MSt_weigh 7 L (.int (0) :: st) h := Rr_nx d_MSt_weigh_6 rfl
theorem ff_7_68 : fF 7 68 = some (7, 6, 0, 0) := rfl
theorem r_MSt_weigh_7 {a : Nat} {x : Int32} (hq : qI a 7 6 = true) : Rr X d MSt_weigh 7 L (.int x :: .ref a :: st) (Wd mu la ro et) = Rr X d MSt_weigh 10 L st (Wd (up2 mu a 6 x) la ro et) := R_pfI d_MSt_weigh_7 ff_7_68 hq
theorem r_MSt_weigh_10 {l1 l2 l3 l4 : Value} {x : Nat} : Rr X d MSt_weigh 10 [.ref x, l1, l2, l3, l4] st h = Rr X d MSt_weigh 11 [.ref x, l1, l2, l3, l4] (.ref x :: st) h := Rr_nx d_MSt_weigh_10 rfl
theorem r_MSt_weigh_11 : Rr X d MSt_weigh 11 L st h = Rr X d MSt_weigh 12 L (.int (0) :: st) h := Rr_nx d_MSt_weigh_11 rfl
theorem ff_7_71 : fF 7 71 = some (7, 7, 0, 0) := rfl
theorem r_MSt_weigh_12 {a : Nat} {x : Int32} (hq : qI a 7 7 = true) : Rr X d MSt_weigh 12 L (.int x :: .ref a :: st) (Wd mu la ro et) = Rr X d MSt_weigh 15 L st (Wd (up2 mu a 7 x) la ro et) := R_pfI d_MSt_weigh_12 ff_7_71 hq
theorem r_MSt_weigh_15 {l1 l2 l3 l4 : Value} {x : Nat} : Rr X d MSt_weigh 15 [.ref x, l1, l2, l3, l4] st h = Rr X d MSt_weigh 16 [.ref x, l1, l2, l3, l4] (.ref x :: st) h := Rr_nx d_MSt_weigh_15 rfl
theorem r_MSt_weigh_16 : Rr X d MSt_weigh 16 L st h = Rr X d MSt_weigh 17 L (.int (0) :: st) h := Rr_nx d_MSt_weigh_16 rfl
theorem ff_7_74 : fF 7 74 = some (7, 8, 0, 0) := rfl
theorem r_MSt_weigh_17 {a : Nat} {x : Int32} (hq : qI a 7 8 = true) : Rr X d MSt_weigh 17 L (.int x :: .ref a :: st) (Wd mu la ro et) = Rr X d MSt_weigh 20 L st (Wd (up2 mu a 8 x) la ro et) := R_pfI d_MSt_weigh_17 ff_7_74 hq
theorem r_MSt_weigh_20 {l1 l2 l3 l4 : Value} {x : Nat} : Rr X d MSt_weigh 20 [.ref x, l1, l2, l3, l4] st h = Rr X d MSt_weigh 21 [.ref x, l1, l2, l3, l4] (.ref x :: st) h := Rr_nx d_MSt_weigh_20 rfl
theorem r_MSt_weigh_21 : Rr X d MSt_weigh 21 L st h = Rr X d MSt_weigh 22 L (.int (0) :: st) h := Rr_nx d_MSt_weigh_21 rfl
theorem ff_7_77 : fF 7 77 = some (7, 9, 0, 0) := rfl
theorem r_MSt_weigh_22 {a : Nat} {x : Int32} (hq : qI a 7 9 = true) : Rr X d MSt_weigh 22 L (.int x :: .ref a :: st) (Wd mu la ro et) = Rr X d MSt_weigh 25 L st (Wd (up2 mu a 9 x) la ro et) := R_pfI d_MSt_weigh_22 ff_7_77 hq
theorem r_MSt_weigh_25 {l1 l2 l3 l4 : Value} {x : Nat} : Rr X d MSt_weigh 25 [.ref x, l1, l2, l3, l4] st h = Rr X d MSt_weigh 26 [.ref x, l1, l2, l3, l4] (.ref x :: st) h := Rr_nx d_MSt_weigh_25 rfl
theorem r_MSt_weigh_26 : Rr X d MSt_weigh 26 L st h = Rr X d MSt_weigh 27 L (.int (0) :: st) h := Rr_nx d_MSt_weigh_26 rfl
theorem ff_7_80 : fF 7 80 = some (7, 10, 0, 0) := rfl
theorem r_MSt_weigh_27 {a : Nat} {x : Int32} (hq : qI a 7 10 = true) : Rr X d MSt_weigh 27 L (.int x :: .ref a :: st) (Wd mu la ro et) = Rr X d MSt_weigh 30 L st (Wd (up2 mu a 10 x) la ro et) := R_pfI d_MSt_weigh_27 ff_7_80 hq
theorem r_MSt_weigh_30 : Rr X d MSt_weigh 30 L st h = Rr X d MSt_weigh 31 L (.int (0) :: st) h := Rr_nx d_MSt_weigh_30 rfl
theorem r_MSt_weigh_31 {l0 l1 l2 l3 l4 : Value} {x : Int32} : Rr X d MSt_weigh 31 [l0, l1, l2, l3, l4] (.int x :: st) h = Rr X d MSt_weigh 32 (sL [l0, l1, l2, l3, l4] 1 (.int x)) st h := Rr_nx d_MSt_weigh_31 rfl
theorem r_MSt_weigh_32 {l0 l2 l3 l4 : Value} {x : Int32} : Rr X d MSt_weigh 32 [l0, .int x, l2, l3, l4] st h = Rr X d MSt_weigh 33 [l0, .int x, l2, l3, l4] (.int x :: st) h := Rr_nx d_MSt_weigh_32 rfl
theorem r_MSt_weigh_33 {l1 l2 l3 l4 : Value} {x : Nat} : Rr X d MSt_weigh 33 [.ref x, l1, l2, l3, l4] st h = Rr X d MSt_weigh 34 [.ref x, l1, l2, l3, l4] (.ref x :: st) h := Rr_nx d_MSt_weigh_33 rfl
theorem r_MSt_weigh_34 {a : Nat} (hq : qI a 7 4 = true) : Rr X d MSt_weigh 34 L (.ref a :: st) (Wd mu la ro et) = Rr X d MSt_weigh 37 L (.int (mu a 4) :: st) (Wd mu la ro et) := R_gfI d_MSt_weigh_34 ff_7_24 hq
theorem r_MSt_weigh_37 {x y : Int32} : Rr X d MSt_weigh 37 L (.int y :: .int x :: st) h = if y ≤ x then Rr X d MSt_weigh 154 L st h else Rr X d MSt_weigh 40 L st h := R_ic_ge d_MSt_weigh_37 (by decide)
theorem r_MSt_weigh_40 {l0 l2 l3 l4 : Value} {x : Int32} : Rr X d MSt_weigh 40 [l0, .int x, l2, l3, l4] st h = Rr X d MSt_weigh 41 [l0, .int x, l2, l3, l4] (.int x :: st) h := Rr_nx d_MSt_weigh_40 rfl
theorem r_MSt_weigh_41 : Rr X d MSt_weigh 41 L st h = Rr X d MSt_weigh 43 L (.int (12) :: st) h := Rr_nx d_MSt_weigh_41 rfl
theorem r_MSt_weigh_43 {x y : Int32} : Rr X d MSt_weigh 43 L (.int y :: .int x :: st) h = if y ≤ x then Rr X d MSt_weigh 154 L st h else Rr X d MSt_weigh 46 L st h := R_ic_ge d_MSt_weigh_43 (by decide)
theorem r_MSt_weigh_46 {l1 l2 l3 l4 : Value} {x : Nat} : Rr X d MSt_weigh 46 [.ref x, l1, l2, l3, l4] st h = Rr X d MSt_weigh 47 [.ref x, l1, l2, l3, l4] (.ref x :: st) h := Rr_nx d_MSt_weigh_46 rfl
theorem r_MSt_weigh_47 {a : Nat} (hq : (qR a 7 0).isSome = true) : Rr X d MSt_weigh 47 L (.ref a :: st) (Wd mu la ro et) = Rr X d MSt_weigh 50 L (.ref (qRd a 7 0) :: st) (Wd mu la ro et) := R_gfR d_MSt_weigh_47 ff_7_11 hq
theorem r_MSt_weigh_50 {l0 l2 l3 l4 : Value} {x : Int32} : Rr X d MSt_weigh 50 [l0, .int x, l2, l3, l4] st h = Rr X d MSt_weigh 51 [l0, .int x, l2, l3, l4] (.int x :: st) h := Rr_nx d_MSt_weigh_50 rfl
theorem r_MSt_weigh_51 {a : Nat} {j : Int32} (hq : (qA a 0).isSome = true) : Rr X d MSt_weigh 51 L (.int j :: .ref a :: st) (Wd mu la ro et) = if j < 0 ∨ qAd a 0 ≤ j.toNatClampNeg then none else Rr X d MSt_weigh 52 L (.int (mu a j.toNatClampNeg) :: st) (Wd mu la ro et) := R_ialW d_MSt_weigh_51 hq
theorem r_MSt_weigh_52 {l0 l1 l2 l3 l4 : Value} {x : Int32} : Rr X d MSt_weigh 52 [l0, l1, l2, l3, l4] (.int x :: st) h = Rr X d MSt_weigh 53 (sL [l0, l1, l2, l3, l4] 2 (.int x)) st h := Rr_nx d_MSt_weigh_52 rfl
theorem r_MSt_weigh_53 {l1 l2 l3 l4 : Value} {x : Nat} : Rr X d MSt_weigh 53 [.ref x, l1, l2, l3, l4] st h = Rr X d MSt_weigh 54 [.ref x, l1, l2, l3, l4] (.ref x :: st) h := Rr_nx d_MSt_weigh_53 rfl
theorem r_MSt_weigh_54 {a : Nat} (hq : (qR a 7 1).isSome = true) : Rr X d MSt_weigh 54 L (.ref a :: st) (Wd mu la ro et) = Rr X d MSt_weigh 57 L (.ref (qRd a 7 1) :: st) (Wd mu la ro et) := R_gfR d_MSt_weigh_54 ff_7_15 hq
theorem r_MSt_weigh_57 {l0 l2 l3 l4 : Value} {x : Int32} : Rr X d MSt_weigh 57 [l0, .int x, l2, l3, l4] st h = Rr X d MSt_weigh 58 [l0, .int x, l2, l3, l4] (.int x :: st) h := Rr_nx d_MSt_weigh_57 rfl
theorem r_MSt_weigh_58 {a : Nat} {j : Int32} (hq : (qA a 0).isSome = true) : Rr X d MSt_weigh 58 L (.int j :: .ref a :: st) (Wd mu la ro et) = if j < 0 ∨ qAd a 0 ≤ j.toNatClampNeg then none else Rr X d MSt_weigh 59 L (.int (mu a j.toNatClampNeg) :: st) (Wd mu la ro et) := R_ialW d_MSt_weigh_58 hq
theorem r_MSt_weigh_59 {l0 l1 l2 l3 l4 : Value} {x : Int32} : Rr X d MSt_weigh 59 [l0, l1, l2, l3, l4] (.int x :: st) h = Rr X d MSt_weigh 60 (sL [l0, l1, l2, l3, l4] 3 (.int x)) st h := Rr_nx d_MSt_weigh_59 rfl
theorem r_MSt_weigh_60 {l1 l2 l3 l4 : Value} {x : Nat} : Rr X d MSt_weigh 60 [.ref x, l1, l2, l3, l4] st h = Rr X d MSt_weigh 61 [.ref x, l1, l2, l3, l4] (.ref x :: st) h := Rr_nx d_MSt_weigh_60 rfl
theorem r_MSt_weigh_61 {a : Nat} (hq : (qR a 7 2).isSome = true) : Rr X d MSt_weigh 61 L (.ref a :: st) (Wd mu la ro et) = Rr X d MSt_weigh 64 L (.ref (qRd a 7 2) :: st) (Wd mu la ro et) := R_gfR d_MSt_weigh_61 ff_7_18 hq
theorem r_MSt_weigh_64 {l0 l2 l3 l4 : Value} {x : Int32} : Rr X d MSt_weigh 64 [l0, .int x, l2, l3, l4] st h = Rr X d MSt_weigh 65 [l0, .int x, l2, l3, l4] (.int x :: st) h := Rr_nx d_MSt_weigh_64 rfl
theorem r_MSt_weigh_65 {a : Nat} {j : Int32} (hq : (qA a 0).isSome = true) : Rr X d MSt_weigh 65 L (.int j :: .ref a :: st) (Wd mu la ro et) = if j < 0 ∨ qAd a 0 ≤ j.toNatClampNeg then none else Rr X d MSt_weigh 66 L (.int (mu a j.toNatClampNeg) :: st) (Wd mu la ro et) := R_ialW d_MSt_weigh_65 hq
theorem r_MSt_weigh_66 {l0 l1 l2 l3 l4 : Value} {x : Int32} : Rr X d MSt_weigh 66 [l0, l1, l2, l3, l4] (.int x :: st) h = Rr X d MSt_weigh 68 (sL [l0, l1, l2, l3, l4] 4 (.int x)) st h := Rr_nx d_MSt_weigh_66 rfl
theorem r_MSt_weigh_68 {l1 l2 l3 l4 : Value} {x : Nat} : Rr X d MSt_weigh 68 [.ref x, l1, l2, l3, l4] st h = Rr X d MSt_weigh 69 [.ref x, l1, l2, l3, l4] (.ref x :: st) h := Rr_nx d_MSt_weigh_68 rfl
theorem r_MSt_weigh_69 {x : Nat} : Rr X d MSt_weigh 69 L (.ref x :: st) h = Rr X d MSt_weigh 70 L (.ref x :: .ref x :: st) h := Rr_nx d_MSt_weigh_69 rfl
theorem r_MSt_weigh_69i {x : Int32} : Rr X d MSt_weigh 69 L (.int x :: st) h = Rr X d MSt_weigh 70 L (.int x :: .int x :: st) h := Rr_nx d_MSt_weigh_69 rfl
theorem r_MSt_weigh_70 {a : Nat} (hq : qI a 7 5 = true) : Rr X d MSt_weigh 70 L (.ref a :: st) (Wd mu la ro et) = Rr X d MSt_weigh 73 L (.int (mu a 5) :: st) (Wd mu la ro et) := R_gfI d_MSt_weigh_70 ff_7_65 hq
theorem r_MSt_weigh_73 {l0 l1 l3 l4 : Value} {x : Int32} : Rr X d MSt_weigh 73 [l0, l1, .int x, l3, l4] st h = Rr X d MSt_weigh 74 [l0, l1, .int x, l3, l4] (.int x :: st) h := Rr_nx d_MSt_weigh_73 rfl
theorem r_MSt_weigh_74 {x y : Int32} : Rr X d MSt_weigh 74 L (.int y :: .int x :: st) h = Rr X d MSt_weigh 75 L (.int (x + y) :: st) h := Rr_nx d_MSt_weigh_74 rfl
theorem r_MSt_weigh_75 {a : Nat} {x : Int32} (hq : qI a 7 5 = true) : Rr X d MSt_weigh 75 L (.int x :: .ref a :: st) (Wd mu la ro et) = Rr X d MSt_weigh 78 L st (Wd (up2 mu a 5 x) la ro et) := R_pfI d_MSt_weigh_75 ff_7_65 hq
theorem r_MSt_weigh_78 {l1 l2 l3 l4 : Value} {x : Nat} : Rr X d MSt_weigh 78 [.ref x, l1, l2, l3, l4] st h = Rr X d MSt_weigh 79 [.ref x, l1, l2, l3, l4] (.ref x :: st) h := Rr_nx d_MSt_weigh_78 rfl
theorem r_MSt_weigh_79 {x : Nat} : Rr X d MSt_weigh 79 L (.ref x :: st) h = Rr X d MSt_weigh 80 L (.ref x :: .ref x :: st) h := Rr_nx d_MSt_weigh_79 rfl
theorem r_MSt_weigh_79i {x : Int32} : Rr X d MSt_weigh 79 L (.int x :: st) h = Rr X d MSt_weigh 80 L (.int x :: .int x :: st) h := Rr_nx d_MSt_weigh_79 rfl
theorem r_MSt_weigh_80 {a : Nat} (hq : qI a 7 6 = true) : Rr X d MSt_weigh 80 L (.ref a :: st) (Wd mu la ro et) = Rr X d MSt_weigh 83 L (.int (mu a 6) :: st) (Wd mu la ro et) := R_gfI d_MSt_weigh_80 ff_7_68 hq
theorem r_MSt_weigh_83 {l0 l1 l3 l4 : Value} {x : Int32} : Rr X d MSt_weigh 83 [l0, l1, .int x, l3, l4] st h = Rr X d MSt_weigh 84 [l0, l1, .int x, l3, l4] (.int x :: st) h := Rr_nx d_MSt_weigh_83 rfl
theorem r_MSt_weigh_84 {l0 l1 l2 l4 : Value} {x : Int32} : Rr X d MSt_weigh 84 [l0, l1, l2, .int x, l4] st h = Rr X d MSt_weigh 85 [l0, l1, l2, .int x, l4] (.int x :: st) h := Rr_nx d_MSt_weigh_84 rfl
theorem r_MSt_weigh_85 {x y : Int32} : Rr X d MSt_weigh 85 L (.int y :: .int x :: st) h = Rr X d MSt_weigh 86 L (.int (x * y) :: st) h := Rr_nx d_MSt_weigh_85 rfl
theorem r_MSt_weigh_86 {x y : Int32} : Rr X d MSt_weigh 86 L (.int y :: .int x :: st) h = Rr X d MSt_weigh 87 L (.int (x + y) :: st) h := Rr_nx d_MSt_weigh_86 rfl
theorem r_MSt_weigh_87 {a : Nat} {x : Int32} (hq : qI a 7 6 = true) : Rr X d MSt_weigh 87 L (.int x :: .ref a :: st) (Wd mu la ro et) = Rr X d MSt_weigh 90 L st (Wd (up2 mu a 6 x) la ro et) := R_pfI d_MSt_weigh_87 ff_7_68 hq
theorem r_MSt_weigh_90 {l1 l2 l3 l4 : Value} {x : Nat} : Rr X d MSt_weigh 90 [.ref x, l1, l2, l3, l4] st h = Rr X d MSt_weigh 91 [.ref x, l1, l2, l3, l4] (.ref x :: st) h := Rr_nx d_MSt_weigh_90 rfl
theorem r_MSt_weigh_91 {x : Nat} : Rr X d MSt_weigh 91 L (.ref x :: st) h = Rr X d MSt_weigh 92 L (.ref x :: .ref x :: st) h := Rr_nx d_MSt_weigh_91 rfl
theorem r_MSt_weigh_91i {x : Int32} : Rr X d MSt_weigh 91 L (.int x :: st) h = Rr X d MSt_weigh 92 L (.int x :: .int x :: st) h := Rr_nx d_MSt_weigh_91 rfl
theorem r_MSt_weigh_92 {a : Nat} (hq : qI a 7 7 = true) : Rr X d MSt_weigh 92 L (.ref a :: st) (Wd mu la ro et) = Rr X d MSt_weigh 95 L (.int (mu a 7) :: st) (Wd mu la ro et) := R_gfI d_MSt_weigh_92 ff_7_71 hq
theorem r_MSt_weigh_95 {l0 l1 l3 l4 : Value} {x : Int32} : Rr X d MSt_weigh 95 [l0, l1, .int x, l3, l4] st h = Rr X d MSt_weigh 96 [l0, l1, .int x, l3, l4] (.int x :: st) h := Rr_nx d_MSt_weigh_95 rfl
theorem r_MSt_weigh_96 {l0 l1 l2 l3 : Value} {x : Int32} : Rr X d MSt_weigh 96 [l0, l1, l2, l3, .int x] st h = Rr X d MSt_weigh 98 [l0, l1, l2, l3, .int x] (.int x :: st) h := Rr_nx d_MSt_weigh_96 rfl
theorem r_MSt_weigh_98 {x y : Int32} : Rr X d MSt_weigh 98 L (.int y :: .int x :: st) h = Rr X d MSt_weigh 99 L (.int (x * y) :: st) h := Rr_nx d_MSt_weigh_98 rfl
theorem r_MSt_weigh_99 {x y : Int32} : Rr X d MSt_weigh 99 L (.int y :: .int x :: st) h = Rr X d MSt_weigh 100 L (.int (x + y) :: st) h := Rr_nx d_MSt_weigh_99 rfl
theorem r_MSt_weigh_100 {a : Nat} {x : Int32} (hq : qI a 7 7 = true) : Rr X d MSt_weigh 100 L (.int x :: .ref a :: st) (Wd mu la ro et) = Rr X d MSt_weigh 103 L st (Wd (up2 mu a 7 x) la ro et) := R_pfI d_MSt_weigh_100 ff_7_71 hq
theorem r_MSt_weigh_103 {l1 l2 l3 l4 : Value} {x : Nat} : Rr X d MSt_weigh 103 [.ref x, l1, l2, l3, l4] st h = Rr X d MSt_weigh 104 [.ref x, l1, l2, l3, l4] (.ref x :: st) h := Rr_nx d_MSt_weigh_103 rfl
theorem r_MSt_weigh_104 {x : Nat} : Rr X d MSt_weigh 104 L (.ref x :: st) h = Rr X d MSt_weigh 105 L (.ref x :: .ref x :: st) h := Rr_nx d_MSt_weigh_104 rfl
theorem r_MSt_weigh_104i {x : Int32} : Rr X d MSt_weigh 104 L (.int x :: st) h = Rr X d MSt_weigh 105 L (.int x :: .int x :: st) h := Rr_nx d_MSt_weigh_104 rfl
theorem r_MSt_weigh_105 {a : Nat} (hq : qI a 7 8 = true) : Rr X d MSt_weigh 105 L (.ref a :: st) (Wd mu la ro et) = Rr X d MSt_weigh 108 L (.int (mu a 8) :: st) (Wd mu la ro et) := R_gfI d_MSt_weigh_105 ff_7_74 hq
theorem r_MSt_weigh_108 {l0 l1 l3 l4 : Value} {x : Int32} : Rr X d MSt_weigh 108 [l0, l1, .int x, l3, l4] st h = Rr X d MSt_weigh 109 [l0, l1, .int x, l3, l4] (.int x :: st) h := Rr_nx d_MSt_weigh_108 rfl
theorem r_MSt_weigh_109 {l0 l1 l2 l4 : Value} {x : Int32} : Rr X d MSt_weigh 109 [l0, l1, l2, .int x, l4] st h = Rr X d MSt_weigh 110 [l0, l1, l2, .int x, l4] (.int x :: st) h := Rr_nx d_MSt_weigh_109 rfl
theorem r_MSt_weigh_110 {x y : Int32} : Rr X d MSt_weigh 110 L (.int y :: .int x :: st) h = Rr X d MSt_weigh 111 L (.int (x * y) :: st) h := Rr_nx d_MSt_weigh_110 rfl
theorem r_MSt_weigh_111 {l0 l1 l2 l4 : Value} {x : Int32} : Rr X d MSt_weigh 111 [l0, l1, l2, .int x, l4] st h = Rr X d MSt_weigh 112 [l0, l1, l2, .int x, l4] (.int x :: st) h := Rr_nx d_MSt_weigh_111 rfl
theorem r_MSt_weigh_112 {x y : Int32} : Rr X d MSt_weigh 112 L (.int y :: .int x :: st) h = Rr X d MSt_weigh 113 L (.int (x * y) :: st) h := Rr_nx d_MSt_weigh_112 rfl
theorem r_MSt_weigh_113 {x y : Int32} : Rr X d MSt_weigh 113 L (.int y :: .int x :: st) h = Rr X d MSt_weigh 114 L (.int (x + y) :: st) h := Rr_nx d_MSt_weigh_113 rfl
theorem r_MSt_weigh_114 {a : Nat} {x : Int32} (hq : qI a 7 8 = true) : Rr X d MSt_weigh 114 L (.int x :: .ref a :: st) (Wd mu la ro et) = Rr X d MSt_weigh 117 L st (Wd (up2 mu a 8 x) la ro et) := R_pfI d_MSt_weigh_114 ff_7_74 hq
theorem r_MSt_weigh_117 {l1 l2 l3 l4 : Value} {x : Nat} : Rr X d MSt_weigh 117 [.ref x, l1, l2, l3, l4] st h = Rr X d MSt_weigh 118 [.ref x, l1, l2, l3, l4] (.ref x :: st) h := Rr_nx d_MSt_weigh_117 rfl
theorem r_MSt_weigh_118 {x : Nat} : Rr X d MSt_weigh 118 L (.ref x :: st) h = Rr X d MSt_weigh 119 L (.ref x :: .ref x :: st) h := Rr_nx d_MSt_weigh_118 rfl
theorem r_MSt_weigh_118i {x : Int32} : Rr X d MSt_weigh 118 L (.int x :: st) h = Rr X d MSt_weigh 119 L (.int x :: .int x :: st) h := Rr_nx d_MSt_weigh_118 rfl
theorem r_MSt_weigh_119 {a : Nat} (hq : qI a 7 9 = true) : Rr X d MSt_weigh 119 L (.ref a :: st) (Wd mu la ro et) = Rr X d MSt_weigh 122 L (.int (mu a 9) :: st) (Wd mu la ro et) := R_gfI d_MSt_weigh_119 ff_7_77 hq
theorem r_MSt_weigh_122 {l0 l1 l3 l4 : Value} {x : Int32} : Rr X d MSt_weigh 122 [l0, l1, .int x, l3, l4] st h = Rr X d MSt_weigh 123 [l0, l1, .int x, l3, l4] (.int x :: st) h := Rr_nx d_MSt_weigh_122 rfl
theorem r_MSt_weigh_123 {l0 l1 l2 l3 : Value} {x : Int32} : Rr X d MSt_weigh 123 [l0, l1, l2, l3, .int x] st h = Rr X d MSt_weigh 125 [l0, l1, l2, l3, .int x] (.int x :: st) h := Rr_nx d_MSt_weigh_123 rfl
theorem r_MSt_weigh_125 {x y : Int32} : Rr X d MSt_weigh 125 L (.int y :: .int x :: st) h = Rr X d MSt_weigh 126 L (.int (x * y) :: st) h := Rr_nx d_MSt_weigh_125 rfl
theorem r_MSt_weigh_126 {l0 l1 l2 l3 : Value} {x : Int32} : Rr X d MSt_weigh 126 [l0, l1, l2, l3, .int x] st h = Rr X d MSt_weigh 128 [l0, l1, l2, l3, .int x] (.int x :: st) h := Rr_nx d_MSt_weigh_126 rfl
theorem r_MSt_weigh_128 {x y : Int32} : Rr X d MSt_weigh 128 L (.int y :: .int x :: st) h = Rr X d MSt_weigh 129 L (.int (x * y) :: st) h := Rr_nx d_MSt_weigh_128 rfl
theorem r_MSt_weigh_129 {x y : Int32} : Rr X d MSt_weigh 129 L (.int y :: .int x :: st) h = Rr X d MSt_weigh 130 L (.int (x + y) :: st) h := Rr_nx d_MSt_weigh_129 rfl
theorem r_MSt_weigh_130 {a : Nat} {x : Int32} (hq : qI a 7 9 = true) : Rr X d MSt_weigh 130 L (.int x :: .ref a :: st) (Wd mu la ro et) = Rr X d MSt_weigh 133 L st (Wd (up2 mu a 9 x) la ro et) := R_pfI d_MSt_weigh_130 ff_7_77 hq
theorem r_MSt_weigh_133 {l1 l2 l3 l4 : Value} {x : Nat} : Rr X d MSt_weigh 133 [.ref x, l1, l2, l3, l4] st h = Rr X d MSt_weigh 134 [.ref x, l1, l2, l3, l4] (.ref x :: st) h := Rr_nx d_MSt_weigh_133 rfl
theorem r_MSt_weigh_134 {x : Nat} : Rr X d MSt_weigh 134 L (.ref x :: st) h = Rr X d MSt_weigh 135 L (.ref x :: .ref x :: st) h := Rr_nx d_MSt_weigh_134 rfl
theorem r_MSt_weigh_134i {x : Int32} : Rr X d MSt_weigh 134 L (.int x :: st) h = Rr X d MSt_weigh 135 L (.int x :: .int x :: st) h := Rr_nx d_MSt_weigh_134 rfl
theorem r_MSt_weigh_135 {a : Nat} (hq : qI a 7 10 = true) : Rr X d MSt_weigh 135 L (.ref a :: st) (Wd mu la ro et) = Rr X d MSt_weigh 138 L (.int (mu a 10) :: st) (Wd mu la ro et) := R_gfI d_MSt_weigh_135 ff_7_80 hq
theorem r_MSt_weigh_138 {l0 l1 l3 l4 : Value} {x : Int32} : Rr X d MSt_weigh 138 [l0, l1, .int x, l3, l4] st h = Rr X d MSt_weigh 139 [l0, l1, .int x, l3, l4] (.int x :: st) h := Rr_nx d_MSt_weigh_138 rfl
theorem r_MSt_weigh_139 {l0 l1 l2 l4 : Value} {x : Int32} : Rr X d MSt_weigh 139 [l0, l1, l2, .int x, l4] st h = Rr X d MSt_weigh 140 [l0, l1, l2, .int x, l4] (.int x :: st) h := Rr_nx d_MSt_weigh_139 rfl
theorem r_MSt_weigh_140 {x y : Int32} : Rr X d MSt_weigh 140 L (.int y :: .int x :: st) h = Rr X d MSt_weigh 141 L (.int (x * y) :: st) h := Rr_nx d_MSt_weigh_140 rfl
theorem r_MSt_weigh_141 {l0 l1 l2 l3 : Value} {x : Int32} : Rr X d MSt_weigh 141 [l0, l1, l2, l3, .int x] st h = Rr X d MSt_weigh 143 [l0, l1, l2, l3, .int x] (.int x :: st) h := Rr_nx d_MSt_weigh_141 rfl
theorem r_MSt_weigh_143 {x y : Int32} : Rr X d MSt_weigh 143 L (.int y :: .int x :: st) h = Rr X d MSt_weigh 144 L (.int (x * y) :: st) h := Rr_nx d_MSt_weigh_143 rfl
theorem r_MSt_weigh_144 {x y : Int32} : Rr X d MSt_weigh 144 L (.int y :: .int x :: st) h = Rr X d MSt_weigh 145 L (.int (x + y) :: st) h := Rr_nx d_MSt_weigh_144 rfl
theorem r_MSt_weigh_145 {a : Nat} {x : Int32} (hq : qI a 7 10 = true) : Rr X d MSt_weigh 145 L (.int x :: .ref a :: st) (Wd mu la ro et) = Rr X d MSt_weigh 148 L st (Wd (up2 mu a 10 x) la ro et) := R_pfI d_MSt_weigh_145 ff_7_80 hq
theorem r_MSt_weigh_148 {l0 l2 l3 l4 : Value} {x : Int32} : Rr X d MSt_weigh 148 [l0, .int x, l2, l3, l4] st h = Rr X d MSt_weigh 151 (sL [l0, .int x, l2, l3, l4] 1 (.int (x + (1)))) st h := Rr_nx d_MSt_weigh_148 rfl
theorem r_MSt_weigh_151 : Rr X d MSt_weigh 151 L st h = Rr X d MSt_weigh 32 L st h := R_goto d_MSt_weigh_151 (by decide)
theorem r_MSt_weigh_154 : Rr X d MSt_weigh 154 L [] h = some (none, h) := Rr_rt d_MSt_weigh_154 rfl
theorem d_MTo_stone_0 : decode MTo_stone.2.2.1 0 = .ok (.aload_n 0, 1) := lkT_ok tk_MTo_stone rfl
theorem d_MTo_stone_1 : decode MTo_stone.2.2.1 1 = .ok (.getfield 84, 3) := lkT_ok tk_MTo_stone rfl
theorem d_MTo_stone_4 : decode MTo_stone.2.2.1 4 = .ok (.ifCond .lt 27, 3) := lkT_ok tk_MTo_stone rfl
theorem d_MTo_stone_7 : decode MTo_stone.2.2.1 7 = .ok (.aload_n 0, 1) := lkT_ok tk_MTo_stone rfl
theorem d_MTo_stone_8 : decode MTo_stone.2.2.1 8 = .ok (.getfield 84, 3) := lkT_ok tk_MTo_stone rfl
theorem d_MTo_stone_11 : decode MTo_stone.2.2.1 11 = .ok (.aload_n 0, 1) := lkT_ok tk_MTo_stone rfl
theorem d_MTo_stone_12 : decode MTo_stone.2.2.1 12 = .ok (.getfield 18, 3) := lkT_ok tk_MTo_stone rfl
theorem d_MTo_stone_15 : decode MTo_stone.2.2.1 15 = .ok (.arraylength, 1) := lkT_ok tk_MTo_stone rfl
theorem d_MTo_stone_16 : decode MTo_stone.2.2.1 16 = .ok (.if_icmp .ge 15, 3) := lkT_ok tk_MTo_stone rfl
theorem d_MTo_stone_19 : decode MTo_stone.2.2.1 19 = .ok (.aload_n 0, 1) := lkT_ok tk_MTo_stone rfl
theorem d_MTo_stone_20 : decode MTo_stone.2.2.1 20 = .ok (.getfield 18, 3) := lkT_ok tk_MTo_stone rfl
theorem d_MTo_stone_23 : decode MTo_stone.2.2.1 23 = .ok (.aload_n 0, 1) := lkT_ok tk_MTo_stone rfl
theorem d_MTo_stone_24 : decode MTo_stone.2.2.1 24 = .ok (.getfield 84, 3) := lkT_ok tk_MTo_stone rfl
theorem d_MTo_stone_27 : decode MTo_stone.2.2.1 27 = .ok (.aaload, 1) := lkT_ok tk_MTo_stone rfl
theorem d_MTo_stone_28 : decode MTo_stone.2.2.1 28 = .ok (.ifnonnull 6, 3) := lkT_ok tk_MTo_stone rfl
theorem d_MTo_stone_31 : decode MTo_stone.2.2.1 31 = .ok (.bipush (-3), 2) := lkT_ok tk_MTo_stone rfl
theorem d_MTo_stone_33 : decode MTo_stone.2.2.1 33 = .ok (.ireturn, 1) := lkT_ok tk_MTo_stone rfl
theorem d_MTo_stone_34 : decode MTo_stone.2.2.1 34 = .ok (.aload_n 0, 1) := lkT_ok tk_MTo_stone rfl
theorem d_MTo_stone_35 : decode MTo_stone.2.2.1 35 = .ok (.getfield 10, 3) := lkT_ok tk_MTo_stone rfl
theorem d_MTo_stone_38 : decode MTo_stone.2.2.1 38 = .ok (.invokevirtual 87, 3) := lkT_ok tk_MTo_stone rfl
theorem d_MTo_stone_41 : decode MTo_stone.2.2.1 41 = .ok (.bipush (-100), 2) := lkT_ok tk_MTo_stone rfl
theorem d_MTo_stone_43 : decode MTo_stone.2.2.1 43 = .ok (.istore_n 1, 1) := lkT_ok tk_MTo_stone rfl
theorem d_MTo_stone_44 : decode MTo_stone.2.2.1 44 = .ok (.aload_n 0, 1) := lkT_ok tk_MTo_stone rfl
theorem d_MTo_stone_45 : decode MTo_stone.2.2.1 45 = .ok (.getfield 18, 3) := lkT_ok tk_MTo_stone rfl
theorem d_MTo_stone_48 : decode MTo_stone.2.2.1 48 = .ok (.aload_n 0, 1) := lkT_ok tk_MTo_stone rfl
theorem d_MTo_stone_49 : decode MTo_stone.2.2.1 49 = .ok (.getfield 84, 3) := lkT_ok tk_MTo_stone rfl
theorem d_MTo_stone_52 : decode MTo_stone.2.2.1 52 = .ok (.aaload, 1) := lkT_ok tk_MTo_stone rfl
theorem d_MTo_stone_53 : decode MTo_stone.2.2.1 53 = .ok (.aload_n 0, 1) := lkT_ok tk_MTo_stone rfl
theorem d_MTo_stone_54 : decode MTo_stone.2.2.1 54 = .ok (.getfield 10, 3) := lkT_ok tk_MTo_stone rfl
theorem d_MTo_stone_57 : decode MTo_stone.2.2.1 57 = .ok (.invokevirtual 90, 3) := lkT_ok tk_MTo_stone rfl
theorem d_MTo_stone_60 : decode MTo_stone.2.2.1 60 = .ok (.ifCond .eq 21, 3) := lkT_ok tk_MTo_stone rfl
theorem d_MTo_stone_63 : decode MTo_stone.2.2.1 63 = .ok (.aload_n 0, 1) := lkT_ok tk_MTo_stone rfl
theorem d_MTo_stone_64 : decode MTo_stone.2.2.1 64 = .ok (.getfield 84, 3) := lkT_ok tk_MTo_stone rfl
theorem d_MTo_stone_67 : decode MTo_stone.2.2.1 67 = .ok (.istore_n 1, 1) := lkT_ok tk_MTo_stone rfl
theorem d_MTo_stone_68 : decode MTo_stone.2.2.1 68 = .ok (.aload_n 0, 1) := lkT_ok tk_MTo_stone rfl
theorem d_MTo_stone_69 : decode MTo_stone.2.2.1 69 = .ok (.dup, 1) := lkT_ok tk_MTo_stone rfl
theorem d_MTo_stone_70 : decode MTo_stone.2.2.1 70 = .ok (.getfield 84, 3) := lkT_ok tk_MTo_stone rfl
theorem d_MTo_stone_73 : decode MTo_stone.2.2.1 73 = .ok (.iconst 1, 1) := lkT_ok tk_MTo_stone rfl
theorem d_MTo_stone_74 : decode MTo_stone.2.2.1 74 = .ok (.iadd, 1) := lkT_ok tk_MTo_stone rfl
theorem d_MTo_stone_75 : decode MTo_stone.2.2.1 75 = .ok (.putfield 84, 3) := lkT_ok tk_MTo_stone rfl
theorem d_MTo_stone_78 : decode MTo_stone.2.2.1 78 = .ok (.goto 13, 3) := lkT_ok tk_MTo_stone rfl
theorem d_MTo_stone_81 : decode MTo_stone.2.2.1 81 = .ok (.iload_n 1, 1) := lkT_ok tk_MTo_stone rfl
theorem d_MTo_stone_82 : decode MTo_stone.2.2.1 82 = .ok (.aload_n 0, 1) := lkT_ok tk_MTo_stone rfl
theorem d_MTo_stone_83 : decode MTo_stone.2.2.1 83 = .ok (.getfield 10, 3) := lkT_ok tk_MTo_stone rfl
theorem d_MTo_stone_86 : decode MTo_stone.2.2.1 86 = .ok (.getfield 94, 3) := lkT_ok tk_MTo_stone rfl
theorem d_MTo_stone_89 : decode MTo_stone.2.2.1 89 = .ok (.isub, 1) := lkT_ok tk_MTo_stone rfl
theorem d_MTo_stone_90 : decode MTo_stone.2.2.1 90 = .ok (.istore_n 1, 1) := lkT_ok tk_MTo_stone rfl
theorem d_MTo_stone_91 : decode MTo_stone.2.2.1 91 = .ok (.aload_n 0, 1) := lkT_ok tk_MTo_stone rfl
theorem d_MTo_stone_92 : decode MTo_stone.2.2.1 92 = .ok (.getfield 10, 3) := lkT_ok tk_MTo_stone rfl
theorem d_MTo_stone_95 : decode MTo_stone.2.2.1 95 = .ok (.invokevirtual 97, 3) := lkT_ok tk_MTo_stone rfl
theorem d_MTo_stone_98 : decode MTo_stone.2.2.1 98 = .ok (.iload_n 1, 1) := lkT_ok tk_MTo_stone rfl
theorem d_MTo_stone_99 : decode MTo_stone.2.2.1 99 = .ok (.ireturn, 1) := lkT_ok tk_MTo_stone rfl
theorem r_MTo_stone_0 {l1 : Value} {x : Nat} : Rr X d MTo_stone 0 [.ref x, l1] st h = Rr X d MTo_stone 1 [.ref x, l1] (.ref x :: st) h := Rr_nx d_MTo_stone_0 rfl
theorem ff_9_84 : fF 9 84 = some (9, 9, 0, 0) := rfl
theorem r_MTo_stone_1 {a : Nat} (hq : qI a 9 9 = true) : Rr X d MTo_stone 1 L (.ref a :: st) (Wd mu la ro et) = Rr X d MTo_stone 4 L (.int (mu a 9) :: st) (Wd mu la ro et) := R_gfI d_MTo_stone_1 ff_9_84 hq
theorem r_MTo_stone_4 {x : Int32} : Rr X d MTo_stone 4 L (.int x :: st) h = if x < 0 then Rr X d MTo_stone 31 L st h else Rr X d MTo_stone 7 L st h := R_if_lt d_MTo_stone_4 (by decide)
theorem r_MTo_stone_7 {l1 : Value} {x : Nat} : Rr X d MTo_stone 7 [.ref x, l1] st h = Rr X d MTo_stone 8 [.ref x, l1] (.ref x :: st) h := Rr_nx d_MTo_stone_7 rfl
theorem r_MTo_stone_8 {a : Nat} (hq : qI a 9 9 = true) : Rr X d MTo_stone 8 L (.ref a :: st) (Wd mu la ro et) = Rr X d MTo_stone 11 L (.int (mu a 9) :: st) (Wd mu la ro et) := R_gfI d_MTo_stone_8 ff_9_84 hq
theorem r_MTo_stone_11 {l1 : Value} {x : Nat} : Rr X d MTo_stone 11 [.ref x, l1] st h = Rr X d MTo_stone 12 [.ref x, l1] (.ref x :: st) h := Rr_nx d_MTo_stone_11 rfl
theorem ff_9_18 : fF 9 18 = some (9, 1, 1, 1) := rfl
theorem r_MTo_stone_12 {a : Nat} (hq : (qR a 9 1).isSome = true) : Rr X d MTo_stone 12 L (.ref a :: st) (Wd mu la ro et) = Rr X d MTo_stone 15 L (.ref (qRd a 9 1) :: st) (Wd mu la ro et) := R_gfR d_MTo_stone_12 ff_9_18 hq
theorem r_MTo_stone_15 {a : Nat} (hq : (qL a).isSome = true) : Rr X d MTo_stone 15 L (.ref a :: st) (Wd mu la ro et) = Rr X d MTo_stone 16 L (.int (Int32.ofNat (qLd a)) :: st) (Wd mu la ro et) := R_lenW d_MTo_stone_15 hq
theorem r_MTo_stone_16 {x y : Int32} : Rr X d MTo_stone 16 L (.int y :: .int x :: st) h = if y ≤ x then Rr X d MTo_stone 31 L st h else Rr X d MTo_stone 19 L st h := R_ic_ge d_MTo_stone_16 (by decide)
theorem r_MTo_stone_19 {l1 : Value} {x : Nat} : Rr X d MTo_stone 19 [.ref x, l1] st h = Rr X d MTo_stone 20 [.ref x, l1] (.ref x :: st) h := Rr_nx d_MTo_stone_19 rfl
theorem r_MTo_stone_20 {a : Nat} (hq : (qR a 9 1).isSome = true) : Rr X d MTo_stone 20 L (.ref a :: st) (Wd mu la ro et) = Rr X d MTo_stone 23 L (.ref (qRd a 9 1) :: st) (Wd mu la ro et) := R_gfR d_MTo_stone_20 ff_9_18 hq
theorem r_MTo_stone_23 {l1 : Value} {x : Nat} : Rr X d MTo_stone 23 [.ref x, l1] st h = Rr X d MTo_stone 24 [.ref x, l1] (.ref x :: st) h := Rr_nx d_MTo_stone_23 rfl
theorem r_MTo_stone_24 {a : Nat} (hq : qI a 9 9 = true) : Rr X d MTo_stone 24 L (.ref a :: st) (Wd mu la ro et) = Rr X d MTo_stone 27 L (.int (mu a 9) :: st) (Wd mu la ro et) := R_gfI d_MTo_stone_24 ff_9_84 hq
theorem r_MTo_stone_27 {a : Nat} {j : Int32} (hq : (qQ a).isSome = true) : Rr X d MTo_stone 27 L (.int j :: .ref a :: st) (Wd mu la ro et) = if j < 0 ∨ qQd a ≤ j.toNatClampNeg then none else Rr X d MTo_stone 28 L (va_rf (ro a j.toNatClampNeg) :: st) (Wd mu la ro et) := R_aalW d_MTo_stone_27 hq
theorem r_MTo_stone_28 {x : Nat} : Rr X d MTo_stone 28 L (.ref x :: st) h = Rr X d MTo_stone 34 L st h := R_nnl1 d_MTo_stone_28 (by decide)
theorem r_MTo_stone_28n : Rr X d MTo_stone 28 L (.null :: st) h = Rr X d MTo_stone 31 L st h := R_nnl0 d_MTo_stone_28
theorem r_MTo_stone_31 : Rr X d MTo_stone 31 L st h = Rr X d MTo_stone 33 L (.int (-3) :: st) h := Rr_nx d_MTo_stone_31 rfl
theorem r_MTo_stone_33 {x : Int32} : Rr X d MTo_stone 33 L [.int x] h = some (some (.int x), h) := R_ir d_MTo_stone_33 rfl
theorem r_MTo_stone_34 {l1 : Value} {x : Nat} : Rr X d MTo_stone 34 [.ref x, l1] st h = Rr X d MTo_stone 35 [.ref x, l1] (.ref x :: st) h := Rr_nx d_MTo_stone_34 rfl
theorem r_MTo_stone_35 {a : Nat} (hq : (qR a 9 0).isSome = true) : Rr X d MTo_stone 35 L (.ref a :: st) (Wd mu la ro et) = Rr X d MTo_stone 38 L (.ref (qRd a 9 0) :: st) (Wd mu la ro et) := R_gfR d_MTo_stone_35 ff_9_10 hq
theorem r_MTo_stone_38 {a : Nat} (hO : qO a 8 = true) (hc : ckS st = true) : Rr X (d + 1) MTo_stone 38 L (.ref a :: st) (Wd mu la ro et) = (Rr X d MTa_rewind 0 [.ref a] [] (Wd mu la ro et)).bind fun q => Rr X (d + 1) MTo_stone 41 L (psh q.1 st) q.2 := R_iv (av := []) d_MTo_stone_38 fc_9_87 hO (ckS_le hc) rfl (Nat.le_of_ble_eq_true rfl) (Nat.le_of_ble_eq_true rfl)
theorem r_MTo_stone_41 : Rr X d MTo_stone 41 L st h = Rr X d MTo_stone 43 L (.int (-100) :: st) h := Rr_nx d_MTo_stone_41 rfl
theorem r_MTo_stone_43 {l0 l1 : Value} {x : Int32} : Rr X d MTo_stone 43 [l0, l1] (.int x :: st) h = Rr X d MTo_stone 44 (sL [l0, l1] 1 (.int x)) st h := Rr_nx d_MTo_stone_43 rfl
theorem r_MTo_stone_44 {l1 : Value} {x : Nat} : Rr X d MTo_stone 44 [.ref x, l1] st h = Rr X d MTo_stone 45 [.ref x, l1] (.ref x :: st) h := Rr_nx d_MTo_stone_44 rfl
theorem r_MTo_stone_45 {a : Nat} (hq : (qR a 9 1).isSome = true) : Rr X d MTo_stone 45 L (.ref a :: st) (Wd mu la ro et) = Rr X d MTo_stone 48 L (.ref (qRd a 9 1) :: st) (Wd mu la ro et) := R_gfR d_MTo_stone_45 ff_9_18 hq
theorem r_MTo_stone_48 {l1 : Value} {x : Nat} : Rr X d MTo_stone 48 [.ref x, l1] st h = Rr X d MTo_stone 49 [.ref x, l1] (.ref x :: st) h := Rr_nx d_MTo_stone_48 rfl
theorem r_MTo_stone_49 {a : Nat} (hq : qI a 9 9 = true) : Rr X d MTo_stone 49 L (.ref a :: st) (Wd mu la ro et) = Rr X d MTo_stone 52 L (.int (mu a 9) :: st) (Wd mu la ro et) := R_gfI d_MTo_stone_49 ff_9_84 hq
theorem r_MTo_stone_52 {a : Nat} {j : Int32} (hq : (qQ a).isSome = true) : Rr X d MTo_stone 52 L (.int j :: .ref a :: st) (Wd mu la ro et) = if j < 0 ∨ qQd a ≤ j.toNatClampNeg then none else Rr X d MTo_stone 53 L (va_rf (ro a j.toNatClampNeg) :: st) (Wd mu la ro et) := R_aalW d_MTo_stone_52 hq
theorem r_MTo_stone_53 {l1 : Value} {x : Nat} : Rr X d MTo_stone 53 [.ref x, l1] st h = Rr X d MTo_stone 54 [.ref x, l1] (.ref x :: st) h := Rr_nx d_MTo_stone_53 rfl
theorem r_MTo_stone_54 {a : Nat} (hq : (qR a 9 0).isSome = true) : Rr X d MTo_stone 54 L (.ref a :: st) (Wd mu la ro et) = Rr X d MTo_stone 57 L (.ref (qRd a 9 0) :: st) (Wd mu la ro et) := R_gfR d_MTo_stone_54 ff_9_10 hq
theorem fc_9_90 : fC 9 90 = some (0, 7, 1, MSt_readFrom) := rfl
theorem r_MTo_stone_57 {y0 : Nat} {a : Nat} (hO : qO a 7 = true) (hc : ckS st = true) : Rr X (d + 1) MTo_stone 57 L (.ref y0 :: .ref a :: st) (Wd mu la ro et) = (Rr X d MSt_readFrom 0 [.ref a, .ref y0, mkU, mkU, mkU] [] (Wd mu la ro et)).bind fun q => Rr X (d + 1) MTo_stone 60 L (psh q.1 st) q.2 := R_iv (av := [.ref y0]) d_MTo_stone_57 fc_9_90 hO (ckS_le hc) rfl (Nat.le_of_ble_eq_true rfl) (Nat.le_of_ble_eq_true rfl)
theorem r_MTo_stone_60 {x : Int32} : Rr X d MTo_stone 60 L (.int x :: st) h = if x = 0 then Rr X d MTo_stone 81 L st h else Rr X d MTo_stone 63 L st h := R_if_eq d_MTo_stone_60 (by decide)
theorem r_MTo_stone_63 {l1 : Value} {x : Nat} : Rr X d MTo_stone 63 [.ref x, l1] st h = Rr X d MTo_stone 64 [.ref x, l1] (.ref x :: st) h := Rr_nx d_MTo_stone_63 rfl
theorem r_MTo_stone_64 {a : Nat} (hq : qI a 9 9 = true) : Rr X d MTo_stone 64 L (.ref a :: st) (Wd mu la ro et) = Rr X d MTo_stone 67 L (.int (mu a 9) :: st) (Wd mu la ro et) := R_gfI d_MTo_stone_64 ff_9_84 hq
theorem r_MTo_stone_67 {l0 l1 : Value} {x : Int32} : Rr X d MTo_stone 67 [l0, l1] (.int x :: st) h = Rr X d MTo_stone 68 (sL [l0, l1] 1 (.int x)) st h := Rr_nx d_MTo_stone_67 rfl
theorem r_MTo_stone_68 {l1 : Value} {x : Nat} : Rr X d MTo_stone 68 [.ref x, l1] st h = Rr X d MTo_stone 69 [.ref x, l1] (.ref x :: st) h := Rr_nx d_MTo_stone_68 rfl
theorem r_MTo_stone_69 {x : Nat} : Rr X d MTo_stone 69 L (.ref x :: st) h = Rr X d MTo_stone 70 L (.ref x :: .ref x :: st) h := Rr_nx d_MTo_stone_69 rfl
theorem r_MTo_stone_69i {x : Int32} : Rr X d MTo_stone 69 L (.int x :: st) h = Rr X d MTo_stone 70 L (.int x :: .int x :: st) h := Rr_nx d_MTo_stone_69 rfl
theorem r_MTo_stone_70 {a : Nat} (hq : qI a 9 9 = true) : Rr X d MTo_stone 70 L (.ref a :: st) (Wd mu la ro et) = Rr X d MTo_stone 73 L (.int (mu a 9) :: st) (Wd mu la ro et) := R_gfI d_MTo_stone_70 ff_9_84 hq
theorem r_MTo_stone_73 : Rr X d MTo_stone 73 L st h = Rr X d MTo_stone 74 L (.int (1) :: st) h := Rr_nx d_MTo_stone_73 rfl
theorem r_MTo_stone_74 {x y : Int32} : Rr X d MTo_stone 74 L (.int y :: .int x :: st) h = Rr X d MTo_stone 75 L (.int (x + y) :: st) h := Rr_nx d_MTo_stone_74 rfl
theorem r_MTo_stone_75 {a : Nat} {x : Int32} (hq : qI a 9 9 = true) : Rr X d MTo_stone 75 L (.int x :: .ref a :: st) (Wd mu la ro et) = Rr X d MTo_stone 78 L st (Wd (up2 mu a 9 x) la ro et) := R_pfI d_MTo_stone_75 ff_9_84 hq
theorem r_MTo_stone_78 : Rr X d MTo_stone 78 L st h = Rr X d MTo_stone 91 L st h := R_goto d_MTo_stone_78 (by decide)
theorem r_MTo_stone_81 {l0 : Value} {x : Int32} : Rr X d MTo_stone 81 [l0, .int x] st h = Rr X d MTo_stone 82 [l0, .int x] (.int x :: st) h := Rr_nx d_MTo_stone_81 rfl
theorem r_MTo_stone_82 {l1 : Value} {x : Nat} : Rr X d MTo_stone 82 [.ref x, l1] st h = Rr X d MTo_stone 83 [.ref x, l1] (.ref x :: st) h := Rr_nx d_MTo_stone_82 rfl
theorem r_MTo_stone_83 {a : Nat} (hq : (qR a 9 0).isSome = true) : Rr X d MTo_stone 83 L (.ref a :: st) (Wd mu la ro et) = Rr X d MTo_stone 86 L (.ref (qRd a 9 0) :: st) (Wd mu la ro et) := R_gfR d_MTo_stone_83 ff_9_10 hq
theorem r_MTo_stone_86 {a : Nat} (hq : qI a 8 2 = true) : Rr X d MTo_stone 86 L (.ref a :: st) (Wd mu la ro et) = Rr X d MTo_stone 89 L (.int (mu a 2) :: st) (Wd mu la ro et) := R_gfI d_MTo_stone_86 ff_9_94 hq
theorem r_MTo_stone_89 {x y : Int32} : Rr X d MTo_stone 89 L (.int y :: .int x :: st) h = Rr X d MTo_stone 90 L (.int (x - y) :: st) h := Rr_nx d_MTo_stone_89 rfl
theorem r_MTo_stone_90 {l0 l1 : Value} {x : Int32} : Rr X d MTo_stone 90 [l0, l1] (.int x :: st) h = Rr X d MTo_stone 91 (sL [l0, l1] 1 (.int x)) st h := Rr_nx d_MTo_stone_90 rfl
theorem r_MTo_stone_91 {l1 : Value} {x : Nat} : Rr X d MTo_stone 91 [.ref x, l1] st h = Rr X d MTo_stone 92 [.ref x, l1] (.ref x :: st) h := Rr_nx d_MTo_stone_91 rfl
theorem r_MTo_stone_92 {a : Nat} (hq : (qR a 9 0).isSome = true) : Rr X d MTo_stone 92 L (.ref a :: st) (Wd mu la ro et) = Rr X d MTo_stone 95 L (.ref (qRd a 9 0) :: st) (Wd mu la ro et) := R_gfR d_MTo_stone_92 ff_9_10 hq
theorem r_MTo_stone_95 {a : Nat} (hO : qO a 8 = true) (hc : ckS st = true) : Rr X (d + 1) MTo_stone 95 L (.ref a :: st) (Wd mu la ro et) = (Rr X d MTa_clear 0 [.ref a] [] (Wd mu la ro et)).bind fun q => Rr X (d + 1) MTo_stone 98 L (psh q.1 st) q.2 := R_iv (av := []) d_MTo_stone_95 fc_9_97 hO (ckS_le hc) rfl (Nat.le_of_ble_eq_true rfl) (Nat.le_of_ble_eq_true rfl)
theorem r_MTo_stone_98 {l0 : Value} {x : Int32} : Rr X d MTo_stone 98 [l0, .int x] st h = Rr X d MTo_stone 99 [l0, .int x] (.int x :: st) h := Rr_nx d_MTo_stone_98 rfl
theorem r_MTo_stone_99 {x : Int32} : Rr X d MTo_stone 99 L [.int x] h = some (some (.int x), h) := R_ir d_MTo_stone_99 rfl
theorem d_MRm_isHere_0 : decode MRm_isHere.2.2.1 0 = .ok (.aload_n 0, 1) := lkT_ok tk_MRm_isHere rfl
theorem d_MRm_isHere_1 : decode MRm_isHere.2.2.1 1 = .ok (.getfield 117, 3) := lkT_ok tk_MRm_isHere rfl
theorem d_MRm_isHere_4 : decode MRm_isHere.2.2.1 4 = .ok (.ifCond .ge 31, 3) := lkT_ok tk_MRm_isHere rfl
theorem d_MRm_isHere_7 : decode MRm_isHere.2.2.1 7 = .ok (.aload_n 0, 1) := lkT_ok tk_MRm_isHere rfl
theorem d_MRm_isHere_8 : decode MRm_isHere.2.2.1 8 = .ok (.getfield 120, 3) := lkT_ok tk_MRm_isHere rfl
theorem d_MRm_isHere_11 : decode MRm_isHere.2.2.1 11 = .ok (.aload_n 0, 1) := lkT_ok tk_MRm_isHere rfl
theorem d_MRm_isHere_12 : decode MRm_isHere.2.2.1 12 = .ok (.getfield 111, 3) := lkT_ok tk_MRm_isHere rfl
theorem d_MRm_isHere_15 : decode MRm_isHere.2.2.1 15 = .ok (.if_icmp .ge 20, 3) := lkT_ok tk_MRm_isHere rfl
theorem d_MRm_isHere_18 : decode MRm_isHere.2.2.1 18 = .ok (.aload_n 0, 1) := lkT_ok tk_MRm_isHere rfl
theorem d_MRm_isHere_19 : decode MRm_isHere.2.2.1 19 = .ok (.getfield 7, 3) := lkT_ok tk_MRm_isHere rfl
theorem d_MRm_isHere_22 : decode MRm_isHere.2.2.1 22 = .ok (.aload_n 0, 1) := lkT_ok tk_MRm_isHere rfl
theorem d_MRm_isHere_23 : decode MRm_isHere.2.2.1 23 = .ok (.getfield 120, 3) := lkT_ok tk_MRm_isHere rfl
theorem d_MRm_isHere_26 : decode MRm_isHere.2.2.1 26 = .ok (.baload, 1) := lkT_ok tk_MRm_isHere rfl
theorem d_MRm_isHere_27 : decode MRm_isHere.2.2.1 27 = .ok (.iload_n 1, 1) := lkT_ok tk_MRm_isHere rfl
theorem d_MRm_isHere_28 : decode MRm_isHere.2.2.1 28 = .ok (.if_icmp .ne 7, 3) := lkT_ok tk_MRm_isHere rfl
theorem d_MRm_isHere_31 : decode MRm_isHere.2.2.1 31 = .ok (.iconst 1, 1) := lkT_ok tk_MRm_isHere rfl
theorem d_MRm_isHere_32 : decode MRm_isHere.2.2.1 32 = .ok (.goto 4, 3) := lkT_ok tk_MRm_isHere rfl
theorem d_MRm_isHere_35 : decode MRm_isHere.2.2.1 35 = .ok (.iconst 0, 1) := lkT_ok tk_MRm_isHere rfl
theorem d_MRm_isHere_36 : decode MRm_isHere.2.2.1 36 = .ok (.ireturn, 1) := lkT_ok tk_MRm_isHere rfl
theorem r_MRm_isHere_0 {l1 : Value} {x : Nat} : Rr X d MRm_isHere 0 [.ref x, l1] st h = Rr X d MRm_isHere 1 [.ref x, l1] (.ref x :: st) h := Rr_nx d_MRm_isHere_0 rfl
theorem r_MRm_isHere_1 {a : Nat} (hq : qI a 10 19 = true) : Rr X d MRm_isHere 1 L (.ref a :: st) (Wd mu la ro et) = Rr X d MRm_isHere 4 L (.int (mu a 19) :: st) (Wd mu la ro et) := R_gfI d_MRm_isHere_1 ff_10_117 hq
theorem r_MRm_isHere_4 {x : Int32} : Rr X d MRm_isHere 4 L (.int x :: st) h = if 0 ≤ x then Rr X d MRm_isHere 35 L st h else Rr X d MRm_isHere 7 L st h := R_if_ge d_MRm_isHere_4 (by decide)
theorem r_MRm_isHere_7 {l1 : Value} {x : Nat} : Rr X d MRm_isHere 7 [.ref x, l1] st h = Rr X d MRm_isHere 8 [.ref x, l1] (.ref x :: st) h := Rr_nx d_MRm_isHere_7 rfl
theorem r_MRm_isHere_8 {a : Nat} (hq : qI a 10 18 = true) : Rr X d MRm_isHere 8 L (.ref a :: st) (Wd mu la ro et) = Rr X d MRm_isHere 11 L (.int (mu a 18) :: st) (Wd mu la ro et) := R_gfI d_MRm_isHere_8 ff_10_120 hq
theorem r_MRm_isHere_11 {l1 : Value} {x : Nat} : Rr X d MRm_isHere 11 [.ref x, l1] st h = Rr X d MRm_isHere 12 [.ref x, l1] (.ref x :: st) h := Rr_nx d_MRm_isHere_11 rfl
theorem r_MRm_isHere_12 {a : Nat} (hq : qI a 10 2 = true) : Rr X d MRm_isHere 12 L (.ref a :: st) (Wd mu la ro et) = Rr X d MRm_isHere 15 L (.int (mu a 2) :: st) (Wd mu la ro et) := R_gfI d_MRm_isHere_12 ff_10_111 hq
theorem r_MRm_isHere_15 {x y : Int32} : Rr X d MRm_isHere 15 L (.int y :: .int x :: st) h = if y ≤ x then Rr X d MRm_isHere 35 L st h else Rr X d MRm_isHere 18 L st h := R_ic_ge d_MRm_isHere_15 (by decide)
theorem r_MRm_isHere_18 {l1 : Value} {x : Nat} : Rr X d MRm_isHere 18 [.ref x, l1] st h = Rr X d MRm_isHere 19 [.ref x, l1] (.ref x :: st) h := Rr_nx d_MRm_isHere_18 rfl
theorem r_MRm_isHere_19 {a : Nat} (hq : (qR a 10 1).isSome = true) : Rr X d MRm_isHere 19 L (.ref a :: st) (Wd mu la ro et) = Rr X d MRm_isHere 22 L (.ref (qRd a 10 1) :: st) (Wd mu la ro et) := R_gfR d_MRm_isHere_19 ff_10_7 hq
theorem r_MRm_isHere_22 {l1 : Value} {x : Nat} : Rr X d MRm_isHere 22 [.ref x, l1] st h = Rr X d MRm_isHere 23 [.ref x, l1] (.ref x :: st) h := Rr_nx d_MRm_isHere_22 rfl
theorem r_MRm_isHere_23 {a : Nat} (hq : qI a 10 18 = true) : Rr X d MRm_isHere 23 L (.ref a :: st) (Wd mu la ro et) = Rr X d MRm_isHere 26 L (.int (mu a 18) :: st) (Wd mu la ro et) := R_gfI d_MRm_isHere_23 ff_10_120 hq
theorem r_MRm_isHere_26 {a : Nat} {j : Int32} (hq : (qA a 2).isSome = true) : Rr X d MRm_isHere 26 L (.int j :: .ref a :: st) (Wd mu la ro et) = if j < 0 ∨ qAd a 2 ≤ j.toNatClampNeg then none else Rr X d MRm_isHere 27 L (.int (mu a j.toNatClampNeg) :: st) (Wd mu la ro et) := R_balW d_MRm_isHere_26 hq
theorem r_MRm_isHere_27 {l0 : Value} {x : Int32} : Rr X d MRm_isHere 27 [l0, .int x] st h = Rr X d MRm_isHere 28 [l0, .int x] (.int x :: st) h := Rr_nx d_MRm_isHere_27 rfl
theorem r_MRm_isHere_28 {x y : Int32} : Rr X d MRm_isHere 28 L (.int y :: .int x :: st) h = if ¬ x = y then Rr X d MRm_isHere 35 L st h else Rr X d MRm_isHere 31 L st h := R_ic_ne d_MRm_isHere_28 (by decide)
theorem r_MRm_isHere_31 : Rr X d MRm_isHere 31 L st h = Rr X d MRm_isHere 32 L (.int (1) :: st) h := Rr_nx d_MRm_isHere_31 rfl
theorem r_MRm_isHere_32 : Rr X d MRm_isHere 32 L st h = Rr X d MRm_isHere 36 L st h := R_goto d_MRm_isHere_32 (by decide)
theorem r_MRm_isHere_35 : Rr X d MRm_isHere 35 L st h = Rr X d MRm_isHere 36 L (.int (0) :: st) h := Rr_nx d_MRm_isHere_35 rfl
theorem r_MRm_isHere_36 {x : Int32} : Rr X d MRm_isHere 36 L [.int x] h = if x = 0 ∨ x = 1 then some (some (.int x), h) else none := R_zr d_MRm_isHere_36 rfl
theorem d_MRm_takes_0 : decode MRm_takes.2.2.1 0 = .ok (.aload_n 0, 1) := lkT_ok tk_MRm_takes rfl
theorem d_MRm_takes_1 : decode MRm_takes.2.2.1 1 = .ok (.iload_n 1, 1) := lkT_ok tk_MRm_takes rfl
theorem d_MRm_takes_2 : decode MRm_takes.2.2.1 2 = .ok (.invokevirtual 123, 3) := lkT_ok tk_MRm_takes rfl
theorem d_MRm_takes_5 : decode MRm_takes.2.2.1 5 = .ok (.ifCond .eq 16, 3) := lkT_ok tk_MRm_takes rfl
theorem d_MRm_takes_8 : decode MRm_takes.2.2.1 8 = .ok (.aload_n 0, 1) := lkT_ok tk_MRm_takes rfl
theorem d_MRm_takes_9 : decode MRm_takes.2.2.1 9 = .ok (.dup, 1) := lkT_ok tk_MRm_takes rfl
theorem d_MRm_takes_10 : decode MRm_takes.2.2.1 10 = .ok (.getfield 120, 3) := lkT_ok tk_MRm_takes rfl
theorem d_MRm_takes_13 : decode MRm_takes.2.2.1 13 = .ok (.iconst 1, 1) := lkT_ok tk_MRm_takes rfl
theorem d_MRm_takes_14 : decode MRm_takes.2.2.1 14 = .ok (.iadd, 1) := lkT_ok tk_MRm_takes rfl
theorem d_MRm_takes_15 : decode MRm_takes.2.2.1 15 = .ok (.putfield 120, 3) := lkT_ok tk_MRm_takes rfl
theorem d_MRm_takes_18 : decode MRm_takes.2.2.1 18 = .ok (.goto 18, 3) := lkT_ok tk_MRm_takes rfl
theorem d_MRm_takes_21 : decode MRm_takes.2.2.1 21 = .ok (.aload_n 0, 1) := lkT_ok tk_MRm_takes rfl
theorem d_MRm_takes_22 : decode MRm_takes.2.2.1 22 = .ok (.getfield 117, 3) := lkT_ok tk_MRm_takes rfl
theorem d_MRm_takes_25 : decode MRm_takes.2.2.1 25 = .ok (.ifCond .ge 11, 3) := lkT_ok tk_MRm_takes rfl
theorem d_MRm_takes_28 : decode MRm_takes.2.2.1 28 = .ok (.aload_n 0, 1) := lkT_ok tk_MRm_takes rfl
theorem d_MRm_takes_29 : decode MRm_takes.2.2.1 29 = .ok (.aload_n 0, 1) := lkT_ok tk_MRm_takes rfl
theorem d_MRm_takes_30 : decode MRm_takes.2.2.1 30 = .ok (.getfield 120, 3) := lkT_ok tk_MRm_takes rfl
theorem d_MRm_takes_33 : decode MRm_takes.2.2.1 33 = .ok (.putfield 117, 3) := lkT_ok tk_MRm_takes rfl
theorem d_MRm_takes_36 : decode MRm_takes.2.2.1 36 = .ok (.return_, 1) := lkT_ok tk_MRm_takes rfl
theorem r_MRm_takes_0 {l1 : Value} {x : Nat} : Rr X d MRm_takes 0 [.ref x, l1] st h = Rr X d MRm_takes 1 [.ref x, l1] (.ref x :: st) h := Rr_nx d_MRm_takes_0 rfl
theorem r_MRm_takes_1 {l0 : Value} {x : Int32} : Rr X d MRm_takes 1 [l0, .int x] st h = Rr X d MRm_takes 2 [l0, .int x] (.int x :: st) h := Rr_nx d_MRm_takes_1 rfl
theorem fc_10_123 : fC 10 123 = some (0, 10, 1, MRm_isHere) := rfl
theorem r_MRm_takes_2 {y0 : Int32} {a : Nat} (hO : qO a 10 = true) (hc : ckS st = true) : Rr X (d + 1) MRm_takes 2 L (.int y0 :: .ref a :: st) (Wd mu la ro et) = (Rr X d MRm_isHere 0 [.ref a, .int y0] [] (Wd mu la ro et)).bind fun q => Rr X (d + 1) MRm_takes 5 L (psh q.1 st) q.2 := R_iv (av := [.int y0]) d_MRm_takes_2 fc_10_123 hO (ckS_le hc) rfl (Nat.le_of_ble_eq_true rfl) (Nat.le_of_ble_eq_true rfl)
theorem r_MRm_takes_5 {x : Int32} : Rr X d MRm_takes 5 L (.int x :: st) h = if x = 0 then Rr X d MRm_takes 21 L st h else Rr X d MRm_takes 8 L st h := R_if_eq d_MRm_takes_5 (by decide)
theorem r_MRm_takes_8 {l1 : Value} {x : Nat} : Rr X d MRm_takes 8 [.ref x, l1] st h = Rr X d MRm_takes 9 [.ref x, l1] (.ref x :: st) h := Rr_nx d_MRm_takes_8 rfl
theorem r_MRm_takes_9 {x : Nat} : Rr X d MRm_takes 9 L (.ref x :: st) h = Rr X d MRm_takes 10 L (.ref x :: .ref x :: st) h := Rr_nx d_MRm_takes_9 rfl
theorem r_MRm_takes_9i {x : Int32} : Rr X d MRm_takes 9 L (.int x :: st) h = Rr X d MRm_takes 10 L (.int x :: .int x :: st) h := Rr_nx d_MRm_takes_9 rfl
theorem r_MRm_takes_10 {a : Nat} (hq : qI a 10 18 = true) : Rr X d MRm_takes 10 L (.ref a :: st) (Wd mu la ro et) = Rr X d MRm_takes 13 L (.int (mu a 18) :: st) (Wd mu la ro et) := R_gfI d_MRm_takes_10 ff_10_120 hq
theorem r_MRm_takes_13 : Rr X d MRm_takes 13 L st h = Rr X d MRm_takes 14 L (.int (1) :: st) h := Rr_nx d_MRm_takes_13 rfl
theorem r_MRm_takes_14 {x y : Int32} : Rr X d MRm_takes 14 L (.int y :: .int x :: st) h = Rr X d MRm_takes 15 L (.int (x + y) :: st) h := Rr_nx d_MRm_takes_14 rfl
theorem r_MRm_takes_15 {a : Nat} {x : Int32} (hq : qI a 10 18 = true) : Rr X d MRm_takes 15 L (.int x :: .ref a :: st) (Wd mu la ro et) = Rr X d MRm_takes 18 L st (Wd (up2 mu a 18 x) la ro et) := R_pfI d_MRm_takes_15 ff_10_120 hq
theorem r_MRm_takes_18 : Rr X d MRm_takes 18 L st h = Rr X d MRm_takes 36 L st h := R_goto d_MRm_takes_18 (by decide)
theorem r_MRm_takes_21 {l1 : Value} {x : Nat} : Rr X d MRm_takes 21 [.ref x, l1] st h = Rr X d MRm_takes 22 [.ref x, l1] (.ref x :: st) h := Rr_nx d_MRm_takes_21 rfl
theorem r_MRm_takes_22 {a : Nat} (hq : qI a 10 19 = true) : Rr X d MRm_takes 22 L (.ref a :: st) (Wd mu la ro et) = Rr X d MRm_takes 25 L (.int (mu a 19) :: st) (Wd mu la ro et) := R_gfI d_MRm_takes_22 ff_10_117 hq
theorem r_MRm_takes_25 {x : Int32} : Rr X d MRm_takes 25 L (.int x :: st) h = if 0 ≤ x then Rr X d MRm_takes 36 L st h else Rr X d MRm_takes 28 L st h := R_if_ge d_MRm_takes_25 (by decide)
theorem r_MRm_takes_28 {l1 : Value} {x : Nat} : Rr X d MRm_takes 28 [.ref x, l1] st h = Rr X d MRm_takes 29 [.ref x, l1] (.ref x :: st) h := Rr_nx d_MRm_takes_28 rfl
theorem r_MRm_takes_29 {l1 : Value} {x : Nat} : Rr X d MRm_takes 29 [.ref x, l1] st h = Rr X d MRm_takes 30 [.ref x, l1] (.ref x :: st) h := Rr_nx d_MRm_takes_29 rfl
theorem r_MRm_takes_30 {a : Nat} (hq : qI a 10 18 = true) : Rr X d MRm_takes 30 L (.ref a :: st) (Wd mu la ro et) = Rr X d MRm_takes 33 L (.int (mu a 18) :: st) (Wd mu la ro et) := R_gfI d_MRm_takes_30 ff_10_120 hq
theorem r_MRm_takes_33 {a : Nat} {x : Int32} (hq : qI a 10 19 = true) : Rr X d MRm_takes 33 L (.int x :: .ref a :: st) (Wd mu la ro et) = Rr X d MRm_takes 36 L st (Wd (up2 mu a 19 x) la ro et) := R_pfI d_MRm_takes_33 ff_10_117 hq
theorem r_MRm_takes_36 : Rr X d MRm_takes 36 L [] h = some (none, h) := Rr_rt d_MRm_takes_36 rfl
theorem d_MRm_digit_0 : decode MRm_digit.2.2.1 0 = .ok (.aload_n 0, 1) := lkT_ok tk_MRm_digit rfl
theorem d_MRm_digit_1 : decode MRm_digit.2.2.1 1 = .ok (.getfield 117, 3) := lkT_ok tk_MRm_digit rfl
theorem d_MRm_digit_4 : decode MRm_digit.2.2.1 4 = .ok (.ifCond .lt 5, 3) := lkT_ok tk_MRm_digit rfl
theorem d_MRm_digit_7 : decode MRm_digit.2.2.1 7 = .ok (.iconst 0, 1) := lkT_ok tk_MRm_digit rfl
theorem d_MRm_digit_8 : decode MRm_digit.2.2.1 8 = .ok (.ireturn, 1) := lkT_ok tk_MRm_digit rfl
theorem d_MRm_digit_9 : decode MRm_digit.2.2.1 9 = .ok (.aload_n 0, 1) := lkT_ok tk_MRm_digit rfl
theorem d_MRm_digit_10 : decode MRm_digit.2.2.1 10 = .ok (.getfield 120, 3) := lkT_ok tk_MRm_digit rfl
theorem d_MRm_digit_13 : decode MRm_digit.2.2.1 13 = .ok (.aload_n 0, 1) := lkT_ok tk_MRm_digit rfl
theorem d_MRm_digit_14 : decode MRm_digit.2.2.1 14 = .ok (.getfield 111, 3) := lkT_ok tk_MRm_digit rfl
theorem d_MRm_digit_17 : decode MRm_digit.2.2.1 17 = .ok (.if_icmp .ge 18, 3) := lkT_ok tk_MRm_digit rfl
theorem d_MRm_digit_20 : decode MRm_digit.2.2.1 20 = .ok (.aload_n 0, 1) := lkT_ok tk_MRm_digit rfl
theorem d_MRm_digit_21 : decode MRm_digit.2.2.1 21 = .ok (.getfield 7, 3) := lkT_ok tk_MRm_digit rfl
theorem d_MRm_digit_24 : decode MRm_digit.2.2.1 24 = .ok (.aload_n 0, 1) := lkT_ok tk_MRm_digit rfl
theorem d_MRm_digit_25 : decode MRm_digit.2.2.1 25 = .ok (.getfield 120, 3) := lkT_ok tk_MRm_digit rfl
theorem d_MRm_digit_28 : decode MRm_digit.2.2.1 28 = .ok (.baload, 1) := lkT_ok tk_MRm_digit rfl
theorem d_MRm_digit_29 : decode MRm_digit.2.2.1 29 = .ok (.bipush 48, 2) := lkT_ok tk_MRm_digit rfl
theorem d_MRm_digit_31 : decode MRm_digit.2.2.1 31 = .ok (.isub, 1) := lkT_ok tk_MRm_digit rfl
theorem d_MRm_digit_32 : decode MRm_digit.2.2.1 32 = .ok (.goto 4, 3) := lkT_ok tk_MRm_digit rfl
theorem d_MRm_digit_35 : decode MRm_digit.2.2.1 35 = .ok (.iconst (-1), 1) := lkT_ok tk_MRm_digit rfl
theorem d_MRm_digit_36 : decode MRm_digit.2.2.1 36 = .ok (.istore_n 2, 1) := lkT_ok tk_MRm_digit rfl
theorem d_MRm_digit_37 : decode MRm_digit.2.2.1 37 = .ok (.iload_n 2, 1) := lkT_ok tk_MRm_digit rfl
theorem d_MRm_digit_38 : decode MRm_digit.2.2.1 38 = .ok (.iload_n 1, 1) := lkT_ok tk_MRm_digit rfl
theorem d_MRm_digit_39 : decode MRm_digit.2.2.1 39 = .ok (.bipush 9, 2) := lkT_ok tk_MRm_digit rfl
theorem d_MRm_digit_41 : decode MRm_digit.2.2.1 41 = .ok (.invokestatic 107, 3) := lkT_ok tk_MRm_digit rfl
theorem d_MRm_digit_44 : decode MRm_digit.2.2.1 44 = .ok (.ifCond .ne 13, 3) := lkT_ok tk_MRm_digit rfl
theorem d_MRm_digit_47 : decode MRm_digit.2.2.1 47 = .ok (.aload_n 0, 1) := lkT_ok tk_MRm_digit rfl
theorem d_MRm_digit_48 : decode MRm_digit.2.2.1 48 = .ok (.aload_n 0, 1) := lkT_ok tk_MRm_digit rfl
theorem d_MRm_digit_49 : decode MRm_digit.2.2.1 49 = .ok (.getfield 120, 3) := lkT_ok tk_MRm_digit rfl
theorem d_MRm_digit_52 : decode MRm_digit.2.2.1 52 = .ok (.putfield 117, 3) := lkT_ok tk_MRm_digit rfl
theorem d_MRm_digit_55 : decode MRm_digit.2.2.1 55 = .ok (.iconst 0, 1) := lkT_ok tk_MRm_digit rfl
theorem d_MRm_digit_56 : decode MRm_digit.2.2.1 56 = .ok (.ireturn, 1) := lkT_ok tk_MRm_digit rfl
theorem d_MRm_digit_57 : decode MRm_digit.2.2.1 57 = .ok (.aload_n 0, 1) := lkT_ok tk_MRm_digit rfl
theorem d_MRm_digit_58 : decode MRm_digit.2.2.1 58 = .ok (.dup, 1) := lkT_ok tk_MRm_digit rfl
theorem d_MRm_digit_59 : decode MRm_digit.2.2.1 59 = .ok (.getfield 120, 3) := lkT_ok tk_MRm_digit rfl
theorem d_MRm_digit_62 : decode MRm_digit.2.2.1 62 = .ok (.iconst 1, 1) := lkT_ok tk_MRm_digit rfl
theorem d_MRm_digit_63 : decode MRm_digit.2.2.1 63 = .ok (.iadd, 1) := lkT_ok tk_MRm_digit rfl
theorem d_MRm_digit_64 : decode MRm_digit.2.2.1 64 = .ok (.putfield 120, 3) := lkT_ok tk_MRm_digit rfl
theorem d_MRm_digit_67 : decode MRm_digit.2.2.1 67 = .ok (.iload_n 2, 1) := lkT_ok tk_MRm_digit rfl
theorem d_MRm_digit_68 : decode MRm_digit.2.2.1 68 = .ok (.ireturn, 1) := lkT_ok tk_MRm_digit rfl
theorem r_MRm_digit_0 {l1 l2 : Value} {x : Nat} : Rr X d MRm_digit 0 [.ref x, l1, l2] st h = Rr X d MRm_digit 1 [.ref x, l1, l2] (.ref x :: st) h := Rr_nx d_MRm_digit_0 rfl
theorem r_MRm_digit_1 {a : Nat} (hq : qI a 10 19 = true) : Rr X d MRm_digit 1 L (.ref a :: st) (Wd mu la ro et) = Rr X d MRm_digit 4 L (.int (mu a 19) :: st) (Wd mu la ro et) := R_gfI d_MRm_digit_1 ff_10_117 hq
theorem r_MRm_digit_4 {x : Int32} : Rr X d MRm_digit 4 L (.int x :: st) h = if x < 0 then Rr X d MRm_digit 9 L st h else Rr X d MRm_digit 7 L st h := R_if_lt d_MRm_digit_4 (by decide)
theorem r_MRm_digit_7 : Rr X d MRm_digit 7 L st h = Rr X d MRm_digit 8 L (.int (0) :: st) h := Rr_nx d_MRm_digit_7 rfl
theorem r_MRm_digit_8 {x : Int32} : Rr X d MRm_digit 8 L [.int x] h = some (some (.int x), h) := R_ir d_MRm_digit_8 rfl
theorem r_MRm_digit_9 {l1 l2 : Value} {x : Nat} : Rr X d MRm_digit 9 [.ref x, l1, l2] st h = Rr X d MRm_digit 10 [.ref x, l1, l2] (.ref x :: st) h := Rr_nx d_MRm_digit_9 rfl
theorem r_MRm_digit_10 {a : Nat} (hq : qI a 10 18 = true) : Rr X d MRm_digit 10 L (.ref a :: st) (Wd mu la ro et) = Rr X d MRm_digit 13 L (.int (mu a 18) :: st) (Wd mu la ro et) := R_gfI d_MRm_digit_10 ff_10_120 hq
theorem r_MRm_digit_13 {l1 l2 : Value} {x : Nat} : Rr X d MRm_digit 13 [.ref x, l1, l2] st h = Rr X d MRm_digit 14 [.ref x, l1, l2] (.ref x :: st) h := Rr_nx d_MRm_digit_13 rfl
theorem r_MRm_digit_14 {a : Nat} (hq : qI a 10 2 = true) : Rr X d MRm_digit 14 L (.ref a :: st) (Wd mu la ro et) = Rr X d MRm_digit 17 L (.int (mu a 2) :: st) (Wd mu la ro et) := R_gfI d_MRm_digit_14 ff_10_111 hq
theorem r_MRm_digit_17 {x y : Int32} : Rr X d MRm_digit 17 L (.int y :: .int x :: st) h = if y ≤ x then Rr X d MRm_digit 35 L st h else Rr X d MRm_digit 20 L st h := R_ic_ge d_MRm_digit_17 (by decide)
theorem r_MRm_digit_20 {l1 l2 : Value} {x : Nat} : Rr X d MRm_digit 20 [.ref x, l1, l2] st h = Rr X d MRm_digit 21 [.ref x, l1, l2] (.ref x :: st) h := Rr_nx d_MRm_digit_20 rfl
theorem r_MRm_digit_21 {a : Nat} (hq : (qR a 10 1).isSome = true) : Rr X d MRm_digit 21 L (.ref a :: st) (Wd mu la ro et) = Rr X d MRm_digit 24 L (.ref (qRd a 10 1) :: st) (Wd mu la ro et) := R_gfR d_MRm_digit_21 ff_10_7 hq
theorem r_MRm_digit_24 {l1 l2 : Value} {x : Nat} : Rr X d MRm_digit 24 [.ref x, l1, l2] st h = Rr X d MRm_digit 25 [.ref x, l1, l2] (.ref x :: st) h := Rr_nx d_MRm_digit_24 rfl
theorem r_MRm_digit_25 {a : Nat} (hq : qI a 10 18 = true) : Rr X d MRm_digit 25 L (.ref a :: st) (Wd mu la ro et) = Rr X d MRm_digit 28 L (.int (mu a 18) :: st) (Wd mu la ro et) := R_gfI d_MRm_digit_25 ff_10_120 hq
theorem r_MRm_digit_28 {a : Nat} {j : Int32} (hq : (qA a 2).isSome = true) : Rr X d MRm_digit 28 L (.int j :: .ref a :: st) (Wd mu la ro et) = if j < 0 ∨ qAd a 2 ≤ j.toNatClampNeg then none else Rr X d MRm_digit 29 L (.int (mu a j.toNatClampNeg) :: st) (Wd mu la ro et) := R_balW d_MRm_digit_28 hq
theorem r_MRm_digit_29 : Rr X d MRm_digit 29 L st h = Rr X d MRm_digit 31 L (.int (48) :: st) h := Rr_nx d_MRm_digit_29 rfl
theorem r_MRm_digit_31 {x y : Int32} : Rr X d MRm_digit 31 L (.int y :: .int x :: st) h = Rr X d MRm_digit 32 L (.int (x - y) :: st) h := Rr_nx d_MRm_digit_31 rfl
theorem r_MRm_digit_32 : Rr X d MRm_digit 32 L st h = Rr X d MRm_digit 36 L st h := R_goto d_MRm_digit_32 (by decide)
theorem r_MRm_digit_35 : Rr X d MRm_digit 35 L st h = Rr X d MRm_digit 36 L (.int (-1) :: st) h := Rr_nx d_MRm_digit_35 rfl
theorem r_MRm_digit_36 {l0 l1 l2 : Value} {x : Int32} : Rr X d MRm_digit 36 [l0, l1, l2] (.int x :: st) h = Rr X d MRm_digit 37 (sL [l0, l1, l2] 2 (.int x)) st h := Rr_nx d_MRm_digit_36 rfl
theorem r_MRm_digit_37 {l0 l1 : Value} {x : Int32} : Rr X d MRm_digit 37 [l0, l1, .int x] st h = Rr X d MRm_digit 38 [l0, l1, .int x] (.int x :: st) h := Rr_nx d_MRm_digit_37 rfl
theorem r_MRm_digit_38 {l0 l2 : Value} {x : Int32} : Rr X d MRm_digit 38 [l0, .int x, l2] st h = Rr X d MRm_digit 39 [l0, .int x, l2] (.int x :: st) h := Rr_nx d_MRm_digit_38 rfl
theorem r_MRm_digit_39 : Rr X d MRm_digit 39 L st h = Rr X d MRm_digit 41 L (.int (9) :: st) h := Rr_nx d_MRm_digit_39 rfl
theorem r_MRm_digit_41 {y0 : Int32} {y1 : Int32} {y2 : Int32} (hc : ckS st = true) : Rr X (d + 1) MRm_digit 41 L (.int y2 :: .int y1 :: .int y0 :: st) h = (Rr X d MRm_in 0 [.int y0, .int y1, .int y2] [] h).bind fun q => Rr X (d + 1) MRm_digit 44 L (psh q.1 st) q.2 := R_is (av := [.int y2, .int y1, .int y0]) d_MRm_digit_41 (Or.inl fc_10_107) (ckS_le hc) rfl (Nat.le_of_ble_eq_true rfl) (Nat.le_of_ble_eq_true rfl)
theorem r_MRm_digit_44 {x : Int32} : Rr X d MRm_digit 44 L (.int x :: st) h = if ¬ x = 0 then Rr X d MRm_digit 57 L st h else Rr X d MRm_digit 47 L st h := R_if_ne d_MRm_digit_44 (by decide)
theorem r_MRm_digit_47 {l1 l2 : Value} {x : Nat} : Rr X d MRm_digit 47 [.ref x, l1, l2] st h = Rr X d MRm_digit 48 [.ref x, l1, l2] (.ref x :: st) h := Rr_nx d_MRm_digit_47 rfl
theorem r_MRm_digit_48 {l1 l2 : Value} {x : Nat} : Rr X d MRm_digit 48 [.ref x, l1, l2] st h = Rr X d MRm_digit 49 [.ref x, l1, l2] (.ref x :: st) h := Rr_nx d_MRm_digit_48 rfl
theorem r_MRm_digit_49 {a : Nat} (hq : qI a 10 18 = true) : Rr X d MRm_digit 49 L (.ref a :: st) (Wd mu la ro et) = Rr X d MRm_digit 52 L (.int (mu a 18) :: st) (Wd mu la ro et) := R_gfI d_MRm_digit_49 ff_10_120 hq
theorem r_MRm_digit_52 {a : Nat} {x : Int32} (hq : qI a 10 19 = true) : Rr X d MRm_digit 52 L (.int x :: .ref a :: st) (Wd mu la ro et) = Rr X d MRm_digit 55 L st (Wd (up2 mu a 19 x) la ro et) := R_pfI d_MRm_digit_52 ff_10_117 hq
theorem r_MRm_digit_55 : Rr X d MRm_digit 55 L st h = Rr X d MRm_digit 56 L (.int (0) :: st) h := Rr_nx d_MRm_digit_55 rfl
theorem r_MRm_digit_56 {x : Int32} : Rr X d MRm_digit 56 L [.int x] h = some (some (.int x), h) := R_ir d_MRm_digit_56 rfl
theorem r_MRm_digit_57 {l1 l2 : Value} {x : Nat} : Rr X d MRm_digit 57 [.ref x, l1, l2] st h = Rr X d MRm_digit 58 [.ref x, l1, l2] (.ref x :: st) h := Rr_nx d_MRm_digit_57 rfl
theorem r_MRm_digit_58 {x : Nat} : Rr X d MRm_digit 58 L (.ref x :: st) h = Rr X d MRm_digit 59 L (.ref x :: .ref x :: st) h := Rr_nx d_MRm_digit_58 rfl
theorem r_MRm_digit_58i {x : Int32} : Rr X d MRm_digit 58 L (.int x :: st) h = Rr X d MRm_digit 59 L (.int x :: .int x :: st) h := Rr_nx d_MRm_digit_58 rfl
theorem r_MRm_digit_59 {a : Nat} (hq : qI a 10 18 = true) : Rr X d MRm_digit 59 L (.ref a :: st) (Wd mu la ro et) = Rr X d MRm_digit 62 L (.int (mu a 18) :: st) (Wd mu la ro et) := R_gfI d_MRm_digit_59 ff_10_120 hq
theorem r_MRm_digit_62 : Rr X d MRm_digit 62 L st h = Rr X d MRm_digit 63 L (.int (1) :: st) h := Rr_nx d_MRm_digit_62 rfl
theorem r_MRm_digit_63 {x y : Int32} : Rr X d MRm_digit 63 L (.int y :: .int x :: st) h = Rr X d MRm_digit 64 L (.int (x + y) :: st) h := Rr_nx d_MRm_digit_63 rfl
theorem r_MRm_digit_64 {a : Nat} {x : Int32} (hq : qI a 10 18 = true) : Rr X d MRm_digit 64 L (.int x :: .ref a :: st) (Wd mu la ro et) = Rr X d MRm_digit 67 L st (Wd (up2 mu a 18 x) la ro et) := R_pfI d_MRm_digit_64 ff_10_120 hq
theorem r_MRm_digit_67 {l0 l1 : Value} {x : Int32} : Rr X d MRm_digit 67 [l0, l1, .int x] st h = Rr X d MRm_digit 68 [l0, l1, .int x] (.int x :: st) h := Rr_nx d_MRm_digit_67 rfl
theorem r_MRm_digit_68 {x : Int32} : Rr X d MRm_digit 68 L [.int x] h = some (some (.int x), h) := R_ir d_MRm_digit_68 rfl
theorem d_MRm_signed_0 : decode MRm_signed.2.2.1 0 = .ok (.aload_n 0, 1) := lkT_ok tk_MRm_signed rfl
theorem d_MRm_signed_1 : decode MRm_signed.2.2.1 1 = .ok (.bipush 45, 2) := lkT_ok tk_MRm_signed rfl
theorem d_MRm_signed_3 : decode MRm_signed.2.2.1 3 = .ok (.invokevirtual 123, 3) := lkT_ok tk_MRm_signed rfl
theorem d_MRm_signed_6 : decode MRm_signed.2.2.1 6 = .ok (.ifCond .eq 7, 3) := lkT_ok tk_MRm_signed rfl
theorem d_MRm_signed_9 : decode MRm_signed.2.2.1 9 = .ok (.iconst (-1), 1) := lkT_ok tk_MRm_signed rfl
theorem d_MRm_signed_10 : decode MRm_signed.2.2.1 10 = .ok (.goto 4, 3) := lkT_ok tk_MRm_signed rfl
theorem d_MRm_signed_13 : decode MRm_signed.2.2.1 13 = .ok (.iconst 1, 1) := lkT_ok tk_MRm_signed rfl
theorem d_MRm_signed_14 : decode MRm_signed.2.2.1 14 = .ok (.istore_n 1, 1) := lkT_ok tk_MRm_signed rfl
theorem d_MRm_signed_15 : decode MRm_signed.2.2.1 15 = .ok (.aload_n 0, 1) := lkT_ok tk_MRm_signed rfl
theorem d_MRm_signed_16 : decode MRm_signed.2.2.1 16 = .ok (.bipush 43, 2) := lkT_ok tk_MRm_signed rfl
theorem d_MRm_signed_18 : decode MRm_signed.2.2.1 18 = .ok (.invokevirtual 123, 3) := lkT_ok tk_MRm_signed rfl
theorem d_MRm_signed_21 : decode MRm_signed.2.2.1 21 = .ok (.ifCond .ne 12, 3) := lkT_ok tk_MRm_signed rfl
theorem d_MRm_signed_24 : decode MRm_signed.2.2.1 24 = .ok (.aload_n 0, 1) := lkT_ok tk_MRm_signed rfl
theorem d_MRm_signed_25 : decode MRm_signed.2.2.1 25 = .ok (.bipush 45, 2) := lkT_ok tk_MRm_signed rfl
theorem d_MRm_signed_27 : decode MRm_signed.2.2.1 27 = .ok (.invokevirtual 123, 3) := lkT_ok tk_MRm_signed rfl
theorem d_MRm_signed_30 : decode MRm_signed.2.2.1 30 = .ok (.ifCond .eq 16, 3) := lkT_ok tk_MRm_signed rfl
theorem d_MRm_signed_33 : decode MRm_signed.2.2.1 33 = .ok (.aload_n 0, 1) := lkT_ok tk_MRm_signed rfl
theorem d_MRm_signed_34 : decode MRm_signed.2.2.1 34 = .ok (.dup, 1) := lkT_ok tk_MRm_signed rfl
theorem d_MRm_signed_35 : decode MRm_signed.2.2.1 35 = .ok (.getfield 120, 3) := lkT_ok tk_MRm_signed rfl
theorem d_MRm_signed_38 : decode MRm_signed.2.2.1 38 = .ok (.iconst 1, 1) := lkT_ok tk_MRm_signed rfl
theorem d_MRm_signed_39 : decode MRm_signed.2.2.1 39 = .ok (.iadd, 1) := lkT_ok tk_MRm_signed rfl
theorem d_MRm_signed_40 : decode MRm_signed.2.2.1 40 = .ok (.putfield 120, 3) := lkT_ok tk_MRm_signed rfl
theorem d_MRm_signed_43 : decode MRm_signed.2.2.1 43 = .ok (.goto 18, 3) := lkT_ok tk_MRm_signed rfl
theorem d_MRm_signed_46 : decode MRm_signed.2.2.1 46 = .ok (.aload_n 0, 1) := lkT_ok tk_MRm_signed rfl
theorem d_MRm_signed_47 : decode MRm_signed.2.2.1 47 = .ok (.getfield 117, 3) := lkT_ok tk_MRm_signed rfl
theorem d_MRm_signed_50 : decode MRm_signed.2.2.1 50 = .ok (.ifCond .ge 11, 3) := lkT_ok tk_MRm_signed rfl
theorem d_MRm_signed_53 : decode MRm_signed.2.2.1 53 = .ok (.aload_n 0, 1) := lkT_ok tk_MRm_signed rfl
theorem d_MRm_signed_54 : decode MRm_signed.2.2.1 54 = .ok (.aload_n 0, 1) := lkT_ok tk_MRm_signed rfl
theorem d_MRm_signed_55 : decode MRm_signed.2.2.1 55 = .ok (.getfield 120, 3) := lkT_ok tk_MRm_signed rfl
theorem d_MRm_signed_58 : decode MRm_signed.2.2.1 58 = .ok (.putfield 117, 3) := lkT_ok tk_MRm_signed rfl
theorem d_MRm_signed_61 : decode MRm_signed.2.2.1 61 = .ok (.iload_n 1, 1) := lkT_ok tk_MRm_signed rfl
theorem d_MRm_signed_62 : decode MRm_signed.2.2.1 62 = .ok (.aload_n 0, 1) := lkT_ok tk_MRm_signed rfl
theorem d_MRm_signed_63 : decode MRm_signed.2.2.1 63 = .ok (.iconst 0, 1) := lkT_ok tk_MRm_signed rfl
theorem d_MRm_signed_64 : decode MRm_signed.2.2.1 64 = .ok (.invokevirtual 127, 3) := lkT_ok tk_MRm_signed rfl
theorem d_MRm_signed_67 : decode MRm_signed.2.2.1 67 = .ok (.imul, 1) := lkT_ok tk_MRm_signed rfl
theorem d_MRm_signed_68 : decode MRm_signed.2.2.1 68 = .ok (.ireturn, 1) := lkT_ok tk_MRm_signed rfl
theorem r_MRm_signed_0 {l1 : Value} {x : Nat} : Rr X d MRm_signed 0 [.ref x, l1] st h = Rr X d MRm_signed 1 [.ref x, l1] (.ref x :: st) h := Rr_nx d_MRm_signed_0 rfl
theorem r_MRm_signed_1 : Rr X d MRm_signed 1 L st h = Rr X d MRm_signed 3 L (.int (45) :: st) h := Rr_nx d_MRm_signed_1 rfl
theorem r_MRm_signed_3 {y0 : Int32} {a : Nat} (hO : qO a 10 = true) (hc : ckS st = true) : Rr X (d + 1) MRm_signed 3 L (.int y0 :: .ref a :: st) (Wd mu la ro et) = (Rr X d MRm_isHere 0 [.ref a, .int y0] [] (Wd mu la ro et)).bind fun q => Rr X (d + 1) MRm_signed 6 L (psh q.1 st) q.2 := R_iv (av := [.int y0]) d_MRm_signed_3 fc_10_123 hO (ckS_le hc) rfl (Nat.le_of_ble_eq_true rfl) (Nat.le_of_ble_eq_true rfl)
theorem r_MRm_signed_6 {x : Int32} : Rr X d MRm_signed 6 L (.int x :: st) h = if x = 0 then Rr X d MRm_signed 13 L st h else Rr X d MRm_signed 9 L st h := R_if_eq d_MRm_signed_6 (by decide)
theorem r_MRm_signed_9 : Rr X d MRm_signed 9 L st h = Rr X d MRm_signed 10 L (.int (-1) :: st) h := Rr_nx d_MRm_signed_9 rfl
theorem r_MRm_signed_10 : Rr X d MRm_signed 10 L st h = Rr X d MRm_signed 14 L st h := R_goto d_MRm_signed_10 (by decide)
theorem r_MRm_signed_13 : Rr X d MRm_signed 13 L st h = Rr X d MRm_signed 14 L (.int (1) :: st) h := Rr_nx d_MRm_signed_13 rfl
theorem r_MRm_signed_14 {l0 l1 : Value} {x : Int32} : Rr X d MRm_signed 14 [l0, l1] (.int x :: st) h = Rr X d MRm_signed 15 (sL [l0, l1] 1 (.int x)) st h := Rr_nx d_MRm_signed_14 rfl
theorem r_MRm_signed_15 {l1 : Value} {x : Nat} : Rr X d MRm_signed 15 [.ref x, l1] st h = Rr X d MRm_signed 16 [.ref x, l1] (.ref x :: st) h := Rr_nx d_MRm_signed_15 rfl
theorem r_MRm_signed_16 : Rr X d MRm_signed 16 L st h = Rr X d MRm_signed 18 L (.int (43) :: st) h := Rr_nx d_MRm_signed_16 rfl
theorem r_MRm_signed_18 {y0 : Int32} {a : Nat} (hO : qO a 10 = true) (hc : ckS st = true) : Rr X (d + 1) MRm_signed 18 L (.int y0 :: .ref a :: st) (Wd mu la ro et) = (Rr X d MRm_isHere 0 [.ref a, .int y0] [] (Wd mu la ro et)).bind fun q => Rr X (d + 1) MRm_signed 21 L (psh q.1 st) q.2 := R_iv (av := [.int y0]) d_MRm_signed_18 fc_10_123 hO (ckS_le hc) rfl (Nat.le_of_ble_eq_true rfl) (Nat.le_of_ble_eq_true rfl)
theorem r_MRm_signed_21 {x : Int32} : Rr X d MRm_signed 21 L (.int x :: st) h = if ¬ x = 0 then Rr X d MRm_signed 33 L st h else Rr X d MRm_signed 24 L st h := R_if_ne d_MRm_signed_21 (by decide)
theorem r_MRm_signed_24 {l1 : Value} {x : Nat} : Rr X d MRm_signed 24 [.ref x, l1] st h = Rr X d MRm_signed 25 [.ref x, l1] (.ref x :: st) h := Rr_nx d_MRm_signed_24 rfl
theorem r_MRm_signed_25 : Rr X d MRm_signed 25 L st h = Rr X d MRm_signed 27 L (.int (45) :: st) h := Rr_nx d_MRm_signed_25 rfl
theorem r_MRm_signed_27 {y0 : Int32} {a : Nat} (hO : qO a 10 = true) (hc : ckS st = true) : Rr X (d + 1) MRm_signed 27 L (.int y0 :: .ref a :: st) (Wd mu la ro et) = (Rr X d MRm_isHere 0 [.ref a, .int y0] [] (Wd mu la ro et)).bind fun q => Rr X (d + 1) MRm_signed 30 L (psh q.1 st) q.2 := R_iv (av := [.int y0]) d_MRm_signed_27 fc_10_123 hO (ckS_le hc) rfl (Nat.le_of_ble_eq_true rfl) (Nat.le_of_ble_eq_true rfl)
theorem r_MRm_signed_30 {x : Int32} : Rr X d MRm_signed 30 L (.int x :: st) h = if x = 0 then Rr X d MRm_signed 46 L st h else Rr X d MRm_signed 33 L st h := R_if_eq d_MRm_signed_30 (by decide)
theorem r_MRm_signed_33 {l1 : Value} {x : Nat} : Rr X d MRm_signed 33 [.ref x, l1] st h = Rr X d MRm_signed 34 [.ref x, l1] (.ref x :: st) h := Rr_nx d_MRm_signed_33 rfl
theorem r_MRm_signed_34 {x : Nat} : Rr X d MRm_signed 34 L (.ref x :: st) h = Rr X d MRm_signed 35 L (.ref x :: .ref x :: st) h := Rr_nx d_MRm_signed_34 rfl
theorem r_MRm_signed_34i {x : Int32} : Rr X d MRm_signed 34 L (.int x :: st) h = Rr X d MRm_signed 35 L (.int x :: .int x :: st) h := Rr_nx d_MRm_signed_34 rfl
theorem r_MRm_signed_35 {a : Nat} (hq : qI a 10 18 = true) : Rr X d MRm_signed 35 L (.ref a :: st) (Wd mu la ro et) = Rr X d MRm_signed 38 L (.int (mu a 18) :: st) (Wd mu la ro et) := R_gfI d_MRm_signed_35 ff_10_120 hq
theorem r_MRm_signed_38 : Rr X d MRm_signed 38 L st h = Rr X d MRm_signed 39 L (.int (1) :: st) h := Rr_nx d_MRm_signed_38 rfl
theorem r_MRm_signed_39 {x y : Int32} : Rr X d MRm_signed 39 L (.int y :: .int x :: st) h = Rr X d MRm_signed 40 L (.int (x + y) :: st) h := Rr_nx d_MRm_signed_39 rfl
theorem r_MRm_signed_40 {a : Nat} {x : Int32} (hq : qI a 10 18 = true) : Rr X d MRm_signed 40 L (.int x :: .ref a :: st) (Wd mu la ro et) = Rr X d MRm_signed 43 L st (Wd (up2 mu a 18 x) la ro et) := R_pfI d_MRm_signed_40 ff_10_120 hq
theorem r_MRm_signed_43 : Rr X d MRm_signed 43 L st h = Rr X d MRm_signed 61 L st h := R_goto d_MRm_signed_43 (by decide)
theorem r_MRm_signed_46 {l1 : Value} {x : Nat} : Rr X d MRm_signed 46 [.ref x, l1] st h = Rr X d MRm_signed 47 [.ref x, l1] (.ref x :: st) h := Rr_nx d_MRm_signed_46 rfl
theorem r_MRm_signed_47 {a : Nat} (hq : qI a 10 19 = true) : Rr X d MRm_signed 47 L (.ref a :: st) (Wd mu la ro et) = Rr X d MRm_signed 50 L (.int (mu a 19) :: st) (Wd mu la ro et) := R_gfI d_MRm_signed_47 ff_10_117 hq
theorem r_MRm_signed_50 {x : Int32} : Rr X d MRm_signed 50 L (.int x :: st) h = if 0 ≤ x then Rr X d MRm_signed 61 L st h else Rr X d MRm_signed 53 L st h := R_if_ge d_MRm_signed_50 (by decide)
theorem r_MRm_signed_53 {l1 : Value} {x : Nat} : Rr X d MRm_signed 53 [.ref x, l1] st h = Rr X d MRm_signed 54 [.ref x, l1] (.ref x :: st) h := Rr_nx d_MRm_signed_53 rfl
theorem r_MRm_signed_54 {l1 : Value} {x : Nat} : Rr X d MRm_signed 54 [.ref x, l1] st h = Rr X d MRm_signed 55 [.ref x, l1] (.ref x :: st) h := Rr_nx d_MRm_signed_54 rfl
theorem r_MRm_signed_55 {a : Nat} (hq : qI a 10 18 = true) : Rr X d MRm_signed 55 L (.ref a :: st) (Wd mu la ro et) = Rr X d MRm_signed 58 L (.int (mu a 18) :: st) (Wd mu la ro et) := R_gfI d_MRm_signed_55 ff_10_120 hq
theorem r_MRm_signed_58 {a : Nat} {x : Int32} (hq : qI a 10 19 = true) : Rr X d MRm_signed 58 L (.int x :: .ref a :: st) (Wd mu la ro et) = Rr X d MRm_signed 61 L st (Wd (up2 mu a 19 x) la ro et) := R_pfI d_MRm_signed_58 ff_10_117 hq
theorem r_MRm_signed_61 {l0 : Value} {x : Int32} : Rr X d MRm_signed 61 [l0, .int x] st h = Rr X d MRm_signed 62 [l0, .int x] (.int x :: st) h := Rr_nx d_MRm_signed_61 rfl
theorem r_MRm_signed_62 {l1 : Value} {x : Nat} : Rr X d MRm_signed 62 [.ref x, l1] st h = Rr X d MRm_signed 63 [.ref x, l1] (.ref x :: st) h := Rr_nx d_MRm_signed_62 rfl
theorem r_MRm_signed_63 : Rr X d MRm_signed 63 L st h = Rr X d MRm_signed 64 L (.int (0) :: st) h := Rr_nx d_MRm_signed_63 rfl
theorem fc_10_127 : fC 10 127 = some (0, 10, 1, MRm_digit) := rfl
theorem r_MRm_signed_64 {y0 : Int32} {a : Nat} (hO : qO a 10 = true) (hc : ckS st = true) : Rr X (d + 1) MRm_signed 64 L (.int y0 :: .ref a :: st) (Wd mu la ro et) = (Rr X d MRm_digit 0 [.ref a, .int y0, mkU] [] (Wd mu la ro et)).bind fun q => Rr X (d + 1) MRm_signed 67 L (psh q.1 st) q.2 := R_iv (av := [.int y0]) d_MRm_signed_64 fc_10_127 hO (ckS_le hc) rfl (Nat.le_of_ble_eq_true rfl) (Nat.le_of_ble_eq_true rfl)
theorem r_MRm_signed_67 {x y : Int32} : Rr X d MRm_signed 67 L (.int y :: .int x :: st) h = Rr X d MRm_signed 68 L (.int (x * y) :: st) h := Rr_nx d_MRm_signed_67 rfl
theorem r_MRm_signed_68 {x : Int32} : Rr X d MRm_signed 68 L [.int x] h = some (some (.int x), h) := R_ir d_MRm_signed_68 rfl
theorem d_MRm_readNumber_0 : decode MRm_readNumber.2.2.1 0 = .ok (.aload_n 0, 1) := lkT_ok tk_MRm_readNumber rfl
theorem d_MRm_readNumber_1 : decode MRm_readNumber.2.2.1 1 = .ok (.getfield 120, 3) := lkT_ok tk_MRm_readNumber rfl
theorem d_MRm_readNumber_4 : decode MRm_readNumber.2.2.1 4 = .ok (.istore_n 2, 1) := lkT_ok tk_MRm_readNumber rfl
theorem d_MRm_readNumber_5 : decode MRm_readNumber.2.2.1 5 = .ok (.iconst 0, 1) := lkT_ok tk_MRm_readNumber rfl
theorem d_MRm_readNumber_6 : decode MRm_readNumber.2.2.1 6 = .ok (.istore_n 3, 1) := lkT_ok tk_MRm_readNumber rfl
theorem d_MRm_readNumber_7 : decode MRm_readNumber.2.2.1 7 = .ok (.aload_n 0, 1) := lkT_ok tk_MRm_readNumber rfl
theorem d_MRm_readNumber_8 : decode MRm_readNumber.2.2.1 8 = .ok (.getfield 117, 3) := lkT_ok tk_MRm_readNumber rfl
theorem d_MRm_readNumber_11 : decode MRm_readNumber.2.2.1 11 = .ok (.ifCond .ge 74, 3) := lkT_ok tk_MRm_readNumber rfl
theorem d_MRm_readNumber_14 : decode MRm_readNumber.2.2.1 14 = .ok (.aload_n 0, 1) := lkT_ok tk_MRm_readNumber rfl
theorem d_MRm_readNumber_15 : decode MRm_readNumber.2.2.1 15 = .ok (.getfield 120, 3) := lkT_ok tk_MRm_readNumber rfl
theorem d_MRm_readNumber_18 : decode MRm_readNumber.2.2.1 18 = .ok (.aload_n 0, 1) := lkT_ok tk_MRm_readNumber rfl
theorem d_MRm_readNumber_19 : decode MRm_readNumber.2.2.1 19 = .ok (.getfield 111, 3) := lkT_ok tk_MRm_readNumber rfl
theorem d_MRm_readNumber_22 : decode MRm_readNumber.2.2.1 22 = .ok (.if_icmp .ge 63, 3) := lkT_ok tk_MRm_readNumber rfl
theorem d_MRm_readNumber_25 : decode MRm_readNumber.2.2.1 25 = .ok (.aload_n 0, 1) := lkT_ok tk_MRm_readNumber rfl
theorem d_MRm_readNumber_26 : decode MRm_readNumber.2.2.1 26 = .ok (.getfield 120, 3) := lkT_ok tk_MRm_readNumber rfl
theorem d_MRm_readNumber_29 : decode MRm_readNumber.2.2.1 29 = .ok (.iload_n 2, 1) := lkT_ok tk_MRm_readNumber rfl
theorem d_MRm_readNumber_30 : decode MRm_readNumber.2.2.1 30 = .ok (.iconst 3, 1) := lkT_ok tk_MRm_readNumber rfl
theorem d_MRm_readNumber_31 : decode MRm_readNumber.2.2.1 31 = .ok (.iadd, 1) := lkT_ok tk_MRm_readNumber rfl
theorem d_MRm_readNumber_32 : decode MRm_readNumber.2.2.1 32 = .ok (.if_icmp .ge 53, 3) := lkT_ok tk_MRm_readNumber rfl
theorem d_MRm_readNumber_35 : decode MRm_readNumber.2.2.1 35 = .ok (.aload_n 0, 1) := lkT_ok tk_MRm_readNumber rfl
theorem d_MRm_readNumber_36 : decode MRm_readNumber.2.2.1 36 = .ok (.getfield 7, 3) := lkT_ok tk_MRm_readNumber rfl
theorem d_MRm_readNumber_39 : decode MRm_readNumber.2.2.1 39 = .ok (.aload_n 0, 1) := lkT_ok tk_MRm_readNumber rfl
theorem d_MRm_readNumber_40 : decode MRm_readNumber.2.2.1 40 = .ok (.getfield 120, 3) := lkT_ok tk_MRm_readNumber rfl
theorem d_MRm_readNumber_43 : decode MRm_readNumber.2.2.1 43 = .ok (.baload, 1) := lkT_ok tk_MRm_readNumber rfl
theorem d_MRm_readNumber_44 : decode MRm_readNumber.2.2.1 44 = .ok (.bipush 48, 2) := lkT_ok tk_MRm_readNumber rfl
theorem d_MRm_readNumber_46 : decode MRm_readNumber.2.2.1 46 = .ok (.bipush 57, 2) := lkT_ok tk_MRm_readNumber rfl
theorem d_MRm_readNumber_48 : decode MRm_readNumber.2.2.1 48 = .ok (.invokestatic 107, 3) := lkT_ok tk_MRm_readNumber rfl
theorem d_MRm_readNumber_51 : decode MRm_readNumber.2.2.1 51 = .ok (.ifCond .eq 34, 3) := lkT_ok tk_MRm_readNumber rfl
theorem d_MRm_readNumber_54 : decode MRm_readNumber.2.2.1 54 = .ok (.bipush 10, 2) := lkT_ok tk_MRm_readNumber rfl
theorem d_MRm_readNumber_56 : decode MRm_readNumber.2.2.1 56 = .ok (.iload_n 3, 1) := lkT_ok tk_MRm_readNumber rfl
theorem d_MRm_readNumber_57 : decode MRm_readNumber.2.2.1 57 = .ok (.imul, 1) := lkT_ok tk_MRm_readNumber rfl
theorem d_MRm_readNumber_58 : decode MRm_readNumber.2.2.1 58 = .ok (.aload_n 0, 1) := lkT_ok tk_MRm_readNumber rfl
theorem d_MRm_readNumber_59 : decode MRm_readNumber.2.2.1 59 = .ok (.getfield 7, 3) := lkT_ok tk_MRm_readNumber rfl
theorem d_MRm_readNumber_62 : decode MRm_readNumber.2.2.1 62 = .ok (.aload_n 0, 1) := lkT_ok tk_MRm_readNumber rfl
theorem d_MRm_readNumber_63 : decode MRm_readNumber.2.2.1 63 = .ok (.getfield 120, 3) := lkT_ok tk_MRm_readNumber rfl
theorem d_MRm_readNumber_66 : decode MRm_readNumber.2.2.1 66 = .ok (.baload, 1) := lkT_ok tk_MRm_readNumber rfl
theorem d_MRm_readNumber_67 : decode MRm_readNumber.2.2.1 67 = .ok (.iadd, 1) := lkT_ok tk_MRm_readNumber rfl
theorem d_MRm_readNumber_68 : decode MRm_readNumber.2.2.1 68 = .ok (.bipush 48, 2) := lkT_ok tk_MRm_readNumber rfl
theorem d_MRm_readNumber_70 : decode MRm_readNumber.2.2.1 70 = .ok (.isub, 1) := lkT_ok tk_MRm_readNumber rfl
theorem d_MRm_readNumber_71 : decode MRm_readNumber.2.2.1 71 = .ok (.istore_n 3, 1) := lkT_ok tk_MRm_readNumber rfl
theorem d_MRm_readNumber_72 : decode MRm_readNumber.2.2.1 72 = .ok (.aload_n 0, 1) := lkT_ok tk_MRm_readNumber rfl
theorem d_MRm_readNumber_73 : decode MRm_readNumber.2.2.1 73 = .ok (.dup, 1) := lkT_ok tk_MRm_readNumber rfl
theorem d_MRm_readNumber_74 : decode MRm_readNumber.2.2.1 74 = .ok (.getfield 120, 3) := lkT_ok tk_MRm_readNumber rfl
theorem d_MRm_readNumber_77 : decode MRm_readNumber.2.2.1 77 = .ok (.iconst 1, 1) := lkT_ok tk_MRm_readNumber rfl
theorem d_MRm_readNumber_78 : decode MRm_readNumber.2.2.1 78 = .ok (.iadd, 1) := lkT_ok tk_MRm_readNumber rfl
theorem d_MRm_readNumber_79 : decode MRm_readNumber.2.2.1 79 = .ok (.putfield 120, 3) := lkT_ok tk_MRm_readNumber rfl
theorem d_MRm_readNumber_82 : decode MRm_readNumber.2.2.1 82 = .ok (.goto (-75), 3) := lkT_ok tk_MRm_readNumber rfl
theorem d_MRm_readNumber_85 : decode MRm_readNumber.2.2.1 85 = .ok (.aload_n 0, 1) := lkT_ok tk_MRm_readNumber rfl
theorem d_MRm_readNumber_86 : decode MRm_readNumber.2.2.1 86 = .ok (.getfield 117, 3) := lkT_ok tk_MRm_readNumber rfl
theorem d_MRm_readNumber_89 : decode MRm_readNumber.2.2.1 89 = .ok (.ifCond .ge 21, 3) := lkT_ok tk_MRm_readNumber rfl
theorem d_MRm_readNumber_92 : decode MRm_readNumber.2.2.1 92 = .ok (.aload_n 0, 1) := lkT_ok tk_MRm_readNumber rfl
theorem d_MRm_readNumber_93 : decode MRm_readNumber.2.2.1 93 = .ok (.getfield 120, 3) := lkT_ok tk_MRm_readNumber rfl
theorem d_MRm_readNumber_96 : decode MRm_readNumber.2.2.1 96 = .ok (.iload_n 2, 1) := lkT_ok tk_MRm_readNumber rfl
theorem d_MRm_readNumber_97 : decode MRm_readNumber.2.2.1 97 = .ok (.if_icmp .eq 8, 3) := lkT_ok tk_MRm_readNumber rfl
theorem d_MRm_readNumber_100 : decode MRm_readNumber.2.2.1 100 = .ok (.iload_n 3, 1) := lkT_ok tk_MRm_readNumber rfl
theorem d_MRm_readNumber_101 : decode MRm_readNumber.2.2.1 101 = .ok (.iload_n 1, 1) := lkT_ok tk_MRm_readNumber rfl
theorem d_MRm_readNumber_102 : decode MRm_readNumber.2.2.1 102 = .ok (.if_icmp .le 8, 3) := lkT_ok tk_MRm_readNumber rfl
theorem d_MRm_readNumber_105 : decode MRm_readNumber.2.2.1 105 = .ok (.aload_n 0, 1) := lkT_ok tk_MRm_readNumber rfl
theorem d_MRm_readNumber_106 : decode MRm_readNumber.2.2.1 106 = .ok (.iload_n 2, 1) := lkT_ok tk_MRm_readNumber rfl
theorem d_MRm_readNumber_107 : decode MRm_readNumber.2.2.1 107 = .ok (.putfield 117, 3) := lkT_ok tk_MRm_readNumber rfl
theorem d_MRm_readNumber_110 : decode MRm_readNumber.2.2.1 110 = .ok (.iload_n 3, 1) := lkT_ok tk_MRm_readNumber rfl
theorem d_MRm_readNumber_111 : decode MRm_readNumber.2.2.1 111 = .ok (.ireturn, 1) := lkT_ok tk_MRm_readNumber rfl
theorem r_MRm_readNumber_0 {l1 l2 l3 : Value} {x : Nat} : Rr X d MRm_readNumber 0 [.ref x, l1, l2, l3] st h = Rr X d MRm_readNumber 1 [.ref x, l1, l2, l3] (.ref x :: st) h := Rr_nx d_MRm_readNumber_0 rfl
theorem r_MRm_readNumber_1 {a : Nat} (hq : qI a 10 18 = true) : Rr X d MRm_readNumber 1 L (.ref a :: st) (Wd mu la ro et) = Rr X d MRm_readNumber 4 L (.int (mu a 18) :: st) (Wd mu la ro et) := R_gfI d_MRm_readNumber_1 ff_10_120 hq
theorem r_MRm_readNumber_4 {l0 l1 l2 l3 : Value} {x : Int32} : Rr X d MRm_readNumber 4 [l0, l1, l2, l3] (.int x :: st) h = Rr X d MRm_readNumber 5 (sL [l0, l1, l2, l3] 2 (.int x)) st h := Rr_nx d_MRm_readNumber_4 rfl
theorem r_MRm_readNumber_5 : Rr X d MRm_readNumber 5 L st h = Rr X d MRm_readNumber 6 L (.int (0) :: st) h := Rr_nx d_MRm_readNumber_5 rfl
theorem r_MRm_readNumber_6 {l0 l1 l2 l3 : Value} {x : Int32} : Rr X d MRm_readNumber 6 [l0, l1, l2, l3] (.int x :: st) h = Rr X d MRm_readNumber 7 (sL [l0, l1, l2, l3] 3 (.int x)) st h := Rr_nx d_MRm_readNumber_6 rfl
theorem r_MRm_readNumber_7 {l1 l2 l3 : Value} {x : Nat} : Rr X d MRm_readNumber 7 [.ref x, l1, l2, l3] st h = Rr X d MRm_readNumber 8 [.ref x, l1, l2, l3] (.ref x :: st) h := Rr_nx d_MRm_readNumber_7 rfl
theorem r_MRm_readNumber_8 {a : Nat} (hq : qI a 10 19 = true) : Rr X d MRm_readNumber 8 L (.ref a :: st) (Wd mu la ro et) = Rr X d MRm_readNumber 11 L (.int (mu a 19) :: st) (Wd mu la ro et) := R_gfI d_MRm_readNumber_8 ff_10_117 hq
theorem r_MRm_readNumber_11 {x : Int32} : Rr X d MRm_readNumber 11 L (.int x :: st) h = if 0 ≤ x then Rr X d MRm_readNumber 85 L st h else Rr X d MRm_readNumber 14 L st h := R_if_ge d_MRm_readNumber_11 (by decide)
theorem r_MRm_readNumber_14 {l1 l2 l3 : Value} {x : Nat} : Rr X d MRm_readNumber 14 [.ref x, l1, l2, l3] st h = Rr X d MRm_readNumber 15 [.ref x, l1, l2, l3] (.ref x :: st) h := Rr_nx d_MRm_readNumber_14 rfl
theorem r_MRm_readNumber_15 {a : Nat} (hq : qI a 10 18 = true) : Rr X d MRm_readNumber 15 L (.ref a :: st) (Wd mu la ro et) = Rr X d MRm_readNumber 18 L (.int (mu a 18) :: st) (Wd mu la ro et) := R_gfI d_MRm_readNumber_15 ff_10_120 hq
theorem r_MRm_readNumber_18 {l1 l2 l3 : Value} {x : Nat} : Rr X d MRm_readNumber 18 [.ref x, l1, l2, l3] st h = Rr X d MRm_readNumber 19 [.ref x, l1, l2, l3] (.ref x :: st) h := Rr_nx d_MRm_readNumber_18 rfl
theorem r_MRm_readNumber_19 {a : Nat} (hq : qI a 10 2 = true) : Rr X d MRm_readNumber 19 L (.ref a :: st) (Wd mu la ro et) = Rr X d MRm_readNumber 22 L (.int (mu a 2) :: st) (Wd mu la ro et) := R_gfI d_MRm_readNumber_19 ff_10_111 hq
theorem r_MRm_readNumber_22 {x y : Int32} : Rr X d MRm_readNumber 22 L (.int y :: .int x :: st) h = if y ≤ x then Rr X d MRm_readNumber 85 L st h else Rr X d MRm_readNumber 25 L st h := R_ic_ge d_MRm_readNumber_22 (by decide)
theorem r_MRm_readNumber_25 {l1 l2 l3 : Value} {x : Nat} : Rr X d MRm_readNumber 25 [.ref x, l1, l2, l3] st h = Rr X d MRm_readNumber 26 [.ref x, l1, l2, l3] (.ref x :: st) h := Rr_nx d_MRm_readNumber_25 rfl
theorem r_MRm_readNumber_26 {a : Nat} (hq : qI a 10 18 = true) : Rr X d MRm_readNumber 26 L (.ref a :: st) (Wd mu la ro et) = Rr X d MRm_readNumber 29 L (.int (mu a 18) :: st) (Wd mu la ro et) := R_gfI d_MRm_readNumber_26 ff_10_120 hq
theorem r_MRm_readNumber_29 {l0 l1 l3 : Value} {x : Int32} : Rr X d MRm_readNumber 29 [l0, l1, .int x, l3] st h = Rr X d MRm_readNumber 30 [l0, l1, .int x, l3] (.int x :: st) h := Rr_nx d_MRm_readNumber_29 rfl
theorem r_MRm_readNumber_30 : Rr X d MRm_readNumber 30 L st h = Rr X d MRm_readNumber 31 L (.int (3) :: st) h := Rr_nx d_MRm_readNumber_30 rfl
theorem r_MRm_readNumber_31 {x y : Int32} : Rr X d MRm_readNumber 31 L (.int y :: .int x :: st) h = Rr X d MRm_readNumber 32 L (.int (x + y) :: st) h := Rr_nx d_MRm_readNumber_31 rfl
theorem r_MRm_readNumber_32 {x y : Int32} : Rr X d MRm_readNumber 32 L (.int y :: .int x :: st) h = if y ≤ x then Rr X d MRm_readNumber 85 L st h else Rr X d MRm_readNumber 35 L st h := R_ic_ge d_MRm_readNumber_32 (by decide)
theorem r_MRm_readNumber_35 {l1 l2 l3 : Value} {x : Nat} : Rr X d MRm_readNumber 35 [.ref x, l1, l2, l3] st h = Rr X d MRm_readNumber 36 [.ref x, l1, l2, l3] (.ref x :: st) h := Rr_nx d_MRm_readNumber_35 rfl
theorem r_MRm_readNumber_36 {a : Nat} (hq : (qR a 10 1).isSome = true) : Rr X d MRm_readNumber 36 L (.ref a :: st) (Wd mu la ro et) = Rr X d MRm_readNumber 39 L (.ref (qRd a 10 1) :: st) (Wd mu la ro et) := R_gfR d_MRm_readNumber_36 ff_10_7 hq
theorem r_MRm_readNumber_39 {l1 l2 l3 : Value} {x : Nat} : Rr X d MRm_readNumber 39 [.ref x, l1, l2, l3] st h = Rr X d MRm_readNumber 40 [.ref x, l1, l2, l3] (.ref x :: st) h := Rr_nx d_MRm_readNumber_39 rfl
theorem r_MRm_readNumber_40 {a : Nat} (hq : qI a 10 18 = true) : Rr X d MRm_readNumber 40 L (.ref a :: st) (Wd mu la ro et) = Rr X d MRm_readNumber 43 L (.int (mu a 18) :: st) (Wd mu la ro et) := R_gfI d_MRm_readNumber_40 ff_10_120 hq
theorem r_MRm_readNumber_43 {a : Nat} {j : Int32} (hq : (qA a 2).isSome = true) : Rr X d MRm_readNumber 43 L (.int j :: .ref a :: st) (Wd mu la ro et) = if j < 0 ∨ qAd a 2 ≤ j.toNatClampNeg then none else Rr X d MRm_readNumber 44 L (.int (mu a j.toNatClampNeg) :: st) (Wd mu la ro et) := R_balW d_MRm_readNumber_43 hq
theorem r_MRm_readNumber_44 : Rr X d MRm_readNumber 44 L st h = Rr X d MRm_readNumber 46 L (.int (48) :: st) h := Rr_nx d_MRm_readNumber_44 rfl
theorem r_MRm_readNumber_46 : Rr X d MRm_readNumber 46 L st h = Rr X d MRm_readNumber 48 L (.int (57) :: st) h := Rr_nx d_MRm_readNumber_46 rfl
theorem r_MRm_readNumber_48 {y0 : Int32} {y1 : Int32} {y2 : Int32} (hc : ckS st = true) : Rr X (d + 1) MRm_readNumber 48 L (.int y2 :: .int y1 :: .int y0 :: st) h = (Rr X d MRm_in 0 [.int y0, .int y1, .int y2] [] h).bind fun q => Rr X (d + 1) MRm_readNumber 51 L (psh q.1 st) q.2 := R_is (av := [.int y2, .int y1, .int y0]) d_MRm_readNumber_48 (Or.inl fc_10_107) (ckS_le hc) rfl (Nat.le_of_ble_eq_true rfl) (Nat.le_of_ble_eq_true rfl)
theorem r_MRm_readNumber_51 {x : Int32} : Rr X d MRm_readNumber 51 L (.int x :: st) h = if x = 0 then Rr X d MRm_readNumber 85 L st h else Rr X d MRm_readNumber 54 L st h := R_if_eq d_MRm_readNumber_51 (by decide)
theorem r_MRm_readNumber_54 : Rr X d MRm_readNumber 54 L st h = Rr X d MRm_readNumber 56 L (.int (10) :: st) h := Rr_nx d_MRm_readNumber_54 rfl
theorem r_MRm_readNumber_56 {l0 l1 l2 : Value} {x : Int32} : Rr X d MRm_readNumber 56 [l0, l1, l2, .int x] st h = Rr X d MRm_readNumber 57 [l0, l1, l2, .int x] (.int x :: st) h := Rr_nx d_MRm_readNumber_56 rfl
theorem r_MRm_readNumber_57 {x y : Int32} : Rr X d MRm_readNumber 57 L (.int y :: .int x :: st) h = Rr X d MRm_readNumber 58 L (.int (x * y) :: st) h := Rr_nx d_MRm_readNumber_57 rfl
theorem r_MRm_readNumber_58 {l1 l2 l3 : Value} {x : Nat} : Rr X d MRm_readNumber 58 [.ref x, l1, l2, l3] st h = Rr X d MRm_readNumber 59 [.ref x, l1, l2, l3] (.ref x :: st) h := Rr_nx d_MRm_readNumber_58 rfl
theorem r_MRm_readNumber_59 {a : Nat} (hq : (qR a 10 1).isSome = true) : Rr X d MRm_readNumber 59 L (.ref a :: st) (Wd mu la ro et) = Rr X d MRm_readNumber 62 L (.ref (qRd a 10 1) :: st) (Wd mu la ro et) := R_gfR d_MRm_readNumber_59 ff_10_7 hq
theorem r_MRm_readNumber_62 {l1 l2 l3 : Value} {x : Nat} : Rr X d MRm_readNumber 62 [.ref x, l1, l2, l3] st h = Rr X d MRm_readNumber 63 [.ref x, l1, l2, l3] (.ref x :: st) h := Rr_nx d_MRm_readNumber_62 rfl
theorem r_MRm_readNumber_63 {a : Nat} (hq : qI a 10 18 = true) : Rr X d MRm_readNumber 63 L (.ref a :: st) (Wd mu la ro et) = Rr X d MRm_readNumber 66 L (.int (mu a 18) :: st) (Wd mu la ro et) := R_gfI d_MRm_readNumber_63 ff_10_120 hq
theorem r_MRm_readNumber_66 {a : Nat} {j : Int32} (hq : (qA a 2).isSome = true) : Rr X d MRm_readNumber 66 L (.int j :: .ref a :: st) (Wd mu la ro et) = if j < 0 ∨ qAd a 2 ≤ j.toNatClampNeg then none else Rr X d MRm_readNumber 67 L (.int (mu a j.toNatClampNeg) :: st) (Wd mu la ro et) := R_balW d_MRm_readNumber_66 hq
theorem r_MRm_readNumber_67 {x y : Int32} : Rr X d MRm_readNumber 67 L (.int y :: .int x :: st) h = Rr X d MRm_readNumber 68 L (.int (x + y) :: st) h := Rr_nx d_MRm_readNumber_67 rfl
theorem r_MRm_readNumber_68 : Rr X d MRm_readNumber 68 L st h = Rr X d MRm_readNumber 70 L (.int (48) :: st) h := Rr_nx d_MRm_readNumber_68 rfl
theorem r_MRm_readNumber_70 {x y : Int32} : Rr X d MRm_readNumber 70 L (.int y :: .int x :: st) h = Rr X d MRm_readNumber 71 L (.int (x - y) :: st) h := Rr_nx d_MRm_readNumber_70 rfl
theorem r_MRm_readNumber_71 {l0 l1 l2 l3 : Value} {x : Int32} : Rr X d MRm_readNumber 71 [l0, l1, l2, l3] (.int x :: st) h = Rr X d MRm_readNumber 72 (sL [l0, l1, l2, l3] 3 (.int x)) st h := Rr_nx d_MRm_readNumber_71 rfl
theorem r_MRm_readNumber_72 {l1 l2 l3 : Value} {x : Nat} : Rr X d MRm_readNumber 72 [.ref x, l1, l2, l3] st h = Rr X d MRm_readNumber 73 [.ref x, l1, l2, l3] (.ref x :: st) h := Rr_nx d_MRm_readNumber_72 rfl
theorem r_MRm_readNumber_73 {x : Nat} : Rr X d MRm_readNumber 73 L (.ref x :: st) h = Rr X d MRm_readNumber 74 L (.ref x :: .ref x :: st) h := Rr_nx d_MRm_readNumber_73 rfl
theorem r_MRm_readNumber_73i {x : Int32} : Rr X d MRm_readNumber 73 L (.int x :: st) h = Rr X d MRm_readNumber 74 L (.int x :: .int x :: st) h := Rr_nx d_MRm_readNumber_73 rfl
theorem r_MRm_readNumber_74 {a : Nat} (hq : qI a 10 18 = true) : Rr X d MRm_readNumber 74 L (.ref a :: st) (Wd mu la ro et) = Rr X d MRm_readNumber 77 L (.int (mu a 18) :: st) (Wd mu la ro et) := R_gfI d_MRm_readNumber_74 ff_10_120 hq
theorem r_MRm_readNumber_77 : Rr X d MRm_readNumber 77 L st h = Rr X d MRm_readNumber 78 L (.int (1) :: st) h := Rr_nx d_MRm_readNumber_77 rfl
theorem r_MRm_readNumber_78 {x y : Int32} : Rr X d MRm_readNumber 78 L (.int y :: .int x :: st) h = Rr X d MRm_readNumber 79 L (.int (x + y) :: st) h := Rr_nx d_MRm_readNumber_78 rfl
theorem r_MRm_readNumber_79 {a : Nat} {x : Int32} (hq : qI a 10 18 = true) : Rr X d MRm_readNumber 79 L (.int x :: .ref a :: st) (Wd mu la ro et) = Rr X d MRm_readNumber 82 L st (Wd (up2 mu a 18 x) la ro et) := R_pfI d_MRm_readNumber_79 ff_10_120 hq
theorem r_MRm_readNumber_82 : Rr X d MRm_readNumber 82 L st h = Rr X d MRm_readNumber 7 L st h := R_goto d_MRm_readNumber_82 (by decide)
theorem r_MRm_readNumber_85 {l1 l2 l3 : Value} {x : Nat} : Rr X d MRm_readNumber 85 [.ref x, l1, l2, l3] st h = Rr X d MRm_readNumber 86 [.ref x, l1, l2, l3] (.ref x :: st) h := Rr_nx d_MRm_readNumber_85 rfl
theorem r_MRm_readNumber_86 {a : Nat} (hq : qI a 10 19 = true) : Rr X d MRm_readNumber 86 L (.ref a :: st) (Wd mu la ro et) = Rr X d MRm_readNumber 89 L (.int (mu a 19) :: st) (Wd mu la ro et) := R_gfI d_MRm_readNumber_86 ff_10_117 hq
theorem r_MRm_readNumber_89 {x : Int32} : Rr X d MRm_readNumber 89 L (.int x :: st) h = if 0 ≤ x then Rr X d MRm_readNumber 110 L st h else Rr X d MRm_readNumber 92 L st h := R_if_ge d_MRm_readNumber_89 (by decide)
theorem r_MRm_readNumber_92 {l1 l2 l3 : Value} {x : Nat} : Rr X d MRm_readNumber 92 [.ref x, l1, l2, l3] st h = Rr X d MRm_readNumber 93 [.ref x, l1, l2, l3] (.ref x :: st) h := Rr_nx d_MRm_readNumber_92 rfl
theorem r_MRm_readNumber_93 {a : Nat} (hq : qI a 10 18 = true) : Rr X d MRm_readNumber 93 L (.ref a :: st) (Wd mu la ro et) = Rr X d MRm_readNumber 96 L (.int (mu a 18) :: st) (Wd mu la ro et) := R_gfI d_MRm_readNumber_93 ff_10_120 hq
theorem r_MRm_readNumber_96 {l0 l1 l3 : Value} {x : Int32} : Rr X d MRm_readNumber 96 [l0, l1, .int x, l3] st h = Rr X d MRm_readNumber 97 [l0, l1, .int x, l3] (.int x :: st) h := Rr_nx d_MRm_readNumber_96 rfl
theorem r_MRm_readNumber_97 {x y : Int32} : Rr X d MRm_readNumber 97 L (.int y :: .int x :: st) h = if x = y then Rr X d MRm_readNumber 105 L st h else Rr X d MRm_readNumber 100 L st h := R_ic_eq d_MRm_readNumber_97 (by decide)
theorem r_MRm_readNumber_100 {l0 l1 l2 : Value} {x : Int32} : Rr X d MRm_readNumber 100 [l0, l1, l2, .int x] st h = Rr X d MRm_readNumber 101 [l0, l1, l2, .int x] (.int x :: st) h := Rr_nx d_MRm_readNumber_100 rfl
theorem r_MRm_readNumber_101 {l0 l2 l3 : Value} {x : Int32} : Rr X d MRm_readNumber 101 [l0, .int x, l2, l3] st h = Rr X d MRm_readNumber 102 [l0, .int x, l2, l3] (.int x :: st) h := Rr_nx d_MRm_readNumber_101 rfl
theorem r_MRm_readNumber_102 {x y : Int32} : Rr X d MRm_readNumber 102 L (.int y :: .int x :: st) h = if x ≤ y then Rr X d MRm_readNumber 110 L st h else Rr X d MRm_readNumber 105 L st h := R_ic_le d_MRm_readNumber_102 (by decide)
theorem r_MRm_readNumber_105 {l1 l2 l3 : Value} {x : Nat} : Rr X d MRm_readNumber 105 [.ref x, l1, l2, l3] st h = Rr X d MRm_readNumber 106 [.ref x, l1, l2, l3] (.ref x :: st) h := Rr_nx d_MRm_readNumber_105 rfl
theorem r_MRm_readNumber_106 {l0 l1 l3 : Value} {x : Int32} : Rr X d MRm_readNumber 106 [l0, l1, .int x, l3] st h = Rr X d MRm_readNumber 107 [l0, l1, .int x, l3] (.int x :: st) h := Rr_nx d_MRm_readNumber_106 rfl
theorem r_MRm_readNumber_107 {a : Nat} {x : Int32} (hq : qI a 10 19 = true) : Rr X d MRm_readNumber 107 L (.int x :: .ref a :: st) (Wd mu la ro et) = Rr X d MRm_readNumber 110 L st (Wd (up2 mu a 19 x) la ro et) := R_pfI d_MRm_readNumber_107 ff_10_117 hq
theorem r_MRm_readNumber_110 {l0 l1 l2 : Value} {x : Int32} : Rr X d MRm_readNumber 110 [l0, l1, l2, .int x] st h = Rr X d MRm_readNumber 111 [l0, l1, l2, .int x] (.int x :: st) h := Rr_nx d_MRm_readNumber_110 rfl
theorem r_MRm_readNumber_111 {x : Int32} : Rr X d MRm_readNumber 111 L [.int x] h = some (some (.int x), h) := R_ir d_MRm_readNumber_111 rfl
theorem d_MRm_readLump_0 : decode MRm_readLump.2.2.1 0 = .ok (.bipush 12, 2) := lkT_ok tk_MRm_readLump rfl
theorem d_MRm_readLump_2 : decode MRm_readLump.2.2.1 2 = .ok (.iload_n 1, 1) := lkT_ok tk_MRm_readLump rfl
theorem d_MRm_readLump_3 : decode MRm_readLump.2.2.1 3 = .ok (.imul, 1) := lkT_ok tk_MRm_readLump rfl
theorem d_MRm_readLump_4 : decode MRm_readLump.2.2.1 4 = .ok (.aload_n 0, 1) := lkT_ok tk_MRm_readLump rfl
theorem d_MRm_readLump_5 : decode MRm_readLump.2.2.1 5 = .ok (.getfield 13, 3) := lkT_ok tk_MRm_readLump rfl
theorem d_MRm_readLump_8 : decode MRm_readLump.2.2.1 8 = .ok (.iload_n 1, 1) := lkT_ok tk_MRm_readLump rfl
theorem d_MRm_readLump_9 : decode MRm_readLump.2.2.1 9 = .ok (.iaload, 1) := lkT_ok tk_MRm_readLump rfl
theorem d_MRm_readLump_10 : decode MRm_readLump.2.2.1 10 = .ok (.iadd, 1) := lkT_ok tk_MRm_readLump rfl
theorem d_MRm_readLump_11 : decode MRm_readLump.2.2.1 11 = .ok (.istore_n 2, 1) := lkT_ok tk_MRm_readLump rfl
theorem d_MRm_readLump_12 : decode MRm_readLump.2.2.1 12 = .ok (.aload_n 0, 1) := lkT_ok tk_MRm_readLump rfl
theorem d_MRm_readLump_13 : decode MRm_readLump.2.2.1 13 = .ok (.getfield 17, 3) := lkT_ok tk_MRm_readLump rfl
theorem d_MRm_readLump_16 : decode MRm_readLump.2.2.1 16 = .ok (.iload_n 2, 1) := lkT_ok tk_MRm_readLump rfl
theorem d_MRm_readLump_17 : decode MRm_readLump.2.2.1 17 = .ok (.aload_n 0, 1) := lkT_ok tk_MRm_readLump rfl
theorem d_MRm_readLump_18 : decode MRm_readLump.2.2.1 18 = .ok (.iconst 1, 1) := lkT_ok tk_MRm_readLump rfl
theorem d_MRm_readLump_19 : decode MRm_readLump.2.2.1 19 = .ok (.invokevirtual 127, 3) := lkT_ok tk_MRm_readLump rfl
theorem d_MRm_readLump_22 : decode MRm_readLump.2.2.1 22 = .ok (.iastore, 1) := lkT_ok tk_MRm_readLump rfl
theorem d_MRm_readLump_23 : decode MRm_readLump.2.2.1 23 = .ok (.aload_n 0, 1) := lkT_ok tk_MRm_readLump rfl
theorem d_MRm_readLump_24 : decode MRm_readLump.2.2.1 24 = .ok (.getfield 20, 3) := lkT_ok tk_MRm_readLump rfl
theorem d_MRm_readLump_27 : decode MRm_readLump.2.2.1 27 = .ok (.iload_n 2, 1) := lkT_ok tk_MRm_readLump rfl
theorem d_MRm_readLump_28 : decode MRm_readLump.2.2.1 28 = .ok (.aload_n 0, 1) := lkT_ok tk_MRm_readLump rfl
theorem d_MRm_readLump_29 : decode MRm_readLump.2.2.1 29 = .ok (.invokevirtual 131, 3) := lkT_ok tk_MRm_readLump rfl
theorem d_MRm_readLump_32 : decode MRm_readLump.2.2.1 32 = .ok (.iastore, 1) := lkT_ok tk_MRm_readLump rfl
theorem d_MRm_readLump_33 : decode MRm_readLump.2.2.1 33 = .ok (.aload_n 0, 1) := lkT_ok tk_MRm_readLump rfl
theorem d_MRm_readLump_34 : decode MRm_readLump.2.2.1 34 = .ok (.getfield 23, 3) := lkT_ok tk_MRm_readLump rfl
theorem d_MRm_readLump_37 : decode MRm_readLump.2.2.1 37 = .ok (.iload_n 2, 1) := lkT_ok tk_MRm_readLump rfl
theorem d_MRm_readLump_38 : decode MRm_readLump.2.2.1 38 = .ok (.aload_n 0, 1) := lkT_ok tk_MRm_readLump rfl
theorem d_MRm_readLump_39 : decode MRm_readLump.2.2.1 39 = .ok (.invokevirtual 131, 3) := lkT_ok tk_MRm_readLump rfl
theorem d_MRm_readLump_42 : decode MRm_readLump.2.2.1 42 = .ok (.iastore, 1) := lkT_ok tk_MRm_readLump rfl
theorem d_MRm_readLump_43 : decode MRm_readLump.2.2.1 43 = .ok (.aload_n 0, 1) := lkT_ok tk_MRm_readLump rfl
theorem d_MRm_readLump_44 : decode MRm_readLump.2.2.1 44 = .ok (.getfield 13, 3) := lkT_ok tk_MRm_readLump rfl
theorem d_MRm_readLump_47 : decode MRm_readLump.2.2.1 47 = .ok (.iload_n 1, 1) := lkT_ok tk_MRm_readLump rfl
theorem d_MRm_readLump_48 : decode MRm_readLump.2.2.1 48 = .ok (.dup2, 1) := lkT_ok tk_MRm_readLump rfl
theorem d_MRm_readLump_49 : decode MRm_readLump.2.2.1 49 = .ok (.iaload, 1) := lkT_ok tk_MRm_readLump rfl
theorem d_MRm_readLump_50 : decode MRm_readLump.2.2.1 50 = .ok (.iconst 1, 1) := lkT_ok tk_MRm_readLump rfl
theorem d_MRm_readLump_51 : decode MRm_readLump.2.2.1 51 = .ok (.iadd, 1) := lkT_ok tk_MRm_readLump rfl
theorem d_MRm_readLump_52 : decode MRm_readLump.2.2.1 52 = .ok (.iastore, 1) := lkT_ok tk_MRm_readLump rfl
theorem d_MRm_readLump_53 : decode MRm_readLump.2.2.1 53 = .ok (.return_, 1) := lkT_ok tk_MRm_readLump rfl
theorem r_MRm_readLump_0 : Rr X d MRm_readLump 0 L st h = Rr X d MRm_readLump 2 L (.int (12) :: st) h := Rr_nx d_MRm_readLump_0 rfl
theorem r_MRm_readLump_2 {l0 l2 : Value} {x : Int32} : Rr X d MRm_readLump 2 [l0, .int x, l2] st h = Rr X d MRm_readLump 3 [l0, .int x, l2] (.int x :: st) h := Rr_nx d_MRm_readLump_2 rfl
theorem r_MRm_readLump_3 {x y : Int32} : Rr X d MRm_readLump 3 L (.int y :: .int x :: st) h = Rr X d MRm_readLump 4 L (.int (x * y) :: st) h := Rr_nx d_MRm_readLump_3 rfl
theorem r_MRm_readLump_4 {l1 l2 : Value} {x : Nat} : Rr X d MRm_readLump 4 [.ref x, l1, l2] st h = Rr X d MRm_readLump 5 [.ref x, l1, l2] (.ref x :: st) h := Rr_nx d_MRm_readLump_4 rfl
theorem r_MRm_readLump_5 {a : Nat} (hq : (qR a 10 4).isSome = true) : Rr X d MRm_readLump 5 L (.ref a :: st) (Wd mu la ro et) = Rr X d MRm_readLump 8 L (.ref (qRd a 10 4) :: st) (Wd mu la ro et) := R_gfR d_MRm_readLump_5 ff_10_13 hq
theorem r_MRm_readLump_8 {l0 l2 : Value} {x : Int32} : Rr X d MRm_readLump 8 [l0, .int x, l2] st h = Rr X d MRm_readLump 9 [l0, .int x, l2] (.int x :: st) h := Rr_nx d_MRm_readLump_8 rfl
theorem r_MRm_readLump_9 {a : Nat} {j : Int32} (hq : (qA a 0).isSome = true) : Rr X d MRm_readLump 9 L (.int j :: .ref a :: st) (Wd mu la ro et) = if j < 0 ∨ qAd a 0 ≤ j.toNatClampNeg then none else Rr X d MRm_readLump 10 L (.int (mu a j.toNatClampNeg) :: st) (Wd mu la ro et) := R_ialW d_MRm_readLump_9 hq
theorem r_MRm_readLump_10 {x y : Int32} : Rr X d MRm_readLump 10 L (.int y :: .int x :: st) h = Rr X d MRm_readLump 11 L (.int (x + y) :: st) h := Rr_nx d_MRm_readLump_10 rfl
theorem r_MRm_readLump_11 {l0 l1 l2 : Value} {x : Int32} : Rr X d MRm_readLump 11 [l0, l1, l2] (.int x :: st) h = Rr X d MRm_readLump 12 (sL [l0, l1, l2] 2 (.int x)) st h := Rr_nx d_MRm_readLump_11 rfl
theorem r_MRm_readLump_12 {l1 l2 : Value} {x : Nat} : Rr X d MRm_readLump 12 [.ref x, l1, l2] st h = Rr X d MRm_readLump 13 [.ref x, l1, l2] (.ref x :: st) h := Rr_nx d_MRm_readLump_12 rfl
theorem r_MRm_readLump_13 {a : Nat} (hq : (qR a 10 5).isSome = true) : Rr X d MRm_readLump 13 L (.ref a :: st) (Wd mu la ro et) = Rr X d MRm_readLump 16 L (.ref (qRd a 10 5) :: st) (Wd mu la ro et) := R_gfR d_MRm_readLump_13 ff_10_17 hq
theorem r_MRm_readLump_16 {l0 l1 : Value} {x : Int32} : Rr X d MRm_readLump 16 [l0, l1, .int x] st h = Rr X d MRm_readLump 17 [l0, l1, .int x] (.int x :: st) h := Rr_nx d_MRm_readLump_16 rfl
theorem r_MRm_readLump_17 {l1 l2 : Value} {x : Nat} : Rr X d MRm_readLump 17 [.ref x, l1, l2] st h = Rr X d MRm_readLump 18 [.ref x, l1, l2] (.ref x :: st) h := Rr_nx d_MRm_readLump_17 rfl
theorem r_MRm_readLump_18 : Rr X d MRm_readLump 18 L st h = Rr X d MRm_readLump 19 L (.int (1) :: st) h := Rr_nx d_MRm_readLump_18 rfl
theorem r_MRm_readLump_19 {y0 : Int32} {a : Nat} (hO : qO a 10 = true) (hc : ckS st = true) : Rr X (d + 1) MRm_readLump 19 L (.int y0 :: .ref a :: st) (Wd mu la ro et) = (Rr X d MRm_digit 0 [.ref a, .int y0, mkU] [] (Wd mu la ro et)).bind fun q => Rr X (d + 1) MRm_readLump 22 L (psh q.1 st) q.2 := R_iv (av := [.int y0]) d_MRm_readLump_19 fc_10_127 hO (ckS_le hc) rfl (Nat.le_of_ble_eq_true rfl) (Nat.le_of_ble_eq_true rfl)
theorem r_MRm_readLump_22 {a : Nat} {j x : Int32} (hq : (qA a 0).isSome = true) : Rr X d MRm_readLump 22 L (.int x :: .int j :: .ref a :: st) (Wd mu la ro et) = if j < 0 ∨ qAd a 0 ≤ j.toNatClampNeg then none else Rr X d MRm_readLump 23 L st (Wd (up2 mu a j.toNatClampNeg (x)) la ro et) := R_iasW d_MRm_readLump_22 hq
theorem r_MRm_readLump_23 {l1 l2 : Value} {x : Nat} : Rr X d MRm_readLump 23 [.ref x, l1, l2] st h = Rr X d MRm_readLump 24 [.ref x, l1, l2] (.ref x :: st) h := Rr_nx d_MRm_readLump_23 rfl
theorem ff_10_20 : fF 10 20 = some (10, 6, 1, 1) := rfl
theorem r_MRm_readLump_24 {a : Nat} (hq : (qR a 10 6).isSome = true) : Rr X d MRm_readLump 24 L (.ref a :: st) (Wd mu la ro et) = Rr X d MRm_readLump 27 L (.ref (qRd a 10 6) :: st) (Wd mu la ro et) := R_gfR d_MRm_readLump_24 ff_10_20 hq
theorem r_MRm_readLump_27 {l0 l1 : Value} {x : Int32} : Rr X d MRm_readLump 27 [l0, l1, .int x] st h = Rr X d MRm_readLump 28 [l0, l1, .int x] (.int x :: st) h := Rr_nx d_MRm_readLump_27 rfl
theorem r_MRm_readLump_28 {l1 l2 : Value} {x : Nat} : Rr X d MRm_readLump 28 [.ref x, l1, l2] st h = Rr X d MRm_readLump 29 [.ref x, l1, l2] (.ref x :: st) h := Rr_nx d_MRm_readLump_28 rfl
theorem fc_10_131 : fC 10 131 = some (0, 10, 0, MRm_signed) := rfl
theorem r_MRm_readLump_29 {a : Nat} (hO : qO a 10 = true) (hc : ckS st = true) : Rr X (d + 1) MRm_readLump 29 L (.ref a :: st) (Wd mu la ro et) = (Rr X d MRm_signed 0 [.ref a, mkU] [] (Wd mu la ro et)).bind fun q => Rr X (d + 1) MRm_readLump 32 L (psh q.1 st) q.2 := R_iv (av := []) d_MRm_readLump_29 fc_10_131 hO (ckS_le hc) rfl (Nat.le_of_ble_eq_true rfl) (Nat.le_of_ble_eq_true rfl)
theorem r_MRm_readLump_32 {a : Nat} {j x : Int32} (hq : (qA a 0).isSome = true) : Rr X d MRm_readLump 32 L (.int x :: .int j :: .ref a :: st) (Wd mu la ro et) = if j < 0 ∨ qAd a 0 ≤ j.toNatClampNeg then none else Rr X d MRm_readLump 33 L st (Wd (up2 mu a j.toNatClampNeg (x)) la ro et) := R_iasW d_MRm_readLump_32 hq
theorem r_MRm_readLump_33 {l1 l2 : Value} {x : Nat} : Rr X d MRm_readLump 33 [.ref x, l1, l2] st h = Rr X d MRm_readLump 34 [.ref x, l1, l2] (.ref x :: st) h := Rr_nx d_MRm_readLump_33 rfl
theorem ff_10_23 : fF 10 23 = some (10, 7, 1, 1) := rfl
theorem r_MRm_readLump_34 {a : Nat} (hq : (qR a 10 7).isSome = true) : Rr X d MRm_readLump 34 L (.ref a :: st) (Wd mu la ro et) = Rr X d MRm_readLump 37 L (.ref (qRd a 10 7) :: st) (Wd mu la ro et) := R_gfR d_MRm_readLump_34 ff_10_23 hq
theorem r_MRm_readLump_37 {l0 l1 : Value} {x : Int32} : Rr X d MRm_readLump 37 [l0, l1, .int x] st h = Rr X d MRm_readLump 38 [l0, l1, .int x] (.int x :: st) h := Rr_nx d_MRm_readLump_37 rfl
theorem r_MRm_readLump_38 {l1 l2 : Value} {x : Nat} : Rr X d MRm_readLump 38 [.ref x, l1, l2] st h = Rr X d MRm_readLump 39 [.ref x, l1, l2] (.ref x :: st) h := Rr_nx d_MRm_readLump_38 rfl
theorem r_MRm_readLump_39 {a : Nat} (hO : qO a 10 = true) (hc : ckS st = true) : Rr X (d + 1) MRm_readLump 39 L (.ref a :: st) (Wd mu la ro et) = (Rr X d MRm_signed 0 [.ref a, mkU] [] (Wd mu la ro et)).bind fun q => Rr X (d + 1) MRm_readLump 42 L (psh q.1 st) q.2 := R_iv (av := []) d_MRm_readLump_39 fc_10_131 hO (ckS_le hc) rfl (Nat.le_of_ble_eq_true rfl) (Nat.le_of_ble_eq_true rfl)
theorem r_MRm_readLump_42 {a : Nat} {j x : Int32} (hq : (qA a 0).isSome = true) : Rr X d MRm_readLump 42 L (.int x :: .int j :: .ref a :: st) (Wd mu la ro et) = if j < 0 ∨ qAd a 0 ≤ j.toNatClampNeg then none else Rr X d MRm_readLump 43 L st (Wd (up2 mu a j.toNatClampNeg (x)) la ro et) := R_iasW d_MRm_readLump_42 hq
theorem r_MRm_readLump_43 {l1 l2 : Value} {x : Nat} : Rr X d MRm_readLump 43 [.ref x, l1, l2] st h = Rr X d MRm_readLump 44 [.ref x, l1, l2] (.ref x :: st) h := Rr_nx d_MRm_readLump_43 rfl
theorem r_MRm_readLump_44 {a : Nat} (hq : (qR a 10 4).isSome = true) : Rr X d MRm_readLump 44 L (.ref a :: st) (Wd mu la ro et) = Rr X d MRm_readLump 47 L (.ref (qRd a 10 4) :: st) (Wd mu la ro et) := R_gfR d_MRm_readLump_44 ff_10_13 hq
theorem r_MRm_readLump_47 {l0 l2 : Value} {x : Int32} : Rr X d MRm_readLump 47 [l0, .int x, l2] st h = Rr X d MRm_readLump 48 [l0, .int x, l2] (.int x :: st) h := Rr_nx d_MRm_readLump_47 rfl
theorem r_MRm_readLump_48 {x : Int32} {y : Nat} : Rr X d MRm_readLump 48 L (.int x :: .ref y :: st) h = Rr X d MRm_readLump 49 L (.int x :: .ref y :: .int x :: .ref y :: st) h := Rr_nx d_MRm_readLump_48 rfl
theorem r_MRm_readLump_49 {a : Nat} {j : Int32} (hq : (qA a 0).isSome = true) : Rr X d MRm_readLump 49 L (.int j :: .ref a :: st) (Wd mu la ro et) = if j < 0 ∨ qAd a 0 ≤ j.toNatClampNeg then none else Rr X d MRm_readLump 50 L (.int (mu a j.toNatClampNeg) :: st) (Wd mu la ro et) := R_ialW d_MRm_readLump_49 hq
theorem r_MRm_readLump_50 : Rr X d MRm_readLump 50 L st h = Rr X d MRm_readLump 51 L (.int (1) :: st) h := Rr_nx d_MRm_readLump_50 rfl
theorem r_MRm_readLump_51 {x y : Int32} : Rr X d MRm_readLump 51 L (.int y :: .int x :: st) h = Rr X d MRm_readLump 52 L (.int (x + y) :: st) h := Rr_nx d_MRm_readLump_51 rfl
theorem r_MRm_readLump_52 {a : Nat} {j x : Int32} (hq : (qA a 0).isSome = true) : Rr X d MRm_readLump 52 L (.int x :: .int j :: .ref a :: st) (Wd mu la ro et) = if j < 0 ∨ qAd a 0 ≤ j.toNatClampNeg then none else Rr X d MRm_readLump 53 L st (Wd (up2 mu a j.toNatClampNeg (x)) la ro et) := R_iasW d_MRm_readLump_52 hq
theorem r_MRm_readLump_53 : Rr X d MRm_readLump 53 L [] h = some (none, h) := Rr_rt d_MRm_readLump_53 rfl
theorem d_MRm_stone_0 : decode MRm_stone.2.2.1 0 = .ok (.aload_n 0, 1) := lkT_ok tk_MRm_stone rfl
theorem d_MRm_stone_1 : decode MRm_stone.2.2.1 1 = .ok (.getfield 114, 3) := lkT_ok tk_MRm_stone rfl
theorem d_MRm_stone_4 : decode MRm_stone.2.2.1 4 = .ok (.bipush 6, 2) := lkT_ok tk_MRm_stone rfl
theorem d_MRm_stone_6 : decode MRm_stone.2.2.1 6 = .ok (.if_icmp .ne 6, 3) := lkT_ok tk_MRm_stone rfl
theorem d_MRm_stone_9 : decode MRm_stone.2.2.1 9 = .ok (.bipush (-3), 2) := lkT_ok tk_MRm_stone rfl
theorem d_MRm_stone_11 : decode MRm_stone.2.2.1 11 = .ok (.ireturn, 1) := lkT_ok tk_MRm_stone rfl
theorem d_MRm_stone_12 : decode MRm_stone.2.2.1 12 = .ok (.aload_n 0, 1) := lkT_ok tk_MRm_stone rfl
theorem d_MRm_stone_13 : decode MRm_stone.2.2.1 13 = .ok (.iconst 0, 1) := lkT_ok tk_MRm_stone rfl
theorem d_MRm_stone_14 : decode MRm_stone.2.2.1 14 = .ok (.putfield 120, 3) := lkT_ok tk_MRm_stone rfl
theorem d_MRm_stone_17 : decode MRm_stone.2.2.1 17 = .ok (.aload_n 0, 1) := lkT_ok tk_MRm_stone rfl
theorem d_MRm_stone_18 : decode MRm_stone.2.2.1 18 = .ok (.iconst (-1), 1) := lkT_ok tk_MRm_stone rfl
theorem d_MRm_stone_19 : decode MRm_stone.2.2.1 19 = .ok (.putfield 117, 3) := lkT_ok tk_MRm_stone rfl
theorem d_MRm_stone_22 : decode MRm_stone.2.2.1 22 = .ok (.aload_n 0, 1) := lkT_ok tk_MRm_stone rfl
theorem d_MRm_stone_23 : decode MRm_stone.2.2.1 23 = .ok (.getfield 114, 3) := lkT_ok tk_MRm_stone rfl
theorem d_MRm_stone_26 : decode MRm_stone.2.2.1 26 = .ok (.istore_n 1, 1) := lkT_ok tk_MRm_stone rfl
theorem d_MRm_stone_27 : decode MRm_stone.2.2.1 27 = .ok (.aload_n 0, 1) := lkT_ok tk_MRm_stone rfl
theorem d_MRm_stone_28 : decode MRm_stone.2.2.1 28 = .ok (.getfield 13, 3) := lkT_ok tk_MRm_stone rfl
theorem d_MRm_stone_31 : decode MRm_stone.2.2.1 31 = .ok (.iload_n 1, 1) := lkT_ok tk_MRm_stone rfl
theorem d_MRm_stone_32 : decode MRm_stone.2.2.1 32 = .ok (.iconst 0, 1) := lkT_ok tk_MRm_stone rfl
theorem d_MRm_stone_33 : decode MRm_stone.2.2.1 33 = .ok (.iastore, 1) := lkT_ok tk_MRm_stone rfl
theorem d_MRm_stone_34 : decode MRm_stone.2.2.1 34 = .ok (.aload_n 0, 1) := lkT_ok tk_MRm_stone rfl
theorem d_MRm_stone_35 : decode MRm_stone.2.2.1 35 = .ok (.iload_n 1, 1) := lkT_ok tk_MRm_stone rfl
theorem d_MRm_stone_36 : decode MRm_stone.2.2.1 36 = .ok (.invokevirtual 135, 3) := lkT_ok tk_MRm_stone rfl
theorem d_MRm_stone_39 : decode MRm_stone.2.2.1 39 = .ok (.aload_n 0, 1) := lkT_ok tk_MRm_stone rfl
theorem d_MRm_stone_40 : decode MRm_stone.2.2.1 40 = .ok (.bipush 59, 2) := lkT_ok tk_MRm_stone rfl
theorem d_MRm_stone_42 : decode MRm_stone.2.2.1 42 = .ok (.invokevirtual 123, 3) := lkT_ok tk_MRm_stone rfl
theorem d_MRm_stone_45 : decode MRm_stone.2.2.1 45 = .ok (.ifCond .eq 32, 3) := lkT_ok tk_MRm_stone rfl
theorem d_MRm_stone_48 : decode MRm_stone.2.2.1 48 = .ok (.aload_n 0, 1) := lkT_ok tk_MRm_stone rfl
theorem d_MRm_stone_49 : decode MRm_stone.2.2.1 49 = .ok (.getfield 13, 3) := lkT_ok tk_MRm_stone rfl
theorem d_MRm_stone_52 : decode MRm_stone.2.2.1 52 = .ok (.iload_n 1, 1) := lkT_ok tk_MRm_stone rfl
theorem d_MRm_stone_53 : decode MRm_stone.2.2.1 53 = .ok (.iaload, 1) := lkT_ok tk_MRm_stone rfl
theorem d_MRm_stone_54 : decode MRm_stone.2.2.1 54 = .ok (.bipush 12, 2) := lkT_ok tk_MRm_stone rfl
theorem d_MRm_stone_56 : decode MRm_stone.2.2.1 56 = .ok (.if_icmp .ge 21, 3) := lkT_ok tk_MRm_stone rfl
theorem d_MRm_stone_59 : decode MRm_stone.2.2.1 59 = .ok (.aload_n 0, 1) := lkT_ok tk_MRm_stone rfl
theorem d_MRm_stone_60 : decode MRm_stone.2.2.1 60 = .ok (.dup, 1) := lkT_ok tk_MRm_stone rfl
theorem d_MRm_stone_61 : decode MRm_stone.2.2.1 61 = .ok (.getfield 120, 3) := lkT_ok tk_MRm_stone rfl
theorem d_MRm_stone_64 : decode MRm_stone.2.2.1 64 = .ok (.iconst 1, 1) := lkT_ok tk_MRm_stone rfl
theorem d_MRm_stone_65 : decode MRm_stone.2.2.1 65 = .ok (.iadd, 1) := lkT_ok tk_MRm_stone rfl
theorem d_MRm_stone_66 : decode MRm_stone.2.2.1 66 = .ok (.putfield 120, 3) := lkT_ok tk_MRm_stone rfl
theorem d_MRm_stone_69 : decode MRm_stone.2.2.1 69 = .ok (.aload_n 0, 1) := lkT_ok tk_MRm_stone rfl
theorem d_MRm_stone_70 : decode MRm_stone.2.2.1 70 = .ok (.iload_n 1, 1) := lkT_ok tk_MRm_stone rfl
theorem d_MRm_stone_71 : decode MRm_stone.2.2.1 71 = .ok (.invokevirtual 135, 3) := lkT_ok tk_MRm_stone rfl
theorem d_MRm_stone_74 : decode MRm_stone.2.2.1 74 = .ok (.goto (-35), 3) := lkT_ok tk_MRm_stone rfl
theorem d_MRm_stone_77 : decode MRm_stone.2.2.1 77 = .ok (.aload_n 0, 1) := lkT_ok tk_MRm_stone rfl
theorem d_MRm_stone_78 : decode MRm_stone.2.2.1 78 = .ok (.bipush 47, 2) := lkT_ok tk_MRm_stone rfl
theorem d_MRm_stone_80 : decode MRm_stone.2.2.1 80 = .ok (.invokevirtual 139, 3) := lkT_ok tk_MRm_stone rfl
theorem d_MRm_stone_83 : decode MRm_stone.2.2.1 83 = .ok (.iconst 0, 1) := lkT_ok tk_MRm_stone rfl
theorem d_MRm_stone_84 : decode MRm_stone.2.2.1 84 = .ok (.istore_n 2, 1) := lkT_ok tk_MRm_stone rfl
theorem d_MRm_stone_85 : decode MRm_stone.2.2.1 85 = .ok (.iload_n 2, 1) := lkT_ok tk_MRm_stone rfl
theorem d_MRm_stone_86 : decode MRm_stone.2.2.1 86 = .ok (.iconst 4, 1) := lkT_ok tk_MRm_stone rfl
theorem d_MRm_stone_87 : decode MRm_stone.2.2.1 87 = .ok (.if_icmp .ge 46, 3) := lkT_ok tk_MRm_stone rfl
theorem d_MRm_stone_90 : decode MRm_stone.2.2.1 90 = .ok (.iload_n 2, 1) := lkT_ok tk_MRm_stone rfl
theorem d_MRm_stone_91 : decode MRm_stone.2.2.1 91 = .ok (.ifCond .le 9, 3) := lkT_ok tk_MRm_stone rfl
theorem d_MRm_stone_94 : decode MRm_stone.2.2.1 94 = .ok (.aload_n 0, 1) := lkT_ok tk_MRm_stone rfl
theorem d_MRm_stone_95 : decode MRm_stone.2.2.1 95 = .ok (.bipush 44, 2) := lkT_ok tk_MRm_stone rfl
theorem d_MRm_stone_97 : decode MRm_stone.2.2.1 97 = .ok (.invokevirtual 139, 3) := lkT_ok tk_MRm_stone rfl
theorem d_MRm_stone_100 : decode MRm_stone.2.2.1 100 = .ok (.aload_n 0, 1) := lkT_ok tk_MRm_stone rfl
theorem d_MRm_stone_101 : decode MRm_stone.2.2.1 101 = .ok (.getfield 26, 3) := lkT_ok tk_MRm_stone rfl
theorem d_MRm_stone_104 : decode MRm_stone.2.2.1 104 = .ok (.iconst 4, 1) := lkT_ok tk_MRm_stone rfl
theorem d_MRm_stone_105 : decode MRm_stone.2.2.1 105 = .ok (.iload_n 1, 1) := lkT_ok tk_MRm_stone rfl
theorem d_MRm_stone_106 : decode MRm_stone.2.2.1 106 = .ok (.imul, 1) := lkT_ok tk_MRm_stone rfl
theorem d_MRm_stone_107 : decode MRm_stone.2.2.1 107 = .ok (.iload_n 2, 1) := lkT_ok tk_MRm_stone rfl
theorem d_MRm_stone_108 : decode MRm_stone.2.2.1 108 = .ok (.iadd, 1) := lkT_ok tk_MRm_stone rfl
theorem d_MRm_stone_109 : decode MRm_stone.2.2.1 109 = .ok (.aload_n 0, 1) := lkT_ok tk_MRm_stone rfl
theorem d_MRm_stone_110 : decode MRm_stone.2.2.1 110 = .ok (.iload_n 2, 1) := lkT_ok tk_MRm_stone rfl
theorem d_MRm_stone_111 : decode MRm_stone.2.2.1 111 = .ok (.iconst 2, 1) := lkT_ok tk_MRm_stone rfl
theorem d_MRm_stone_112 : decode MRm_stone.2.2.1 112 = .ok (.if_icmp .ge 9, 3) := lkT_ok tk_MRm_stone rfl
theorem d_MRm_stone_115 : decode MRm_stone.2.2.1 115 = .ok (.sipush 999, 3) := lkT_ok tk_MRm_stone rfl
theorem d_MRm_stone_118 : decode MRm_stone.2.2.1 118 = .ok (.goto 5, 3) := lkT_ok tk_MRm_stone rfl
theorem d_MRm_stone_121 : decode MRm_stone.2.2.1 121 = .ok (.bipush 100, 2) := lkT_ok tk_MRm_stone rfl
theorem d_MRm_stone_123 : decode MRm_stone.2.2.1 123 = .ok (.invokevirtual 142, 3) := lkT_ok tk_MRm_stone rfl
theorem d_MRm_stone_126 : decode MRm_stone.2.2.1 126 = .ok (.iastore, 1) := lkT_ok tk_MRm_stone rfl
theorem d_MRm_stone_127 : decode MRm_stone.2.2.1 127 = .ok (.iinc 2 1, 3) := lkT_ok tk_MRm_stone rfl
theorem d_MRm_stone_130 : decode MRm_stone.2.2.1 130 = .ok (.goto (-45), 3) := lkT_ok tk_MRm_stone rfl
theorem d_MRm_stone_133 : decode MRm_stone.2.2.1 133 = .ok (.aload_n 0, 1) := lkT_ok tk_MRm_stone rfl
theorem d_MRm_stone_134 : decode MRm_stone.2.2.1 134 = .ok (.getfield 117, 3) := lkT_ok tk_MRm_stone rfl
theorem d_MRm_stone_137 : decode MRm_stone.2.2.1 137 = .ok (.ifCond .ge 22, 3) := lkT_ok tk_MRm_stone rfl
theorem d_MRm_stone_140 : decode MRm_stone.2.2.1 140 = .ok (.aload_n 0, 1) := lkT_ok tk_MRm_stone rfl
theorem d_MRm_stone_141 : decode MRm_stone.2.2.1 141 = .ok (.getfield 120, 3) := lkT_ok tk_MRm_stone rfl
theorem d_MRm_stone_144 : decode MRm_stone.2.2.1 144 = .ok (.aload_n 0, 1) := lkT_ok tk_MRm_stone rfl
theorem d_MRm_stone_145 : decode MRm_stone.2.2.1 145 = .ok (.getfield 111, 3) := lkT_ok tk_MRm_stone rfl
theorem d_MRm_stone_148 : decode MRm_stone.2.2.1 148 = .ok (.if_icmp .ge 11, 3) := lkT_ok tk_MRm_stone rfl
theorem d_MRm_stone_151 : decode MRm_stone.2.2.1 151 = .ok (.aload_n 0, 1) := lkT_ok tk_MRm_stone rfl
theorem d_MRm_stone_152 : decode MRm_stone.2.2.1 152 = .ok (.aload_n 0, 1) := lkT_ok tk_MRm_stone rfl
theorem d_MRm_stone_153 : decode MRm_stone.2.2.1 153 = .ok (.getfield 120, 3) := lkT_ok tk_MRm_stone rfl
theorem d_MRm_stone_156 : decode MRm_stone.2.2.1 156 = .ok (.putfield 117, 3) := lkT_ok tk_MRm_stone rfl
theorem d_MRm_stone_159 : decode MRm_stone.2.2.1 159 = .ok (.aload_n 0, 1) := lkT_ok tk_MRm_stone rfl
theorem d_MRm_stone_160 : decode MRm_stone.2.2.1 160 = .ok (.iconst 0, 1) := lkT_ok tk_MRm_stone rfl
theorem d_MRm_stone_161 : decode MRm_stone.2.2.1 161 = .ok (.putfield 111, 3) := lkT_ok tk_MRm_stone rfl
theorem d_MRm_stone_164 : decode MRm_stone.2.2.1 164 = .ok (.aload_n 0, 1) := lkT_ok tk_MRm_stone rfl
theorem d_MRm_stone_165 : decode MRm_stone.2.2.1 165 = .ok (.getfield 117, 3) := lkT_ok tk_MRm_stone rfl
theorem d_MRm_stone_168 : decode MRm_stone.2.2.1 168 = .ok (.ifCond .lt 11, 3) := lkT_ok tk_MRm_stone rfl
theorem d_MRm_stone_171 : decode MRm_stone.2.2.1 171 = .ok (.bipush (-100), 2) := lkT_ok tk_MRm_stone rfl
theorem d_MRm_stone_173 : decode MRm_stone.2.2.1 173 = .ok (.aload_n 0, 1) := lkT_ok tk_MRm_stone rfl
theorem d_MRm_stone_174 : decode MRm_stone.2.2.1 174 = .ok (.getfield 117, 3) := lkT_ok tk_MRm_stone rfl
theorem d_MRm_stone_177 : decode MRm_stone.2.2.1 177 = .ok (.isub, 1) := lkT_ok tk_MRm_stone rfl
theorem d_MRm_stone_178 : decode MRm_stone.2.2.1 178 = .ok (.ireturn, 1) := lkT_ok tk_MRm_stone rfl
theorem d_MRm_stone_179 : decode MRm_stone.2.2.1 179 = .ok (.aload_n 0, 1) := lkT_ok tk_MRm_stone rfl
theorem d_MRm_stone_180 : decode MRm_stone.2.2.1 180 = .ok (.dup, 1) := lkT_ok tk_MRm_stone rfl
theorem d_MRm_stone_181 : decode MRm_stone.2.2.1 181 = .ok (.getfield 114, 3) := lkT_ok tk_MRm_stone rfl
theorem d_MRm_stone_184 : decode MRm_stone.2.2.1 184 = .ok (.iconst 1, 1) := lkT_ok tk_MRm_stone rfl
theorem d_MRm_stone_185 : decode MRm_stone.2.2.1 185 = .ok (.iadd, 1) := lkT_ok tk_MRm_stone rfl
theorem d_MRm_stone_186 : decode MRm_stone.2.2.1 186 = .ok (.putfield 114, 3) := lkT_ok tk_MRm_stone rfl
theorem d_MRm_stone_189 : decode MRm_stone.2.2.1 189 = .ok (.iload_n 1, 1) := lkT_ok tk_MRm_stone rfl
theorem d_MRm_stone_190 : decode MRm_stone.2.2.1 190 = .ok (.ireturn, 1) := lkT_ok tk_MRm_stone rfl
theorem r_MRm_stone_0 {l1 l2 : Value} {x : Nat} : Rr X d MRm_stone 0 [.ref x, l1, l2] st h = Rr X d MRm_stone 1 [.ref x, l1, l2] (.ref x :: st) h := Rr_nx d_MRm_stone_0 rfl
theorem r_MRm_stone_1 {a : Nat} (hq : qI a 10 3 = true) : Rr X d MRm_stone 1 L (.ref a :: st) (Wd mu la ro et) = Rr X d MRm_stone 4 L (.int (mu a 3) :: st) (Wd mu la ro et) := R_gfI d_MRm_stone_1 ff_10_114 hq
theorem r_MRm_stone_4 : Rr X d MRm_stone 4 L st h = Rr X d MRm_stone 6 L (.int (6) :: st) h := Rr_nx d_MRm_stone_4 rfl
theorem r_MRm_stone_6 {x y : Int32} : Rr X d MRm_stone 6 L (.int y :: .int x :: st) h = if ¬ x = y then Rr X d MRm_stone 12 L st h else Rr X d MRm_stone 9 L st h := R_ic_ne d_MRm_stone_6 (by decide)
theorem r_MRm_stone_9 : Rr X d MRm_stone 9 L st h = Rr X d MRm_stone 11 L (.int (-3) :: st) h := Rr_nx d_MRm_stone_9 rfl
theorem r_MRm_stone_11 {x : Int32} : Rr X d MRm_stone 11 L [.int x] h = some (some (.int x), h) := R_ir d_MRm_stone_11 rfl
theorem r_MRm_stone_12 {l1 l2 : Value} {x : Nat} : Rr X d MRm_stone 12 [.ref x, l1, l2] st h = Rr X d MRm_stone 13 [.ref x, l1, l2] (.ref x :: st) h := Rr_nx d_MRm_stone_12 rfl
theorem r_MRm_stone_13 : Rr X d MRm_stone 13 L st h = Rr X d MRm_stone 14 L (.int (0) :: st) h := Rr_nx d_MRm_stone_13 rfl
theorem r_MRm_stone_14 {a : Nat} {x : Int32} (hq : qI a 10 18 = true) : Rr X d MRm_stone 14 L (.int x :: .ref a :: st) (Wd mu la ro et) = Rr X d MRm_stone 17 L st (Wd (up2 mu a 18 x) la ro et) := R_pfI d_MRm_stone_14 ff_10_120 hq
theorem r_MRm_stone_17 {l1 l2 : Value} {x : Nat} : Rr X d MRm_stone 17 [.ref x, l1, l2] st h = Rr X d MRm_stone 18 [.ref x, l1, l2] (.ref x :: st) h := Rr_nx d_MRm_stone_17 rfl
theorem r_MRm_stone_18 : Rr X d MRm_stone 18 L st h = Rr X d MRm_stone 19 L (.int (-1) :: st) h := Rr_nx d_MRm_stone_18 rfl
theorem r_MRm_stone_19 {a : Nat} {x : Int32} (hq : qI a 10 19 = true) : Rr X d MRm_stone 19 L (.int x :: .ref a :: st) (Wd mu la ro et) = Rr X d MRm_stone 22 L st (Wd (up2 mu a 19 x) la ro et) := R_pfI d_MRm_stone_19 ff_10_117 hq
theorem r_MRm_stone_22 {l1 l2 : Value} {x : Nat} : Rr X d MRm_stone 22 [.ref x, l1, l2] st h = Rr X d MRm_stone 23 [.ref x, l1, l2] (.ref x :: st) h := Rr_nx d_MRm_stone_22 rfl
theorem r_MRm_stone_23 {a : Nat} (hq : qI a 10 3 = true) : Rr X d MRm_stone 23 L (.ref a :: st) (Wd mu la ro et) = Rr X d MRm_stone 26 L (.int (mu a 3) :: st) (Wd mu la ro et) := R_gfI d_MRm_stone_23 ff_10_114 hq
theorem r_MRm_stone_26 {l0 l1 l2 : Value} {x : Int32} : Rr X d MRm_stone 26 [l0, l1, l2] (.int x :: st) h = Rr X d MRm_stone 27 (sL [l0, l1, l2] 1 (.int x)) st h := Rr_nx d_MRm_stone_26 rfl
theorem r_MRm_stone_27 {l1 l2 : Value} {x : Nat} : Rr X d MRm_stone 27 [.ref x, l1, l2] st h = Rr X d MRm_stone 28 [.ref x, l1, l2] (.ref x :: st) h := Rr_nx d_MRm_stone_27 rfl
theorem r_MRm_stone_28 {a : Nat} (hq : (qR a 10 4).isSome = true) : Rr X d MRm_stone 28 L (.ref a :: st) (Wd mu la ro et) = Rr X d MRm_stone 31 L (.ref (qRd a 10 4) :: st) (Wd mu la ro et) := R_gfR d_MRm_stone_28 ff_10_13 hq
theorem r_MRm_stone_31 {l0 l2 : Value} {x : Int32} : Rr X d MRm_stone 31 [l0, .int x, l2] st h = Rr X d MRm_stone 32 [l0, .int x, l2] (.int x :: st) h := Rr_nx d_MRm_stone_31 rfl
theorem r_MRm_stone_32 : Rr X d MRm_stone 32 L st h = Rr X d MRm_stone 33 L (.int (0) :: st) h := Rr_nx d_MRm_stone_32 rfl
theorem r_MRm_stone_33 {a : Nat} {j x : Int32} (hq : (qA a 0).isSome = true) : Rr X d MRm_stone 33 L (.int x :: .int j :: .ref a :: st) (Wd mu la ro et) = if j < 0 ∨ qAd a 0 ≤ j.toNatClampNeg then none else Rr X d MRm_stone 34 L st (Wd (up2 mu a j.toNatClampNeg (x)) la ro et) := R_iasW d_MRm_stone_33 hq
theorem r_MRm_stone_34 {l1 l2 : Value} {x : Nat} : Rr X d MRm_stone 34 [.ref x, l1, l2] st h = Rr X d MRm_stone 35 [.ref x, l1, l2] (.ref x :: st) h := Rr_nx d_MRm_stone_34 rfl
theorem r_MRm_stone_35 {l0 l2 : Value} {x : Int32} : Rr X d MRm_stone 35 [l0, .int x, l2] st h = Rr X d MRm_stone 36 [l0, .int x, l2] (.int x :: st) h := Rr_nx d_MRm_stone_35 rfl
theorem fc_10_135 : fC 10 135 = some (0, 10, 1, MRm_readLump) := rfl
theorem r_MRm_stone_36 {y0 : Int32} {a : Nat} (hO : qO a 10 = true) (hc : ckS st = true) : Rr X (d + 1) MRm_stone 36 L (.int y0 :: .ref a :: st) (Wd mu la ro et) = (Rr X d MRm_readLump 0 [.ref a, .int y0, mkU] [] (Wd mu la ro et)).bind fun q => Rr X (d + 1) MRm_stone 39 L (psh q.1 st) q.2 := R_iv (av := [.int y0]) d_MRm_stone_36 fc_10_135 hO (ckS_le hc) rfl (Nat.le_of_ble_eq_true rfl) (Nat.le_of_ble_eq_true rfl)
theorem r_MRm_stone_39 {l1 l2 : Value} {x : Nat} : Rr X d MRm_stone 39 [.ref x, l1, l2] st h = Rr X d MRm_stone 40 [.ref x, l1, l2] (.ref x :: st) h := Rr_nx d_MRm_stone_39 rfl
theorem r_MRm_stone_40 : Rr X d MRm_stone 40 L st h = Rr X d MRm_stone 42 L (.int (59) :: st) h := Rr_nx d_MRm_stone_40 rfl
theorem r_MRm_stone_42 {y0 : Int32} {a : Nat} (hO : qO a 10 = true) (hc : ckS st = true) : Rr X (d + 1) MRm_stone 42 L (.int y0 :: .ref a :: st) (Wd mu la ro et) = (Rr X d MRm_isHere 0 [.ref a, .int y0] [] (Wd mu la ro et)).bind fun q => Rr X (d + 1) MRm_stone 45 L (psh q.1 st) q.2 := R_iv (av := [.int y0]) d_MRm_stone_42 fc_10_123 hO (ckS_le hc) rfl (Nat.le_of_ble_eq_true rfl) (Nat.le_of_ble_eq_true rfl)
theorem r_MRm_stone_45 {x : Int32} : Rr X d MRm_stone 45 L (.int x :: st) h = if x = 0 then Rr X d MRm_stone 77 L st h else Rr X d MRm_stone 48 L st h := R_if_eq d_MRm_stone_45 (by decide)
theorem r_MRm_stone_48 {l1 l2 : Value} {x : Nat} : Rr X d MRm_stone 48 [.ref x, l1, l2] st h = Rr X d MRm_stone 49 [.ref x, l1, l2] (.ref x :: st) h := Rr_nx d_MRm_stone_48 rfl
theorem r_MRm_stone_49 {a : Nat} (hq : (qR a 10 4).isSome = true) : Rr X d MRm_stone 49 L (.ref a :: st) (Wd mu la ro et) = Rr X d MRm_stone 52 L (.ref (qRd a 10 4) :: st) (Wd mu la ro et) := R_gfR d_MRm_stone_49 ff_10_13 hq
theorem r_MRm_stone_52 {l0 l2 : Value} {x : Int32} : Rr X d MRm_stone 52 [l0, .int x, l2] st h = Rr X d MRm_stone 53 [l0, .int x, l2] (.int x :: st) h := Rr_nx d_MRm_stone_52 rfl
theorem r_MRm_stone_53 {a : Nat} {j : Int32} (hq : (qA a 0).isSome = true) : Rr X d MRm_stone 53 L (.int j :: .ref a :: st) (Wd mu la ro et) = if j < 0 ∨ qAd a 0 ≤ j.toNatClampNeg then none else Rr X d MRm_stone 54 L (.int (mu a j.toNatClampNeg) :: st) (Wd mu la ro et) := R_ialW d_MRm_stone_53 hq
theorem r_MRm_stone_54 : Rr X d MRm_stone 54 L st h = Rr X d MRm_stone 56 L (.int (12) :: st) h := Rr_nx d_MRm_stone_54 rfl
theorem r_MRm_stone_56 {x y : Int32} : Rr X d MRm_stone 56 L (.int y :: .int x :: st) h = if y ≤ x then Rr X d MRm_stone 77 L st h else Rr X d MRm_stone 59 L st h := R_ic_ge d_MRm_stone_56 (by decide)
theorem r_MRm_stone_59 {l1 l2 : Value} {x : Nat} : Rr X d MRm_stone 59 [.ref x, l1, l2] st h = Rr X d MRm_stone 60 [.ref x, l1, l2] (.ref x :: st) h := Rr_nx d_MRm_stone_59 rfl
theorem r_MRm_stone_60 {x : Nat} : Rr X d MRm_stone 60 L (.ref x :: st) h = Rr X d MRm_stone 61 L (.ref x :: .ref x :: st) h := Rr_nx d_MRm_stone_60 rfl
theorem r_MRm_stone_60i {x : Int32} : Rr X d MRm_stone 60 L (.int x :: st) h = Rr X d MRm_stone 61 L (.int x :: .int x :: st) h := Rr_nx d_MRm_stone_60 rfl
theorem r_MRm_stone_61 {a : Nat} (hq : qI a 10 18 = true) : Rr X d MRm_stone 61 L (.ref a :: st) (Wd mu la ro et) = Rr X d MRm_stone 64 L (.int (mu a 18) :: st) (Wd mu la ro et) := R_gfI d_MRm_stone_61 ff_10_120 hq
theorem r_MRm_stone_64 : Rr X d MRm_stone 64 L st h = Rr X d MRm_stone 65 L (.int (1) :: st) h := Rr_nx d_MRm_stone_64 rfl
theorem r_MRm_stone_65 {x y : Int32} : Rr X d MRm_stone 65 L (.int y :: .int x :: st) h = Rr X d MRm_stone 66 L (.int (x + y) :: st) h := Rr_nx d_MRm_stone_65 rfl
theorem r_MRm_stone_66 {a : Nat} {x : Int32} (hq : qI a 10 18 = true) : Rr X d MRm_stone 66 L (.int x :: .ref a :: st) (Wd mu la ro et) = Rr X d MRm_stone 69 L st (Wd (up2 mu a 18 x) la ro et) := R_pfI d_MRm_stone_66 ff_10_120 hq
theorem r_MRm_stone_69 {l1 l2 : Value} {x : Nat} : Rr X d MRm_stone 69 [.ref x, l1, l2] st h = Rr X d MRm_stone 70 [.ref x, l1, l2] (.ref x :: st) h := Rr_nx d_MRm_stone_69 rfl
theorem r_MRm_stone_70 {l0 l2 : Value} {x : Int32} : Rr X d MRm_stone 70 [l0, .int x, l2] st h = Rr X d MRm_stone 71 [l0, .int x, l2] (.int x :: st) h := Rr_nx d_MRm_stone_70 rfl
theorem r_MRm_stone_71 {y0 : Int32} {a : Nat} (hO : qO a 10 = true) (hc : ckS st = true) : Rr X (d + 1) MRm_stone 71 L (.int y0 :: .ref a :: st) (Wd mu la ro et) = (Rr X d MRm_readLump 0 [.ref a, .int y0, mkU] [] (Wd mu la ro et)).bind fun q => Rr X (d + 1) MRm_stone 74 L (psh q.1 st) q.2 := R_iv (av := [.int y0]) d_MRm_stone_71 fc_10_135 hO (ckS_le hc) rfl (Nat.le_of_ble_eq_true rfl) (Nat.le_of_ble_eq_true rfl)
theorem r_MRm_stone_74 : Rr X d MRm_stone 74 L st h = Rr X d MRm_stone 39 L st h := R_goto d_MRm_stone_74 (by decide)
theorem r_MRm_stone_77 {l1 l2 : Value} {x : Nat} : Rr X d MRm_stone 77 [.ref x, l1, l2] st h = Rr X d MRm_stone 78 [.ref x, l1, l2] (.ref x :: st) h := Rr_nx d_MRm_stone_77 rfl
theorem r_MRm_stone_78 : Rr X d MRm_stone 78 L st h = Rr X d MRm_stone 80 L (.int (47) :: st) h := Rr_nx d_MRm_stone_78 rfl
theorem fc_10_139 : fC 10 139 = some (0, 10, 1, MRm_takes) := rfl
theorem r_MRm_stone_80 {y0 : Int32} {a : Nat} (hO : qO a 10 = true) (hc : ckS st = true) : Rr X (d + 1) MRm_stone 80 L (.int y0 :: .ref a :: st) (Wd mu la ro et) = (Rr X d MRm_takes 0 [.ref a, .int y0] [] (Wd mu la ro et)).bind fun q => Rr X (d + 1) MRm_stone 83 L (psh q.1 st) q.2 := R_iv (av := [.int y0]) d_MRm_stone_80 fc_10_139 hO (ckS_le hc) rfl (Nat.le_of_ble_eq_true rfl) (Nat.le_of_ble_eq_true rfl)
theorem r_MRm_stone_83 : Rr X d MRm_stone 83 L st h = Rr X d MRm_stone 84 L (.int (0) :: st) h := Rr_nx d_MRm_stone_83 rfl
theorem r_MRm_stone_84 {l0 l1 l2 : Value} {x : Int32} : Rr X d MRm_stone 84 [l0, l1, l2] (.int x :: st) h = Rr X d MRm_stone 85 (sL [l0, l1, l2] 2 (.int x)) st h := Rr_nx d_MRm_stone_84 rfl
theorem r_MRm_stone_85 {l0 l1 : Value} {x : Int32} : Rr X d MRm_stone 85 [l0, l1, .int x] st h = Rr X d MRm_stone 86 [l0, l1, .int x] (.int x :: st) h := Rr_nx d_MRm_stone_85 rfl
theorem r_MRm_stone_86 : Rr X d MRm_stone 86 L st h = Rr X d MRm_stone 87 L (.int (4) :: st) h := Rr_nx d_MRm_stone_86 rfl
theorem r_MRm_stone_87 {x y : Int32} : Rr X d MRm_stone 87 L (.int y :: .int x :: st) h = if y ≤ x then Rr X d MRm_stone 133 L st h else Rr X d MRm_stone 90 L st h := R_ic_ge d_MRm_stone_87 (by decide)
theorem r_MRm_stone_90 {l0 l1 : Value} {x : Int32} : Rr X d MRm_stone 90 [l0, l1, .int x] st h = Rr X d MRm_stone 91 [l0, l1, .int x] (.int x :: st) h := Rr_nx d_MRm_stone_90 rfl
theorem r_MRm_stone_91 {x : Int32} : Rr X d MRm_stone 91 L (.int x :: st) h = if x ≤ 0 then Rr X d MRm_stone 100 L st h else Rr X d MRm_stone 94 L st h := R_if_le d_MRm_stone_91 (by decide)
theorem r_MRm_stone_94 {l1 l2 : Value} {x : Nat} : Rr X d MRm_stone 94 [.ref x, l1, l2] st h = Rr X d MRm_stone 95 [.ref x, l1, l2] (.ref x :: st) h := Rr_nx d_MRm_stone_94 rfl
theorem r_MRm_stone_95 : Rr X d MRm_stone 95 L st h = Rr X d MRm_stone 97 L (.int (44) :: st) h := Rr_nx d_MRm_stone_95 rfl
theorem r_MRm_stone_97 {y0 : Int32} {a : Nat} (hO : qO a 10 = true) (hc : ckS st = true) : Rr X (d + 1) MRm_stone 97 L (.int y0 :: .ref a :: st) (Wd mu la ro et) = (Rr X d MRm_takes 0 [.ref a, .int y0] [] (Wd mu la ro et)).bind fun q => Rr X (d + 1) MRm_stone 100 L (psh q.1 st) q.2 := R_iv (av := [.int y0]) d_MRm_stone_97 fc_10_139 hO (ckS_le hc) rfl (Nat.le_of_ble_eq_true rfl) (Nat.le_of_ble_eq_true rfl)
theorem r_MRm_stone_100 {l1 l2 : Value} {x : Nat} : Rr X d MRm_stone 100 [.ref x, l1, l2] st h = Rr X d MRm_stone 101 [.ref x, l1, l2] (.ref x :: st) h := Rr_nx d_MRm_stone_100 rfl
theorem r_MRm_stone_101 {a : Nat} (hq : (qR a 10 8).isSome = true) : Rr X d MRm_stone 101 L (.ref a :: st) (Wd mu la ro et) = Rr X d MRm_stone 104 L (.ref (qRd a 10 8) :: st) (Wd mu la ro et) := R_gfR d_MRm_stone_101 ff_10_26 hq
theorem r_MRm_stone_104 : Rr X d MRm_stone 104 L st h = Rr X d MRm_stone 105 L (.int (4) :: st) h := Rr_nx d_MRm_stone_104 rfl
theorem r_MRm_stone_105 {l0 l2 : Value} {x : Int32} : Rr X d MRm_stone 105 [l0, .int x, l2] st h = Rr X d MRm_stone 106 [l0, .int x, l2] (.int x :: st) h := Rr_nx d_MRm_stone_105 rfl
theorem r_MRm_stone_106 {x y : Int32} : Rr X d MRm_stone 106 L (.int y :: .int x :: st) h = Rr X d MRm_stone 107 L (.int (x * y) :: st) h := Rr_nx d_MRm_stone_106 rfl
theorem r_MRm_stone_107 {l0 l1 : Value} {x : Int32} : Rr X d MRm_stone 107 [l0, l1, .int x] st h = Rr X d MRm_stone 108 [l0, l1, .int x] (.int x :: st) h := Rr_nx d_MRm_stone_107 rfl
theorem r_MRm_stone_108 {x y : Int32} : Rr X d MRm_stone 108 L (.int y :: .int x :: st) h = Rr X d MRm_stone 109 L (.int (x + y) :: st) h := Rr_nx d_MRm_stone_108 rfl
theorem r_MRm_stone_109 {l1 l2 : Value} {x : Nat} : Rr X d MRm_stone 109 [.ref x, l1, l2] st h = Rr X d MRm_stone 110 [.ref x, l1, l2] (.ref x :: st) h := Rr_nx d_MRm_stone_109 rfl
theorem r_MRm_stone_110 {l0 l1 : Value} {x : Int32} : Rr X d MRm_stone 110 [l0, l1, .int x] st h = Rr X d MRm_stone 111 [l0, l1, .int x] (.int x :: st) h := Rr_nx d_MRm_stone_110 rfl
theorem r_MRm_stone_111 : Rr X d MRm_stone 111 L st h = Rr X d MRm_stone 112 L (.int (2) :: st) h := Rr_nx d_MRm_stone_111 rfl
theorem r_MRm_stone_112 {x y : Int32} : Rr X d MRm_stone 112 L (.int y :: .int x :: st) h = if y ≤ x then Rr X d MRm_stone 121 L st h else Rr X d MRm_stone 115 L st h := R_ic_ge d_MRm_stone_112 (by decide)
theorem r_MRm_stone_115 : Rr X d MRm_stone 115 L st h = Rr X d MRm_stone 118 L (.int (999) :: st) h := Rr_nx d_MRm_stone_115 rfl
theorem r_MRm_stone_118 : Rr X d MRm_stone 118 L st h = Rr X d MRm_stone 123 L st h := R_goto d_MRm_stone_118 (by decide)
theorem r_MRm_stone_121 : Rr X d MRm_stone 121 L st h = Rr X d MRm_stone 123 L (.int (100) :: st) h := Rr_nx d_MRm_stone_121 rfl
theorem fc_10_142 : fC 10 142 = some (0, 10, 1, MRm_readNumber) := rfl
theorem r_MRm_stone_123 {y0 : Int32} {a : Nat} (hO : qO a 10 = true) (hc : ckS st = true) : Rr X (d + 1) MRm_stone 123 L (.int y0 :: .ref a :: st) (Wd mu la ro et) = (Rr X d MRm_readNumber 0 [.ref a, .int y0, mkU, mkU] [] (Wd mu la ro et)).bind fun q => Rr X (d + 1) MRm_stone 126 L (psh q.1 st) q.2 := R_iv (av := [.int y0]) d_MRm_stone_123 fc_10_142 hO (ckS_le hc) rfl (Nat.le_of_ble_eq_true rfl) (Nat.le_of_ble_eq_true rfl)
theorem r_MRm_stone_126 {a : Nat} {j x : Int32} (hq : (qA a 0).isSome = true) : Rr X d MRm_stone 126 L (.int x :: .int j :: .ref a :: st) (Wd mu la ro et) = if j < 0 ∨ qAd a 0 ≤ j.toNatClampNeg then none else Rr X d MRm_stone 127 L st (Wd (up2 mu a j.toNatClampNeg (x)) la ro et) := R_iasW d_MRm_stone_126 hq
theorem r_MRm_stone_127 {l0 l1 : Value} {x : Int32} : Rr X d MRm_stone 127 [l0, l1, .int x] st h = Rr X d MRm_stone 130 (sL [l0, l1, .int x] 2 (.int (x + (1)))) st h := Rr_nx d_MRm_stone_127 rfl
theorem r_MRm_stone_130 : Rr X d MRm_stone 130 L st h = Rr X d MRm_stone 85 L st h := R_goto d_MRm_stone_130 (by decide)
theorem r_MRm_stone_133 {l1 l2 : Value} {x : Nat} : Rr X d MRm_stone 133 [.ref x, l1, l2] st h = Rr X d MRm_stone 134 [.ref x, l1, l2] (.ref x :: st) h := Rr_nx d_MRm_stone_133 rfl
theorem r_MRm_stone_134 {a : Nat} (hq : qI a 10 19 = true) : Rr X d MRm_stone 134 L (.ref a :: st) (Wd mu la ro et) = Rr X d MRm_stone 137 L (.int (mu a 19) :: st) (Wd mu la ro et) := R_gfI d_MRm_stone_134 ff_10_117 hq
theorem r_MRm_stone_137 {x : Int32} : Rr X d MRm_stone 137 L (.int x :: st) h = if 0 ≤ x then Rr X d MRm_stone 159 L st h else Rr X d MRm_stone 140 L st h := R_if_ge d_MRm_stone_137 (by decide)
theorem r_MRm_stone_140 {l1 l2 : Value} {x : Nat} : Rr X d MRm_stone 140 [.ref x, l1, l2] st h = Rr X d MRm_stone 141 [.ref x, l1, l2] (.ref x :: st) h := Rr_nx d_MRm_stone_140 rfl
theorem r_MRm_stone_141 {a : Nat} (hq : qI a 10 18 = true) : Rr X d MRm_stone 141 L (.ref a :: st) (Wd mu la ro et) = Rr X d MRm_stone 144 L (.int (mu a 18) :: st) (Wd mu la ro et) := R_gfI d_MRm_stone_141 ff_10_120 hq
theorem r_MRm_stone_144 {l1 l2 : Value} {x : Nat} : Rr X d MRm_stone 144 [.ref x, l1, l2] st h = Rr X d MRm_stone 145 [.ref x, l1, l2] (.ref x :: st) h := Rr_nx d_MRm_stone_144 rfl
theorem r_MRm_stone_145 {a : Nat} (hq : qI a 10 2 = true) : Rr X d MRm_stone 145 L (.ref a :: st) (Wd mu la ro et) = Rr X d MRm_stone 148 L (.int (mu a 2) :: st) (Wd mu la ro et) := R_gfI d_MRm_stone_145 ff_10_111 hq
theorem r_MRm_stone_148 {x y : Int32} : Rr X d MRm_stone 148 L (.int y :: .int x :: st) h = if y ≤ x then Rr X d MRm_stone 159 L st h else Rr X d MRm_stone 151 L st h := R_ic_ge d_MRm_stone_148 (by decide)
theorem r_MRm_stone_151 {l1 l2 : Value} {x : Nat} : Rr X d MRm_stone 151 [.ref x, l1, l2] st h = Rr X d MRm_stone 152 [.ref x, l1, l2] (.ref x :: st) h := Rr_nx d_MRm_stone_151 rfl
theorem r_MRm_stone_152 {l1 l2 : Value} {x : Nat} : Rr X d MRm_stone 152 [.ref x, l1, l2] st h = Rr X d MRm_stone 153 [.ref x, l1, l2] (.ref x :: st) h := Rr_nx d_MRm_stone_152 rfl
theorem r_MRm_stone_153 {a : Nat} (hq : qI a 10 18 = true) : Rr X d MRm_stone 153 L (.ref a :: st) (Wd mu la ro et) = Rr X d MRm_stone 156 L (.int (mu a 18) :: st) (Wd mu la ro et) := R_gfI d_MRm_stone_153 ff_10_120 hq
theorem r_MRm_stone_156 {a : Nat} {x : Int32} (hq : qI a 10 19 = true) : Rr X d MRm_stone 156 L (.int x :: .ref a :: st) (Wd mu la ro et) = Rr X d MRm_stone 159 L st (Wd (up2 mu a 19 x) la ro et) := R_pfI d_MRm_stone_156 ff_10_117 hq
theorem r_MRm_stone_159 {l1 l2 : Value} {x : Nat} : Rr X d MRm_stone 159 [.ref x, l1, l2] st h = Rr X d MRm_stone 160 [.ref x, l1, l2] (.ref x :: st) h := Rr_nx d_MRm_stone_159 rfl
theorem r_MRm_stone_160 : Rr X d MRm_stone 160 L st h = Rr X d MRm_stone 161 L (.int (0) :: st) h := Rr_nx d_MRm_stone_160 rfl
theorem r_MRm_stone_161 {a : Nat} {x : Int32} (hq : qI a 10 2 = true) : Rr X d MRm_stone 161 L (.int x :: .ref a :: st) (Wd mu la ro et) = Rr X d MRm_stone 164 L st (Wd (up2 mu a 2 x) la ro et) := R_pfI d_MRm_stone_161 ff_10_111 hq
theorem r_MRm_stone_164 {l1 l2 : Value} {x : Nat} : Rr X d MRm_stone 164 [.ref x, l1, l2] st h = Rr X d MRm_stone 165 [.ref x, l1, l2] (.ref x :: st) h := Rr_nx d_MRm_stone_164 rfl
theorem r_MRm_stone_165 {a : Nat} (hq : qI a 10 19 = true) : Rr X d MRm_stone 165 L (.ref a :: st) (Wd mu la ro et) = Rr X d MRm_stone 168 L (.int (mu a 19) :: st) (Wd mu la ro et) := R_gfI d_MRm_stone_165 ff_10_117 hq
theorem r_MRm_stone_168 {x : Int32} : Rr X d MRm_stone 168 L (.int x :: st) h = if x < 0 then Rr X d MRm_stone 179 L st h else Rr X d MRm_stone 171 L st h := R_if_lt d_MRm_stone_168 (by decide)
theorem r_MRm_stone_171 : Rr X d MRm_stone 171 L st h = Rr X d MRm_stone 173 L (.int (-100) :: st) h := Rr_nx d_MRm_stone_171 rfl
theorem r_MRm_stone_173 {l1 l2 : Value} {x : Nat} : Rr X d MRm_stone 173 [.ref x, l1, l2] st h = Rr X d MRm_stone 174 [.ref x, l1, l2] (.ref x :: st) h := Rr_nx d_MRm_stone_173 rfl
theorem r_MRm_stone_174 {a : Nat} (hq : qI a 10 19 = true) : Rr X d MRm_stone 174 L (.ref a :: st) (Wd mu la ro et) = Rr X d MRm_stone 177 L (.int (mu a 19) :: st) (Wd mu la ro et) := R_gfI d_MRm_stone_174 ff_10_117 hq
theorem r_MRm_stone_177 {x y : Int32} : Rr X d MRm_stone 177 L (.int y :: .int x :: st) h = Rr X d MRm_stone 178 L (.int (x - y) :: st) h := Rr_nx d_MRm_stone_177 rfl
theorem r_MRm_stone_178 {x : Int32} : Rr X d MRm_stone 178 L [.int x] h = some (some (.int x), h) := R_ir d_MRm_stone_178 rfl
theorem r_MRm_stone_179 {l1 l2 : Value} {x : Nat} : Rr X d MRm_stone 179 [.ref x, l1, l2] st h = Rr X d MRm_stone 180 [.ref x, l1, l2] (.ref x :: st) h := Rr_nx d_MRm_stone_179 rfl
theorem r_MRm_stone_180 {x : Nat} : Rr X d MRm_stone 180 L (.ref x :: st) h = Rr X d MRm_stone 181 L (.ref x :: .ref x :: st) h := Rr_nx d_MRm_stone_180 rfl
theorem r_MRm_stone_180i {x : Int32} : Rr X d MRm_stone 180 L (.int x :: st) h = Rr X d MRm_stone 181 L (.int x :: .int x :: st) h := Rr_nx d_MRm_stone_180 rfl
theorem r_MRm_stone_181 {a : Nat} (hq : qI a 10 3 = true) : Rr X d MRm_stone 181 L (.ref a :: st) (Wd mu la ro et) = Rr X d MRm_stone 184 L (.int (mu a 3) :: st) (Wd mu la ro et) := R_gfI d_MRm_stone_181 ff_10_114 hq
theorem r_MRm_stone_184 : Rr X d MRm_stone 184 L st h = Rr X d MRm_stone 185 L (.int (1) :: st) h := Rr_nx d_MRm_stone_184 rfl
theorem r_MRm_stone_185 {x y : Int32} : Rr X d MRm_stone 185 L (.int y :: .int x :: st) h = Rr X d MRm_stone 186 L (.int (x + y) :: st) h := Rr_nx d_MRm_stone_185 rfl
theorem r_MRm_stone_186 {a : Nat} {x : Int32} (hq : qI a 10 3 = true) : Rr X d MRm_stone 186 L (.int x :: .ref a :: st) (Wd mu la ro et) = Rr X d MRm_stone 189 L st (Wd (up2 mu a 3 x) la ro et) := R_pfI d_MRm_stone_186 ff_10_114 hq
theorem r_MRm_stone_189 {l0 l2 : Value} {x : Int32} : Rr X d MRm_stone 189 [l0, .int x, l2] st h = Rr X d MRm_stone 190 [l0, .int x, l2] (.int x :: st) h := Rr_nx d_MRm_stone_189 rfl
theorem r_MRm_stone_190 {x : Int32} : Rr X d MRm_stone 190 L [.int x] h = some (some (.int x), h) := R_ir d_MRm_stone_190 rfl
end RULES
