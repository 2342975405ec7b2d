section RULES
variable {X : Tok} {d : Nat} {st L : List Value} {h : Hp} {mu : Nat → Nat → Int32} {la : Nat → Nat → Int64} {ro : Nat → Nat → Option Nat} {et : Nat → Option va_E}
theorem d_MTo_set_0 : decode MTo_set.2.2.1 0 = .ok (.aload_n 0, 1) := lkT_ok tk_MTo_set rfl
theorem d_MTo_set_1 : decode MTo_set.2.2.1 1 = .ok (.iload_n 1, 1) := lkT_ok tk_MTo_set rfl
theorem d_MTo_set_2 : decode MTo_set.2.2.1 2 = .ok (.invokevirtual 100, 3) := lkT_ok tk_MTo_set rfl
theorem d_MTo_set_5 : decode MTo_set.2.2.1 5 = .ok (.astore 4, 2) := lkT_ok tk_MTo_set rfl
theorem d_MTo_set_7 : decode MTo_set.2.2.1 7 = .ok (.aload 4, 2) := lkT_ok tk_MTo_set rfl
theorem d_MTo_set_9 : decode MTo_set.2.2.1 9 = .ok (.ifnull 13, 3) := lkT_ok tk_MTo_set rfl
theorem d_MTo_set_12 : decode MTo_set.2.2.1 12 = .ok (.aload 4, 2) := lkT_ok tk_MTo_set rfl
theorem d_MTo_set_14 : decode MTo_set.2.2.1 14 = .ok (.iload_n 2, 1) := lkT_ok tk_MTo_set rfl
theorem d_MTo_set_15 : decode MTo_set.2.2.1 15 = .ok (.iload_n 3, 1) := lkT_ok tk_MTo_set rfl
theorem d_MTo_set_16 : decode MTo_set.2.2.1 16 = .ok (.invokevirtual 116, 3) := lkT_ok tk_MTo_set rfl
theorem d_MTo_set_19 : decode MTo_set.2.2.1 19 = .ok (.ifCond .ne 5, 3) := lkT_ok tk_MTo_set rfl
theorem d_MTo_set_22 : decode MTo_set.2.2.1 22 = .ok (.iconst (-1), 1) := lkT_ok tk_MTo_set rfl
theorem d_MTo_set_23 : decode MTo_set.2.2.1 23 = .ok (.ireturn, 1) := lkT_ok tk_MTo_set rfl
theorem d_MTo_set_24 : decode MTo_set.2.2.1 24 = .ok (.aload 4, 2) := lkT_ok tk_MTo_set rfl
theorem d_MTo_set_26 : decode MTo_set.2.2.1 26 = .ok (.iload_n 2, 1) := lkT_ok tk_MTo_set rfl
theorem d_MTo_set_27 : decode MTo_set.2.2.1 27 = .ok (.iload_n 3, 1) := lkT_ok tk_MTo_set rfl
theorem d_MTo_set_28 : decode MTo_set.2.2.1 28 = .ok (.invokevirtual 120, 3) := lkT_ok tk_MTo_set rfl
theorem d_MTo_set_31 : decode MTo_set.2.2.1 31 = .ok (.istore 5, 2) := lkT_ok tk_MTo_set rfl
theorem d_MTo_set_33 : decode MTo_set.2.2.1 33 = .ok (.iload 5, 2) := lkT_ok tk_MTo_set rfl
theorem d_MTo_set_35 : decode MTo_set.2.2.1 35 = .ok (.iload_n 3, 1) := lkT_ok tk_MTo_set rfl
theorem d_MTo_set_36 : decode MTo_set.2.2.1 36 = .ok (.if_icmp .eq 15, 3) := lkT_ok tk_MTo_set rfl
theorem d_MTo_set_39 : decode MTo_set.2.2.1 39 = .ok (.aload_n 0, 1) := lkT_ok tk_MTo_set rfl
theorem d_MTo_set_40 : decode MTo_set.2.2.1 40 = .ok (.getfield 58, 3) := lkT_ok tk_MTo_set rfl
theorem d_MTo_set_43 : decode MTo_set.2.2.1 43 = .ok (.iload_n 1, 1) := lkT_ok tk_MTo_set rfl
theorem d_MTo_set_44 : decode MTo_set.2.2.1 44 = .ok (.iload_n 2, 1) := lkT_ok tk_MTo_set rfl
theorem d_MTo_set_45 : decode MTo_set.2.2.1 45 = .ok (.iload 5, 2) := lkT_ok tk_MTo_set rfl
theorem d_MTo_set_47 : decode MTo_set.2.2.1 47 = .ok (.iload_n 3, 1) := lkT_ok tk_MTo_set rfl
theorem d_MTo_set_48 : decode MTo_set.2.2.1 48 = .ok (.invokevirtual 123, 3) := lkT_ok tk_MTo_set rfl
theorem d_MTo_set_51 : decode MTo_set.2.2.1 51 = .ok (.iload 5, 2) := lkT_ok tk_MTo_set rfl
theorem d_MTo_set_53 : decode MTo_set.2.2.1 53 = .ok (.ireturn, 1) := lkT_ok tk_MTo_set rfl
theorem r_MTo_set_0 {l1 l2 l3 l4 l5 : Value} {x : Nat} : Rr X d MTo_set 0 [.ref x, l1, l2, l3, l4, l5] st h = Rr X d MTo_set 1 [.ref x, l1, l2, l3, l4, l5] (.ref x :: st) h := Rr_nx d_MTo_set_0 rfl
theorem r_MTo_set_1 {l0 l2 l3 l4 l5 : Value} {x : Int32} : Rr X d MTo_set 1 [l0, .int x, l2, l3, l4, l5] st h = Rr X d MTo_set 2 [l0, .int x, l2, l3, l4, l5] (.int x :: st) h := Rr_nx d_MTo_set_1 rfl
theorem r_MTo_set_2 {y0 : Int32} {a : Nat} (hO : qO a 9 = true) (hc : ckS st = true) : Rr X (d + 1) MTo_set 2 L (.int y0 :: .ref a :: st) (Wd mu la ro et) = (Rr X d MTo_stoneAt 0 [.ref a, .int y0] [] (Wd mu la ro et)).bind fun q => Rr X (d + 1) MTo_set 5 L (psh q.1 st) q.2 := R_iv (av := [.int y0]) d_MTo_set_2 fc_9_100 hO (ckS_le hc) rfl (Nat.le_of_ble_eq_true rfl) (Nat.le_of_ble_eq_true rfl)
theorem r_MTo_set_5 {l0 l1 l2 l3 l4 l5 : Value} {x : Nat} : Rr X d MTo_set 5 [l0, l1, l2, l3, l4, l5] (.ref x :: st) h = Rr X d MTo_set 7 (sL [l0, l1, l2, l3, l4, l5] 4 (.ref x)) st h := Rr_nx d_MTo_set_5 rfl
theorem r_MTo_set_5n {l0 l1 l2 l3 l4 l5 : Value} : Rr X d MTo_set 5 [l0, l1, l2, l3, l4, l5] (.null :: st) h = Rr X d MTo_set 7 (sL [l0, l1, l2, l3, l4, l5] 4 .null) st h := Rr_nx d_MTo_set_5 rfl
theorem r_MTo_set_7 {l0 l1 l2 l3 l5 : Value} {x : Nat} : Rr X d MTo_set 7 [l0, l1, l2, l3, .ref x, l5] st h = Rr X d MTo_set 9 [l0, l1, l2, l3, .ref x, l5] (.ref x :: st) h := Rr_nx d_MTo_set_7 rfl
theorem r_MTo_set_7n {l0 l1 l2 l3 l5 : Value} : Rr X d MTo_set 7 [l0, l1, l2, l3, .null, l5] st h = Rr X d MTo_set 9 [l0, l1, l2, l3, .null, l5] (.null :: st) h := Rr_nx d_MTo_set_7 rfl
theorem r_MTo_set_9 {x : Nat} : Rr X d MTo_set 9 L (.ref x :: st) h = Rr X d MTo_set 12 L st h := R_nul1 d_MTo_set_9
theorem r_MTo_set_9n : Rr X d MTo_set 9 L (.null :: st) h = Rr X d MTo_set 22 L st h := R_nul0 d_MTo_set_9 (by decide)
theorem r_MTo_set_12 {l0 l1 l2 l3 l5 : Value} {x : Nat} : Rr X d MTo_set 12 [l0, l1, l2, l3, .ref x, l5] st h = Rr X d MTo_set 14 [l0, l1, l2, l3, .ref x, l5] (.ref x :: st) h := Rr_nx d_MTo_set_12 rfl
theorem r_MTo_set_12n {l0 l1 l2 l3 l5 : Value} : Rr X d MTo_set 12 [l0, l1, l2, l3, .null, l5] st h = Rr X d MTo_set 14 [l0, l1, l2, l3, .null, l5] (.null :: st) h := Rr_nx d_MTo_set_12 rfl
theorem r_MTo_set_14 {l0 l1 l3 l4 l5 : Value} {x : Int32} : Rr X d MTo_set 14 [l0, l1, .int x, l3, l4, l5] st h = Rr X d MTo_set 15 [l0, l1, .int x, l3, l4, l5] (.int x :: st) h := Rr_nx d_MTo_set_14 rfl
theorem r_MTo_set_15 {l0 l1 l2 l4 l5 : Value} {x : Int32} : Rr X d MTo_set 15 [l0, l1, l2, .int x, l4, l5] st h = Rr X d MTo_set 16 [l0, l1, l2, .int x, l4, l5] (.int x :: st) h := Rr_nx d_MTo_set_15 rfl
theorem fc_9_116 : fC 9 116 = some (0, 7, 2, MSt_mayBecome) := rfl
theorem r_MTo_set_16 {y0 : Int32} {y1 : Int32} {a : Nat} (hO : qO a 7 = true) (hc : ckS st = true) : Rr X (d + 1) MTo_set 16 L (.int y1 :: .int y0 :: .ref a :: st) (Wd mu la ro et) = (Rr X d MSt_mayBecome 0 [.ref a, .int y0, .int y1] [] (Wd mu la ro et)).bind fun q => Rr X (d + 1) MTo_set 19 L (psh q.1 st) q.2 := R_iv (av := [.int y1, .int y0]) d_MTo_set_16 fc_9_116 hO (ckS_le hc) rfl (Nat.le_of_ble_eq_true rfl) (Nat.le_of_ble_eq_true rfl)
theorem r_MTo_set_19 {x : Int32} : Rr X d MTo_set 19 L (.int x :: st) h = if ¬ x = 0 then Rr X d MTo_set 24 L st h else Rr X d MTo_set 22 L st h := R_if_ne d_MTo_set_19 (by decide)
theorem r_MTo_set_22 : Rr X d MTo_set 22 L st h = Rr X d MTo_set 23 L (.int (-1) :: st) h := Rr_nx d_MTo_set_22 rfl
theorem r_MTo_set_23 {x : Int32} : Rr X d MTo_set 23 L [.int x] h = some (some (.int x), h) := R_ir d_MTo_set_23 rfl
theorem r_MTo_set_24 {l0 l1 l2 l3 l5 : Value} {x : Nat} : Rr X d MTo_set 24 [l0, l1, l2, l3, .ref x, l5] st h = Rr X d MTo_set 26 [l0, l1, l2, l3, .ref x, l5] (.ref x :: st) h := Rr_nx d_MTo_set_24 rfl
theorem r_MTo_set_24n {l0 l1 l2 l3 l5 : Value} : Rr X d MTo_set 24 [l0, l1, l2, l3, .null, l5] st h = Rr X d MTo_set 26 [l0, l1, l2, l3, .null, l5] (.null :: st) h := Rr_nx d_MTo_set_24 rfl
theorem r_MTo_set_26 {l0 l1 l3 l4 l5 : Value} {x : Int32} : Rr X d MTo_set 26 [l0, l1, .int x, l3, l4, l5] st h = Rr X d MTo_set 27 [l0, l1, .int x, l3, l4, l5] (.int x :: st) h := Rr_nx d_MTo_set_26 rfl
theorem r_MTo_set_27 {l0 l1 l2 l4 l5 : Value} {x : Int32} : Rr X d MTo_set 27 [l0, l1, l2, .int x, l4, l5] st h = Rr X d MTo_set 28 [l0, l1, l2, .int x, l4, l5] (.int x :: st) h := Rr_nx d_MTo_set_27 rfl
theorem fc_9_120 : fC 9 120 = some (0, 7, 2, MSt_change) := rfl
theorem r_MTo_set_28 {y0 : Int32} {y1 : Int32} {a : Nat} (hO : qO a 7 = true) (hc : ckS st = true) : Rr X (d + 1) MTo_set 28 L (.int y1 :: .int y0 :: .ref a :: st) (Wd mu la ro et) = (Rr X d MSt_change 0 [.ref a, .int y0, .int y1, mkU, mkU] [] (Wd mu la ro et)).bind fun q => Rr X (d + 1) MTo_set 31 L (psh q.1 st) q.2 := R_iv (av := [.int y1, .int y0]) d_MTo_set_28 fc_9_120 hO (ckS_le hc) rfl (Nat.le_of_ble_eq_true rfl) (Nat.le_of_ble_eq_true rfl)
theorem r_MTo_set_31 {l0 l1 l2 l3 l4 l5 : Value} {x : Int32} : Rr X d MTo_set 31 [l0, l1, l2, l3, l4, l5] (.int x :: st) h = Rr X d MTo_set 33 (sL [l0, l1, l2, l3, l4, l5] 5 (.int x)) st h := Rr_nx d_MTo_set_31 rfl
theorem r_MTo_set_33 {l0 l1 l2 l3 l4 : Value} {x : Int32} : Rr X d MTo_set 33 [l0, l1, l2, l3, l4, .int x] st h = Rr X d MTo_set 35 [l0, l1, l2, l3, l4, .int x] (.int x :: st) h := Rr_nx d_MTo_set_33 rfl
theorem r_MTo_set_35 {l0 l1 l2 l4 l5 : Value} {x : Int32} : Rr X d MTo_set 35 [l0, l1, l2, .int x, l4, l5] st h = Rr X d MTo_set 36 [l0, l1, l2, .int x, l4, l5] (.int x :: st) h := Rr_nx d_MTo_set_35 rfl
theorem r_MTo_set_36 {x y : Int32} : Rr X d MTo_set 36 L (.int y :: .int x :: st) h = if x = y then Rr X d MTo_set 51 L st h else Rr X d MTo_set 39 L st h := R_ic_eq d_MTo_set_36 (by decide)
theorem r_MTo_set_39 {l1 l2 l3 l4 l5 : Value} {x : Nat} : Rr X d MTo_set 39 [.ref x, l1, l2, l3, l4, l5] st h = Rr X d MTo_set 40 [.ref x, l1, l2, l3, l4, l5] (.ref x :: st) h := Rr_nx d_MTo_set_39 rfl
theorem ff_9_58 : fF 9 58 = some (9, 7, 1, 1) := rfl
theorem r_MTo_set_40 {a : Nat} (hq : (qR a 9 7).isSome = true) : Rr X d MTo_set 40 L (.ref a :: st) (Wd mu la ro et) = Rr X d MTo_set 43 L (.ref (qRd a 9 7) :: st) (Wd mu la ro et) := R_gfR d_MTo_set_40 ff_9_58 hq
theorem r_MTo_set_43 {l0 l2 l3 l4 l5 : Value} {x : Int32} : Rr X d MTo_set 43 [l0, .int x, l2, l3, l4, l5] st h = Rr X d MTo_set 44 [l0, .int x, l2, l3, l4, l5] (.int x :: st) h := Rr_nx d_MTo_set_43 rfl
theorem r_MTo_set_44 {l0 l1 l3 l4 l5 : Value} {x : Int32} : Rr X d MTo_set 44 [l0, l1, .int x, l3, l4, l5] st h = Rr X d MTo_set 45 [l0, l1, .int x, l3, l4, l5] (.int x :: st) h := Rr_nx d_MTo_set_44 rfl
theorem r_MTo_set_45 {l0 l1 l2 l3 l4 : Value} {x : Int32} : Rr X d MTo_set 45 [l0, l1, l2, l3, l4, .int x] st h = Rr X d MTo_set 47 [l0, l1, l2, l3, l4, .int x] (.int x :: st) h := Rr_nx d_MTo_set_45 rfl
theorem r_MTo_set_47 {l0 l1 l2 l4 l5 : Value} {x : Int32} : Rr X d MTo_set 47 [l0, l1, l2, .int x, l4, l5] st h = Rr X d MTo_set 48 [l0, l1, l2, .int x, l4, l5] (.int x :: st) h := Rr_nx d_MTo_set_47 rfl
theorem fc_9_123 : fC 9 123 = some (0, 1, 4, MCh_note) := rfl
theorem r_MTo_set_48 {y0 : Int32} {y1 : Int32} {y2 : Int32} {y3 : Int32} {a : Nat} (hO : qO a 1 = true) (hc : ckS st = true) : Rr X (d + 1) MTo_set 48 L (.int y3 :: .int y2 :: .int y1 :: .int y0 :: .ref a :: st) (Wd mu la ro et) = (Rr X d MCh_note 0 [.ref a, .int y0, .int y1, .int y2, .int y3] [] (Wd mu la ro et)).bind fun q => Rr X (d + 1) MTo_set 51 L (psh q.1 st) q.2 := R_iv (av := [.int y3, .int y2, .int y1, .int y0]) d_MTo_set_48 fc_9_123 hO (ckS_le hc) rfl (Nat.le_of_ble_eq_true rfl) (Nat.le_of_ble_eq_true rfl)
theorem r_MTo_set_51 {l0 l1 l2 l3 l4 : Value} {x : Int32} : Rr X d MTo_set 51 [l0, l1, l2, l3, l4, .int x] st h = Rr X d MTo_set 53 [l0, l1, l2, l3, l4, .int x] (.int x :: st) h := Rr_nx d_MTo_set_51 rfl
theorem r_MTo_set_53 {x : Int32} : Rr X d MTo_set 53 L [.int x] h = some (some (.int x), h) := R_ir d_MTo_set_53 rfl
theorem d_MSt_mayBecome_0 : decode MSt_mayBecome.2.2.1 0 = .ok (.iload_n 1, 1) := lkT_ok tk_MSt_mayBecome rfl
theorem d_MSt_mayBecome_1 : decode MSt_mayBecome.2.2.1 1 = .ok (.invokestatic 107, 3) := lkT_ok tk_MSt_mayBecome rfl
theorem d_MSt_mayBecome_4 : decode MSt_mayBecome.2.2.1 4 = .ok (.ifCond .eq 24, 3) := lkT_ok tk_MSt_mayBecome rfl
theorem d_MSt_mayBecome_7 : decode MSt_mayBecome.2.2.1 7 = .ok (.iload_n 2, 1) := lkT_ok tk_MSt_mayBecome rfl
theorem d_MSt_mayBecome_8 : decode MSt_mayBecome.2.2.1 8 = .ok (.ifCond .lt 18, 3) := lkT_ok tk_MSt_mayBecome rfl
theorem d_MSt_mayBecome_11 : decode MSt_mayBecome.2.2.1 11 = .ok (.iload_n 2, 1) := lkT_ok tk_MSt_mayBecome rfl
theorem d_MSt_mayBecome_12 : decode MSt_mayBecome.2.2.1 12 = .ok (.iload_n 1, 1) := lkT_ok tk_MSt_mayBecome rfl
theorem d_MSt_mayBecome_13 : decode MSt_mayBecome.2.2.1 13 = .ok (.bipush 6, 2) := lkT_ok tk_MSt_mayBecome rfl
theorem d_MSt_mayBecome_15 : decode MSt_mayBecome.2.2.1 15 = .ok (.isub, 1) := lkT_ok tk_MSt_mayBecome rfl
theorem d_MSt_mayBecome_16 : decode MSt_mayBecome.2.2.1 16 = .ok (.invokestatic 62, 3) := lkT_ok tk_MSt_mayBecome rfl
theorem d_MSt_mayBecome_19 : decode MSt_mayBecome.2.2.1 19 = .ok (.if_icmp .gt 7, 3) := lkT_ok tk_MSt_mayBecome rfl
theorem d_MSt_mayBecome_22 : decode MSt_mayBecome.2.2.1 22 = .ok (.iconst 1, 1) := lkT_ok tk_MSt_mayBecome rfl
theorem d_MSt_mayBecome_23 : decode MSt_mayBecome.2.2.1 23 = .ok (.goto 4, 3) := lkT_ok tk_MSt_mayBecome rfl
theorem d_MSt_mayBecome_26 : decode MSt_mayBecome.2.2.1 26 = .ok (.iconst 0, 1) := lkT_ok tk_MSt_mayBecome rfl
theorem d_MSt_mayBecome_27 : decode MSt_mayBecome.2.2.1 27 = .ok (.ireturn, 1) := lkT_ok tk_MSt_mayBecome rfl
theorem d_MSt_mayBecome_28 : decode MSt_mayBecome.2.2.1 28 = .ok (.iload_n 1, 1) := lkT_ok tk_MSt_mayBecome rfl
theorem d_MSt_mayBecome_29 : decode MSt_mayBecome.2.2.1 29 = .ok (.bipush 10, 2) := lkT_ok tk_MSt_mayBecome rfl
theorem d_MSt_mayBecome_31 : decode MSt_mayBecome.2.2.1 31 = .ok (.if_icmp .lt 29, 3) := lkT_ok tk_MSt_mayBecome rfl
theorem d_MSt_mayBecome_34 : decode MSt_mayBecome.2.2.1 34 = .ok (.iload_n 1, 1) := lkT_ok tk_MSt_mayBecome rfl
theorem d_MSt_mayBecome_35 : decode MSt_mayBecome.2.2.1 35 = .ok (.bipush 10, 2) := lkT_ok tk_MSt_mayBecome rfl
theorem d_MSt_mayBecome_37 : decode MSt_mayBecome.2.2.1 37 = .ok (.isub, 1) := lkT_ok tk_MSt_mayBecome rfl
theorem d_MSt_mayBecome_38 : decode MSt_mayBecome.2.2.1 38 = .ok (.aload_n 0, 1) := lkT_ok tk_MSt_mayBecome rfl
theorem d_MSt_mayBecome_39 : decode MSt_mayBecome.2.2.1 39 = .ok (.getfield 24, 3) := lkT_ok tk_MSt_mayBecome rfl
theorem d_MSt_mayBecome_42 : decode MSt_mayBecome.2.2.1 42 = .ok (.if_icmp .ge 18, 3) := lkT_ok tk_MSt_mayBecome rfl
theorem d_MSt_mayBecome_45 : decode MSt_mayBecome.2.2.1 45 = .ok (.iload_n 2, 1) := lkT_ok tk_MSt_mayBecome rfl
theorem d_MSt_mayBecome_46 : decode MSt_mayBecome.2.2.1 46 = .ok (.iconst 1, 1) := lkT_ok tk_MSt_mayBecome rfl
theorem d_MSt_mayBecome_47 : decode MSt_mayBecome.2.2.1 47 = .ok (.if_icmp .lt 13, 3) := lkT_ok tk_MSt_mayBecome rfl
theorem d_MSt_mayBecome_50 : decode MSt_mayBecome.2.2.1 50 = .ok (.iload_n 2, 1) := lkT_ok tk_MSt_mayBecome rfl
theorem d_MSt_mayBecome_51 : decode MSt_mayBecome.2.2.1 51 = .ok (.bipush 9, 2) := lkT_ok tk_MSt_mayBecome rfl
theorem d_MSt_mayBecome_53 : decode MSt_mayBecome.2.2.1 53 = .ok (.if_icmp .gt 7, 3) := lkT_ok tk_MSt_mayBecome rfl
theorem d_MSt_mayBecome_56 : decode MSt_mayBecome.2.2.1 56 = .ok (.iconst 1, 1) := lkT_ok tk_MSt_mayBecome rfl
theorem d_MSt_mayBecome_57 : decode MSt_mayBecome.2.2.1 57 = .ok (.goto 4, 3) := lkT_ok tk_MSt_mayBecome rfl
theorem d_MSt_mayBecome_60 : decode MSt_mayBecome.2.2.1 60 = .ok (.iconst 0, 1) := lkT_ok tk_MSt_mayBecome rfl
theorem d_MSt_mayBecome_61 : decode MSt_mayBecome.2.2.1 61 = .ok (.ireturn, 1) := lkT_ok tk_MSt_mayBecome rfl
theorem r_MSt_mayBecome_0 {l0 l2 : Value} {x : Int32} : Rr X d MSt_mayBecome 0 [l0, .int x, l2] st h = Rr X d MSt_mayBecome 1 [l0, .int x, l2] (.int x :: st) h := Rr_nx d_MSt_mayBecome_0 rfl
theorem fc_7_107 : fC 7 107 = some (1, 0, 1, MSt_isRate) := rfl
theorem r_MSt_mayBecome_1 {y0 : Int32} (hc : ckS st = true) : Rr X (d + 1) MSt_mayBecome 1 L (.int y0 :: st) h = (Rr X d MSt_isRate 0 [.int y0] [] h).bind fun q => Rr X (d + 1) MSt_mayBecome 4 L (psh q.1 st) q.2 := R_is (av := [.int y0]) d_MSt_mayBecome_1 (Or.inl fc_7_107) (ckS_le hc) rfl (Nat.le_of_ble_eq_true rfl) (Nat.le_of_ble_eq_true rfl)
theorem r_MSt_mayBecome_4 {x : Int32} : Rr X d MSt_mayBecome 4 L (.int x :: st) h = if x = 0 then Rr X d MSt_mayBecome 28 L st h else Rr X d MSt_mayBecome 7 L st h := R_if_eq d_MSt_mayBecome_4 (by decide)
theorem r_MSt_mayBecome_7 {l0 l1 : Value} {x : Int32} : Rr X d MSt_mayBecome 7 [l0, l1, .int x] st h = Rr X d MSt_mayBecome 8 [l0, l1, .int x] (.int x :: st) h := Rr_nx d_MSt_mayBecome_7 rfl
theorem r_MSt_mayBecome_8 {x : Int32} : Rr X d MSt_mayBecome 8 L (.int x :: st) h = if x < 0 then Rr X d MSt_mayBecome 26 L st h else Rr X d MSt_mayBecome 11 L st h := R_if_lt d_MSt_mayBecome_8 (by decide)
theorem r_MSt_mayBecome_11 {l0 l1 : Value} {x : Int32} : Rr X d MSt_mayBecome 11 [l0, l1, .int x] st h = Rr X d MSt_mayBecome 12 [l0, l1, .int x] (.int x :: st) h := Rr_nx d_MSt_mayBecome_11 rfl
theorem r_MSt_mayBecome_12 {l0 l2 : Value} {x : Int32} : Rr X d MSt_mayBecome 12 [l0, .int x, l2] st h = Rr X d MSt_mayBecome 13 [l0, .int x, l2] (.int x :: st) h := Rr_nx d_MSt_mayBecome_12 rfl
theorem r_MSt_mayBecome_13 : Rr X d MSt_mayBecome 13 L st h = Rr X d MSt_mayBecome 15 L (.int (6) :: st) h := Rr_nx d_MSt_mayBecome_13 rfl
theorem r_MSt_mayBecome_15 {x y : Int32} : Rr X d MSt_mayBecome 15 L (.int y :: .int x :: st) h = Rr X d MSt_mayBecome 16 L (.int (x - y) :: st) h := Rr_nx d_MSt_mayBecome_15 rfl
theorem r_MSt_mayBecome_16 {y0 : Int32} (hc : ckS st = true) : Rr X (d + 1) MSt_mayBecome 16 L (.int y0 :: st) h = (Rr X d MSt_mostRate 0 [.int y0] [] h).bind fun q => Rr X (d + 1) MSt_mayBecome 19 L (psh q.1 st) q.2 := R_is (av := [.int y0]) d_MSt_mayBecome_16 (Or.inl fc_7_62) (ckS_le hc) rfl (Nat.le_of_ble_eq_true rfl) (Nat.le_of_ble_eq_true rfl)
theorem r_MSt_mayBecome_19 {x y : Int32} : Rr X d MSt_mayBecome 19 L (.int y :: .int x :: st) h = if y < x then Rr X d MSt_mayBecome 26 L st h else Rr X d MSt_mayBecome 22 L st h := R_ic_gt d_MSt_mayBecome_19 (by decide)
theorem r_MSt_mayBecome_22 : Rr X d MSt_mayBecome 22 L st h = Rr X d MSt_mayBecome 23 L (.int (1) :: st) h := Rr_nx d_MSt_mayBecome_22 rfl
theorem r_MSt_mayBecome_23 : Rr X d MSt_mayBecome 23 L st h = Rr X d MSt_mayBecome 27 L st h := R_goto d_MSt_mayBecome_23 (by decide)
theorem r_MSt_mayBecome_26 : Rr X d MSt_mayBecome 26 L st h = Rr X d MSt_mayBecome 27 L (.int (0) :: st) h := Rr_nx d_MSt_mayBecome_26 rfl
theorem r_MSt_mayBecome_27 {x : Int32} : Rr X d MSt_mayBecome 27 L [.int x] h = if x = 0 ∨ x = 1 then some (some (.int x), h) else none := R_zr d_MSt_mayBecome_27 rfl
theorem r_MSt_mayBecome_28 {l0 l2 : Value} {x : Int32} : Rr X d MSt_mayBecome 28 [l0, .int x, l2] st h = Rr X d MSt_mayBecome 29 [l0, .int x, l2] (.int x :: st) h := Rr_nx d_MSt_mayBecome_28 rfl
theorem r_MSt_mayBecome_29 : Rr X d MSt_mayBecome 29 L st h = Rr X d MSt_mayBecome 31 L (.int (10) :: st) h := Rr_nx d_MSt_mayBecome_29 rfl
theorem r_MSt_mayBecome_31 {x y : Int32} : Rr X d MSt_mayBecome 31 L (.int y :: .int x :: st) h = if x < y then Rr X d MSt_mayBecome 60 L st h else Rr X d MSt_mayBecome 34 L st h := R_ic_lt d_MSt_mayBecome_31 (by decide)
theorem r_MSt_mayBecome_34 {l0 l2 : Value} {x : Int32} : Rr X d MSt_mayBecome 34 [l0, .int x, l2] st h = Rr X d MSt_mayBecome 35 [l0, .int x, l2] (.int x :: st) h := Rr_nx d_MSt_mayBecome_34 rfl
theorem r_MSt_mayBecome_35 : Rr X d MSt_mayBecome 35 L st h = Rr X d MSt_mayBecome 37 L (.int (10) :: st) h := Rr_nx d_MSt_mayBecome_35 rfl
theorem r_MSt_mayBecome_37 {x y : Int32} : Rr X d MSt_mayBecome 37 L (.int y :: .int x :: st) h = Rr X d MSt_mayBecome 38 L (.int (x - y) :: st) h := Rr_nx d_MSt_mayBecome_37 rfl
theorem r_MSt_mayBecome_38 {l1 l2 : Value} {x : Nat} : Rr X d MSt_mayBecome 38 [.ref x, l1, l2] st h = Rr X d MSt_mayBecome 39 [.ref x, l1, l2] (.ref x :: st) h := Rr_nx d_MSt_mayBecome_38 rfl
theorem r_MSt_mayBecome_39 {a : Nat} (hq : qI a 7 4 = true) : Rr X d MSt_mayBecome 39 L (.ref a :: st) (Wd mu la ro et) = Rr X d MSt_mayBecome 42 L (.int (mu a 4) :: st) (Wd mu la ro et) := R_gfI d_MSt_mayBecome_39 ff_7_24 hq
theorem r_MSt_mayBecome_42 {x y : Int32} : Rr X d MSt_mayBecome 42 L (.int y :: .int x :: st) h = if y ≤ x then Rr X d MSt_mayBecome 60 L st h else Rr X d MSt_mayBecome 45 L st h := R_ic_ge d_MSt_mayBecome_42 (by decide)
theorem r_MSt_mayBecome_45 {l0 l1 : Value} {x : Int32} : Rr X d MSt_mayBecome 45 [l0, l1, .int x] st h = Rr X d MSt_mayBecome 46 [l0, l1, .int x] (.int x :: st) h := Rr_nx d_MSt_mayBecome_45 rfl
theorem r_MSt_mayBecome_46 : Rr X d MSt_mayBecome 46 L st h = Rr X d MSt_mayBecome 47 L (.int (1) :: st) h := Rr_nx d_MSt_mayBecome_46 rfl
theorem r_MSt_mayBecome_47 {x y : Int32} : Rr X d MSt_mayBecome 47 L (.int y :: .int x :: st) h = if x < y then Rr X d MSt_mayBecome 60 L st h else Rr X d MSt_mayBecome 50 L st h := R_ic_lt d_MSt_mayBecome_47 (by decide)
theorem r_MSt_mayBecome_50 {l0 l1 : Value} {x : Int32} : Rr X d MSt_mayBecome 50 [l0, l1, .int x] st h = Rr X d MSt_mayBecome 51 [l0, l1, .int x] (.int x :: st) h := Rr_nx d_MSt_mayBecome_50 rfl
theorem r_MSt_mayBecome_51 : Rr X d MSt_mayBecome 51 L st h = Rr X d MSt_mayBecome 53 L (.int (9) :: st) h := Rr_nx d_MSt_mayBecome_51 rfl
theorem r_MSt_mayBecome_53 {x y : Int32} : Rr X d MSt_mayBecome 53 L (.int y :: .int x :: st) h = if y < x then Rr X d MSt_mayBecome 60 L st h else Rr X d MSt_mayBecome 56 L st h := R_ic_gt d_MSt_mayBecome_53 (by decide)
theorem r_MSt_mayBecome_56 : Rr X d MSt_mayBecome 56 L st h = Rr X d MSt_mayBecome 57 L (.int (1) :: st) h := Rr_nx d_MSt_mayBecome_56 rfl
theorem r_MSt_mayBecome_57 : Rr X d MSt_mayBecome 57 L st h = Rr X d MSt_mayBecome 61 L st h := R_goto d_MSt_mayBecome_57 (by decide)
theorem r_MSt_mayBecome_60 : Rr X d MSt_mayBecome 60 L st h = Rr X d MSt_mayBecome 61 L (.int (0) :: st) h := Rr_nx d_MSt_mayBecome_60 rfl
theorem r_MSt_mayBecome_61 {x : Int32} : Rr X d MSt_mayBecome 61 L [.int x] h = if x = 0 ∨ x = 1 then some (some (.int x), h) else none := R_zr d_MSt_mayBecome_61 rfl
theorem d_MSt_change_0 : decode MSt_change.2.2.1 0 = .ok (.iconst 0, 1) := lkT_ok tk_MSt_change rfl
theorem d_MSt_change_1 : decode MSt_change.2.2.1 1 = .ok (.istore_n 3, 1) := lkT_ok tk_MSt_change rfl
theorem d_MSt_change_2 : decode MSt_change.2.2.1 2 = .ok (.iload_n 1, 1) := lkT_ok tk_MSt_change rfl
theorem d_MSt_change_3 : decode MSt_change.2.2.1 3 = .ok (.iload_n 1, 1) := lkT_ok tk_MSt_change rfl
theorem d_MSt_change_4 : decode MSt_change.2.2.1 4 = .ok (.invokestatic 107, 3) := lkT_ok tk_MSt_change rfl
theorem d_MSt_change_7 : decode MSt_change.2.2.1 7 = .ok (.ifCond .eq 8, 3) := lkT_ok tk_MSt_change rfl
theorem d_MSt_change_10 : decode MSt_change.2.2.1 10 = .ok (.bipush 6, 2) := lkT_ok tk_MSt_change rfl
theorem d_MSt_change_12 : decode MSt_change.2.2.1 12 = .ok (.goto 5, 3) := lkT_ok tk_MSt_change rfl
theorem d_MSt_change_15 : decode MSt_change.2.2.1 15 = .ok (.bipush 10, 2) := lkT_ok tk_MSt_change rfl
theorem d_MSt_change_17 : decode MSt_change.2.2.1 17 = .ok (.isub, 1) := lkT_ok tk_MSt_change rfl
theorem d_MSt_change_18 : decode MSt_change.2.2.1 18 = .ok (.istore 4, 2) := lkT_ok tk_MSt_change rfl
theorem d_MSt_change_20 : decode MSt_change.2.2.1 20 = .ok (.iload_n 1, 1) := lkT_ok tk_MSt_change rfl
theorem d_MSt_change_21 : decode MSt_change.2.2.1 21 = .ok (.invokestatic 107, 3) := lkT_ok tk_MSt_change rfl
theorem d_MSt_change_24 : decode MSt_change.2.2.1 24 = .ok (.ifCond .eq 32, 3) := lkT_ok tk_MSt_change rfl
theorem d_MSt_change_27 : decode MSt_change.2.2.1 27 = .ok (.iload 4, 2) := lkT_ok tk_MSt_change rfl
theorem d_MSt_change_29 : decode MSt_change.2.2.1 29 = .ok (.aload_n 0, 1) := lkT_ok tk_MSt_change rfl
theorem d_MSt_change_30 : decode MSt_change.2.2.1 30 = .ok (.getfield 21, 3) := lkT_ok tk_MSt_change rfl
theorem d_MSt_change_33 : decode MSt_change.2.2.1 33 = .ok (.arraylength, 1) := lkT_ok tk_MSt_change rfl
theorem d_MSt_change_34 : decode MSt_change.2.2.1 34 = .ok (.if_icmp .ge 22, 3) := lkT_ok tk_MSt_change rfl
theorem d_MSt_change_37 : decode MSt_change.2.2.1 37 = .ok (.aload_n 0, 1) := lkT_ok tk_MSt_change rfl
theorem d_MSt_change_38 : decode MSt_change.2.2.1 38 = .ok (.getfield 21, 3) := lkT_ok tk_MSt_change rfl
theorem d_MSt_change_41 : decode MSt_change.2.2.1 41 = .ok (.iload 4, 2) := lkT_ok tk_MSt_change rfl
theorem d_MSt_change_43 : decode MSt_change.2.2.1 43 = .ok (.iaload, 1) := lkT_ok tk_MSt_change rfl
theorem d_MSt_change_44 : decode MSt_change.2.2.1 44 = .ok (.istore_n 3, 1) := lkT_ok tk_MSt_change rfl
theorem d_MSt_change_45 : decode MSt_change.2.2.1 45 = .ok (.aload_n 0, 1) := lkT_ok tk_MSt_change rfl
theorem d_MSt_change_46 : decode MSt_change.2.2.1 46 = .ok (.getfield 21, 3) := lkT_ok tk_MSt_change rfl
theorem d_MSt_change_49 : decode MSt_change.2.2.1 49 = .ok (.iload 4, 2) := lkT_ok tk_MSt_change rfl
theorem d_MSt_change_51 : decode MSt_change.2.2.1 51 = .ok (.iload_n 2, 1) := lkT_ok tk_MSt_change rfl
theorem d_MSt_change_52 : decode MSt_change.2.2.1 52 = .ok (.iastore, 1) := lkT_ok tk_MSt_change rfl
theorem d_MSt_change_53 : decode MSt_change.2.2.1 53 = .ok (.goto 38, 3) := lkT_ok tk_MSt_change rfl
theorem d_MSt_change_56 : decode MSt_change.2.2.1 56 = .ok (.iload 4, 2) := lkT_ok tk_MSt_change rfl
theorem d_MSt_change_58 : decode MSt_change.2.2.1 58 = .ok (.ifCond .lt 33, 3) := lkT_ok tk_MSt_change rfl
theorem d_MSt_change_61 : decode MSt_change.2.2.1 61 = .ok (.iload 4, 2) := lkT_ok tk_MSt_change rfl
theorem d_MSt_change_63 : decode MSt_change.2.2.1 63 = .ok (.aload_n 0, 1) := lkT_ok tk_MSt_change rfl
theorem d_MSt_change_64 : decode MSt_change.2.2.1 64 = .ok (.getfield 11, 3) := lkT_ok tk_MSt_change rfl
theorem d_MSt_change_67 : decode MSt_change.2.2.1 67 = .ok (.arraylength, 1) := lkT_ok tk_MSt_change rfl
theorem d_MSt_change_68 : decode MSt_change.2.2.1 68 = .ok (.if_icmp .ge 23, 3) := lkT_ok tk_MSt_change rfl
theorem d_MSt_change_71 : decode MSt_change.2.2.1 71 = .ok (.aload_n 0, 1) := lkT_ok tk_MSt_change rfl
theorem d_MSt_change_72 : decode MSt_change.2.2.1 72 = .ok (.getfield 11, 3) := lkT_ok tk_MSt_change rfl
theorem d_MSt_change_75 : decode MSt_change.2.2.1 75 = .ok (.iload 4, 2) := lkT_ok tk_MSt_change rfl
theorem d_MSt_change_77 : decode MSt_change.2.2.1 77 = .ok (.iaload, 1) := lkT_ok tk_MSt_change rfl
theorem d_MSt_change_78 : decode MSt_change.2.2.1 78 = .ok (.istore_n 3, 1) := lkT_ok tk_MSt_change rfl
theorem d_MSt_change_79 : decode MSt_change.2.2.1 79 = .ok (.aload_n 0, 1) := lkT_ok tk_MSt_change rfl
theorem d_MSt_change_80 : decode MSt_change.2.2.1 80 = .ok (.getfield 11, 3) := lkT_ok tk_MSt_change rfl
theorem d_MSt_change_83 : decode MSt_change.2.2.1 83 = .ok (.iload 4, 2) := lkT_ok tk_MSt_change rfl
theorem d_MSt_change_85 : decode MSt_change.2.2.1 85 = .ok (.iload_n 2, 1) := lkT_ok tk_MSt_change rfl
theorem d_MSt_change_86 : decode MSt_change.2.2.1 86 = .ok (.iastore, 1) := lkT_ok tk_MSt_change rfl
theorem d_MSt_change_87 : decode MSt_change.2.2.1 87 = .ok (.aload_n 0, 1) := lkT_ok tk_MSt_change rfl
theorem d_MSt_change_88 : decode MSt_change.2.2.1 88 = .ok (.invokevirtual 41, 3) := lkT_ok tk_MSt_change rfl
theorem d_MSt_change_91 : decode MSt_change.2.2.1 91 = .ok (.iload_n 3, 1) := lkT_ok tk_MSt_change rfl
theorem d_MSt_change_92 : decode MSt_change.2.2.1 92 = .ok (.ireturn, 1) := lkT_ok tk_MSt_change rfl
theorem r_MSt_change_0 : Rr X d MSt_change 0 L st h = Rr X d MSt_change 1 L (.int (0) :: st) h := Rr_nx d_MSt_change_0 rfl
theorem r_MSt_change_1 {l0 l1 l2 l3 l4 : Value} {x : Int32} : Rr X d MSt_change 1 [l0, l1, l2, l3, l4] (.int x :: st) h = Rr X d MSt_change 2 (sL [l0, l1, l2, l3, l4] 3 (.int x)) st h := Rr_nx d_MSt_change_1 rfl
theorem r_MSt_change_2 {l0 l2 l3 l4 : Value} {x : Int32} : Rr X d MSt_change 2 [l0, .int x, l2, l3, l4] st h = Rr X d MSt_change 3 [l0, .int x, l2, l3, l4] (.int x :: st) h := Rr_nx d_MSt_change_2 rfl
theorem r_MSt_change_3 {l0 l2 l3 l4 : Value} {x : Int32} : Rr X d MSt_change 3 [l0, .int x, l2, l3, l4] st h = Rr X d MSt_change 4 [l0, .int x, l2, l3, l4] (.int x :: st) h := Rr_nx d_MSt_change_3 rfl
theorem r_MSt_change_4 {y0 : Int32} (hc : ckS st = true) : Rr X (d + 1) MSt_change 4 L (.int y0 :: st) h = (Rr X d MSt_isRate 0 [.int y0] [] h).bind fun q => Rr X (d + 1) MSt_change 7 L (psh q.1 st) q.2 := R_is (av := [.int y0]) d_MSt_change_4 (Or.inl fc_7_107) (ckS_le hc) rfl (Nat.le_of_ble_eq_true rfl) (Nat.le_of_ble_eq_true rfl)
theorem r_MSt_change_7 {x : Int32} : Rr X d MSt_change 7 L (.int x :: st) h = if x = 0 then Rr X d MSt_change 15 L st h else Rr X d MSt_change 10 L st h := R_if_eq d_MSt_change_7 (by decide)
theorem r_MSt_change_10 : Rr X d MSt_change 10 L st h = Rr X d MSt_change 12 L (.int (6) :: st) h := Rr_nx d_MSt_change_10 rfl
theorem r_MSt_change_12 : Rr X d MSt_change 12 L st h = Rr X d MSt_change 17 L st h := R_goto d_MSt_change_12 (by decide)
theorem r_MSt_change_15 : Rr X d MSt_change 15 L st h = Rr X d MSt_change 17 L (.int (10) :: st) h := Rr_nx d_MSt_change_15 rfl
theorem r_MSt_change_17 {x y : Int32} : Rr X d MSt_change 17 L (.int y :: .int x :: st) h = Rr X d MSt_change 18 L (.int (x - y) :: st) h := Rr_nx d_MSt_change_17 rfl
theorem r_MSt_change_18 {l0 l1 l2 l3 l4 : Value} {x : Int32} : Rr X d MSt_change 18 [l0, l1, l2, l3, l4] (.int x :: st) h = Rr X d MSt_change 20 (sL [l0, l1, l2, l3, l4] 4 (.int x)) st h := Rr_nx d_MSt_change_18 rfl
theorem r_MSt_change_20 {l0 l2 l3 l4 : Value} {x : Int32} : Rr X d MSt_change 20 [l0, .int x, l2, l3, l4] st h = Rr X d MSt_change 21 [l0, .int x, l2, l3, l4] (.int x :: st) h := Rr_nx d_MSt_change_20 rfl
theorem r_MSt_change_21 {y0 : Int32} (hc : ckS st = true) : Rr X (d + 1) MSt_change 21 L (.int y0 :: st) h = (Rr X d MSt_isRate 0 [.int y0] [] h).bind fun q => Rr X (d + 1) MSt_change 24 L (psh q.1 st) q.2 := R_is (av := [.int y0]) d_MSt_change_21 (Or.inl fc_7_107) (ckS_le hc) rfl (Nat.le_of_ble_eq_true rfl) (Nat.le_of_ble_eq_true rfl)
theorem r_MSt_change_24 {x : Int32} : Rr X d MSt_change 24 L (.int x :: st) h = if x = 0 then Rr X d MSt_change 56 L st h else Rr X d MSt_change 27 L st h := R_if_eq d_MSt_change_24 (by decide)
theorem r_MSt_change_27 {l0 l1 l2 l3 : Value} {x : Int32} : Rr X d MSt_change 27 [l0, l1, l2, l3, .int x] st h = Rr X d MSt_change 29 [l0, l1, l2, l3, .int x] (.int x :: st) h := Rr_nx d_MSt_change_27 rfl
theorem r_MSt_change_29 {l1 l2 l3 l4 : Value} {x : Nat} : Rr X d MSt_change 29 [.ref x, l1, l2, l3, l4] st h = Rr X d MSt_change 30 [.ref x, l1, l2, l3, l4] (.ref x :: st) h := Rr_nx d_MSt_change_29 rfl
theorem r_MSt_change_30 {a : Nat} (hq : (qR a 7 3).isSome = true) : Rr X d MSt_change 30 L (.ref a :: st) (Wd mu la ro et) = Rr X d MSt_change 33 L (.ref (qRd a 7 3) :: st) (Wd mu la ro et) := R_gfR d_MSt_change_30 ff_7_21 hq
theorem r_MSt_change_33 {a : Nat} (hq : (qL a).isSome = true) : Rr X d MSt_change 33 L (.ref a :: st) (Wd mu la ro et) = Rr X d MSt_change 34 L (.int (Int32.ofNat (qLd a)) :: st) (Wd mu la ro et) := R_lenW d_MSt_change_33 hq
theorem r_MSt_change_34 {x y : Int32} : Rr X d MSt_change 34 L (.int y :: .int x :: st) h = if y ≤ x then Rr X d MSt_change 56 L st h else Rr X d MSt_change 37 L st h := R_ic_ge d_MSt_change_34 (by decide)
theorem r_MSt_change_37 {l1 l2 l3 l4 : Value} {x : Nat} : Rr X d MSt_change 37 [.ref x, l1, l2, l3, l4] st h = Rr X d MSt_change 38 [.ref x, l1, l2, l3, l4] (.ref x :: st) h := Rr_nx d_MSt_change_37 rfl
theorem r_MSt_change_38 {a : Nat} (hq : (qR a 7 3).isSome = true) : Rr X d MSt_change 38 L (.ref a :: st) (Wd mu la ro et) = Rr X d MSt_change 41 L (.ref (qRd a 7 3) :: st) (Wd mu la ro et) := R_gfR d_MSt_change_38 ff_7_21 hq
theorem r_MSt_change_41 {l0 l1 l2 l3 : Value} {x : Int32} : Rr X d MSt_change 41 [l0, l1, l2, l3, .int x] st h = Rr X d MSt_change 43 [l0, l1, l2, l3, .int x] (.int x :: st) h := Rr_nx d_MSt_change_41 rfl
theorem r_MSt_change_43 {a : Nat} {j : Int32} (hq : (qA a 0).isSome = true) : Rr X d MSt_change 43 L (.int j :: .ref a :: st) (Wd mu la ro et) = if j < 0 ∨ qAd a 0 ≤ j.toNatClampNeg then none else Rr X d MSt_change 44 L (.int (mu a j.toNatClampNeg) :: st) (Wd mu la ro et) := R_ialW d_MSt_change_43 hq
theorem r_MSt_change_44 {l0 l1 l2 l3 l4 : Value} {x : Int32} : Rr X d MSt_change 44 [l0, l1, l2, l3, l4] (.int x :: st) h = Rr X d MSt_change 45 (sL [l0, l1, l2, l3, l4] 3 (.int x)) st h := Rr_nx d_MSt_change_44 rfl
theorem r_MSt_change_45 {l1 l2 l3 l4 : Value} {x : Nat} : Rr X d MSt_change 45 [.ref x, l1, l2, l3, l4] st h = Rr X d MSt_change 46 [.ref x, l1, l2, l3, l4] (.ref x :: st) h := Rr_nx d_MSt_change_45 rfl
theorem r_MSt_change_46 {a : Nat} (hq : (qR a 7 3).isSome = true) : Rr X d MSt_change 46 L (.ref a :: st) (Wd mu la ro et) = Rr X d MSt_change 49 L (.ref (qRd a 7 3) :: st) (Wd mu la ro et) := R_gfR d_MSt_change_46 ff_7_21 hq
theorem r_MSt_change_49 {l0 l1 l2 l3 : Value} {x : Int32} : Rr X d MSt_change 49 [l0, l1, l2, l3, .int x] st h = Rr X d MSt_change 51 [l0, l1, l2, l3, .int x] (.int x :: st) h := Rr_nx d_MSt_change_49 rfl
theorem r_MSt_change_51 {l0 l1 l3 l4 : Value} {x : Int32} : Rr X d MSt_change 51 [l0, l1, .int x, l3, l4] st h = Rr X d MSt_change 52 [l0, l1, .int x, l3, l4] (.int x :: st) h := Rr_nx d_MSt_change_51 rfl
theorem r_MSt_change_52 {a : Nat} {j x : Int32} (hq : (qA a 0).isSome = true) : Rr X d MSt_change 52 L (.int x :: .int j :: .ref a :: st) (Wd mu la ro et) = if j < 0 ∨ qAd a 0 ≤ j.toNatClampNeg then none else Rr X d MSt_change 53 L st (Wd (up2 mu a j.toNatClampNeg (x)) la ro et) := R_iasW d_MSt_change_52 hq
theorem r_MSt_change_53 : Rr X d MSt_change 53 L st h = Rr X d MSt_change 91 L st h := R_goto d_MSt_change_53 (by decide)
theorem r_MSt_change_56 {l0 l1 l2 l3 : Value} {x : Int32} : Rr X d MSt_change 56 [l0, l1, l2, l3, .int x] st h = Rr X d MSt_change 58 [l0, l1, l2, l3, .int x] (.int x :: st) h := Rr_nx d_MSt_change_56 rfl
theorem r_MSt_change_58 {x : Int32} : Rr X d MSt_change 58 L (.int x :: st) h = if x < 0 then Rr X d MSt_change 91 L st h else Rr X d MSt_change 61 L st h := R_if_lt d_MSt_change_58 (by decide)
theorem r_MSt_change_61 {l0 l1 l2 l3 : Value} {x : Int32} : Rr X d MSt_change 61 [l0, l1, l2, l3, .int x] st h = Rr X d MSt_change 63 [l0, l1, l2, l3, .int x] (.int x :: st) h := Rr_nx d_MSt_change_61 rfl
theorem r_MSt_change_63 {l1 l2 l3 l4 : Value} {x : Nat} : Rr X d MSt_change 63 [.ref x, l1, l2, l3, l4] st h = Rr X d MSt_change 64 [.ref x, l1, l2, l3, l4] (.ref x :: st) h := Rr_nx d_MSt_change_63 rfl
theorem r_MSt_change_64 {a : Nat} (hq : (qR a 7 0).isSome = true) : Rr X d MSt_change 64 L (.ref a :: st) (Wd mu la ro et) = Rr X d MSt_change 67 L (.ref (qRd a 7 0) :: st) (Wd mu la ro et) := R_gfR d_MSt_change_64 ff_7_11 hq
theorem r_MSt_change_67 {a : Nat} (hq : (qL a).isSome = true) : Rr X d MSt_change 67 L (.ref a :: st) (Wd mu la ro et) = Rr X d MSt_change 68 L (.int (Int32.ofNat (qLd a)) :: st) (Wd mu la ro et) := R_lenW d_MSt_change_67 hq
theorem r_MSt_change_68 {x y : Int32} : Rr X d MSt_change 68 L (.int y :: .int x :: st) h = if y ≤ x then Rr X d MSt_change 91 L st h else Rr X d MSt_change 71 L st h := R_ic_ge d_MSt_change_68 (by decide)
theorem r_MSt_change_71 {l1 l2 l3 l4 : Value} {x : Nat} : Rr X d MSt_change 71 [.ref x, l1, l2, l3, l4] st h = Rr X d MSt_change 72 [.ref x, l1, l2, l3, l4] (.ref x :: st) h := Rr_nx d_MSt_change_71 rfl
theorem r_MSt_change_72 {a : Nat} (hq : (qR a 7 0).isSome = true) : Rr X d MSt_change 72 L (.ref a :: st) (Wd mu la ro et) = Rr X d MSt_change 75 L (.ref (qRd a 7 0) :: st) (Wd mu la ro et) := R_gfR d_MSt_change_72 ff_7_11 hq
theorem r_MSt_change_75 {l0 l1 l2 l3 : Value} {x : Int32} : Rr X d MSt_change 75 [l0, l1, l2, l3, .int x] st h = Rr X d MSt_change 77 [l0, l1, l2, l3, .int x] (.int x :: st) h := Rr_nx d_MSt_change_75 rfl
theorem r_MSt_change_77 {a : Nat} {j : Int32} (hq : (qA a 0).isSome = true) : Rr X d MSt_change 77 L (.int j :: .ref a :: st) (Wd mu la ro et) = if j < 0 ∨ qAd a 0 ≤ j.toNatClampNeg then none else Rr X d MSt_change 78 L (.int (mu a j.toNatClampNeg) :: st) (Wd mu la ro et) := R_ialW d_MSt_change_77 hq
theorem r_MSt_change_78 {l0 l1 l2 l3 l4 : Value} {x : Int32} : Rr X d MSt_change 78 [l0, l1, l2, l3, l4] (.int x :: st) h = Rr X d MSt_change 79 (sL [l0, l1, l2, l3, l4] 3 (.int x)) st h := Rr_nx d_MSt_change_78 rfl
theorem r_MSt_change_79 {l1 l2 l3 l4 : Value} {x : Nat} : Rr X d MSt_change 79 [.ref x, l1, l2, l3, l4] st h = Rr X d MSt_change 80 [.ref x, l1, l2, l3, l4] (.ref x :: st) h := Rr_nx d_MSt_change_79 rfl
theorem r_MSt_change_80 {a : Nat} (hq : (qR a 7 0).isSome = true) : Rr X d MSt_change 80 L (.ref a :: st) (Wd mu la ro et) = Rr X d MSt_change 83 L (.ref (qRd a 7 0) :: st) (Wd mu la ro et) := R_gfR d_MSt_change_80 ff_7_11 hq
theorem r_MSt_change_83 {l0 l1 l2 l3 : Value} {x : Int32} : Rr X d MSt_change 83 [l0, l1, l2, l3, .int x] st h = Rr X d MSt_change 85 [l0, l1, l2, l3, .int x] (.int x :: st) h := Rr_nx d_MSt_change_83 rfl
theorem r_MSt_change_85 {l0 l1 l3 l4 : Value} {x : Int32} : Rr X d MSt_change 85 [l0, l1, .int x, l3, l4] st h = Rr X d MSt_change 86 [l0, l1, .int x, l3, l4] (.int x :: st) h := Rr_nx d_MSt_change_85 rfl
theorem r_MSt_change_86 {a : Nat} {j x : Int32} (hq : (qA a 0).isSome = true) : Rr X d MSt_change 86 L (.int x :: .int j :: .ref a :: st) (Wd mu la ro et) = if j < 0 ∨ qAd a 0 ≤ j.toNatClampNeg then none else Rr X d MSt_change 87 L st (Wd (up2 mu a j.toNatClampNeg (x)) la ro et) := R_iasW d_MSt_change_86 hq
theorem r_MSt_change_87 {l1 l2 l3 l4 : Value} {x : Nat} : Rr X d MSt_change 87 [.ref x, l1, l2, l3, l4] st h = Rr X d MSt_change 88 [.ref x, l1, l2, l3, l4] (.ref x :: st) h := Rr_nx d_MSt_change_87 rfl
theorem r_MSt_change_88 {a : Nat} (hO : qO a 7 = true) (hc : ckS st = true) : Rr X (d + 1) MSt_change 88 L (.ref a :: st) (Wd mu la ro et) = (Rr X d MSt_weigh 0 [.ref a, mkU, mkU, mkU, mkU] [] (Wd mu la ro et)).bind fun q => Rr X (d + 1) MSt_change 91 L (psh q.1 st) q.2 := R_iv (av := []) d_MSt_change_88 fc_7_41 hO (ckS_le hc) rfl (Nat.le_of_ble_eq_true rfl) (Nat.le_of_ble_eq_true rfl)
theorem r_MSt_change_91 {l0 l1 l2 l4 : Value} {x : Int32} : Rr X d MSt_change 91 [l0, l1, l2, .int x, l4] st h = Rr X d MSt_change 92 [l0, l1, l2, .int x, l4] (.int x :: st) h := Rr_nx d_MSt_change_91 rfl
theorem r_MSt_change_92 {x : Int32} : Rr X d MSt_change 92 L [.int x] h = some (some (.int x), h) := R_ir d_MSt_change_92 rfl
theorem d_MSt_isRate_0 : decode MSt_isRate.2.2.1 0 = .ok (.iload_n 0, 1) := lkT_ok tk_MSt_isRate rfl
theorem d_MSt_isRate_1 : decode MSt_isRate.2.2.1 1 = .ok (.bipush 6, 2) := lkT_ok tk_MSt_isRate rfl
theorem d_MSt_isRate_3 : decode MSt_isRate.2.2.1 3 = .ok (.if_icmp .lt 13, 3) := lkT_ok tk_MSt_isRate rfl
theorem d_MSt_isRate_6 : decode MSt_isRate.2.2.1 6 = .ok (.iload_n 0, 1) := lkT_ok tk_MSt_isRate rfl
theorem d_MSt_isRate_7 : decode MSt_isRate.2.2.1 7 = .ok (.bipush 10, 2) := lkT_ok tk_MSt_isRate rfl
theorem d_MSt_isRate_9 : decode MSt_isRate.2.2.1 9 = .ok (.if_icmp .ge 7, 3) := lkT_ok tk_MSt_isRate rfl
theorem d_MSt_isRate_12 : decode MSt_isRate.2.2.1 12 = .ok (.iconst 1, 1) := lkT_ok tk_MSt_isRate rfl
theorem d_MSt_isRate_13 : decode MSt_isRate.2.2.1 13 = .ok (.goto 4, 3) := lkT_ok tk_MSt_isRate rfl
theorem d_MSt_isRate_16 : decode MSt_isRate.2.2.1 16 = .ok (.iconst 0, 1) := lkT_ok tk_MSt_isRate rfl
theorem d_MSt_isRate_17 : decode MSt_isRate.2.2.1 17 = .ok (.ireturn, 1) := lkT_ok tk_MSt_isRate rfl
theorem r_MSt_isRate_0 {x : Int32} : Rr X d MSt_isRate 0 [.int x] st h = Rr X d MSt_isRate 1 [.int x] (.int x :: st) h := Rr_nx d_MSt_isRate_0 rfl
theorem r_MSt_isRate_1 : Rr X d MSt_isRate 1 L st h = Rr X d MSt_isRate 3 L (.int (6) :: st) h := Rr_nx d_MSt_isRate_1 rfl
theorem r_MSt_isRate_3 {x y : Int32} : Rr X d MSt_isRate 3 L (.int y :: .int x :: st) h = if x < y then Rr X d MSt_isRate 16 L st h else Rr X d MSt_isRate 6 L st h := R_ic_lt d_MSt_isRate_3 (by decide)
theorem r_MSt_isRate_6 {x : Int32} : Rr X d MSt_isRate 6 [.int x] st h = Rr X d MSt_isRate 7 [.int x] (.int x :: st) h := Rr_nx d_MSt_isRate_6 rfl
theorem r_MSt_isRate_7 : Rr X d MSt_isRate 7 L st h = Rr X d MSt_isRate 9 L (.int (10) :: st) h := Rr_nx d_MSt_isRate_7 rfl
theorem r_MSt_isRate_9 {x y : Int32} : Rr X d MSt_isRate 9 L (.int y :: .int x :: st) h = if y ≤ x then Rr X d MSt_isRate 16 L st h else Rr X d MSt_isRate 12 L st h := R_ic_ge d_MSt_isRate_9 (by decide)
theorem r_MSt_isRate_12 : Rr X d MSt_isRate 12 L st h = Rr X d MSt_isRate 13 L (.int (1) :: st) h := Rr_nx d_MSt_isRate_12 rfl
theorem r_MSt_isRate_13 : Rr X d MSt_isRate 13 L st h = Rr X d MSt_isRate 17 L st h := R_goto d_MSt_isRate_13 (by decide)
theorem r_MSt_isRate_16 : Rr X d MSt_isRate 16 L st h = Rr X d MSt_isRate 17 L (.int (0) :: st) h := Rr_nx d_MSt_isRate_16 rfl
theorem r_MSt_isRate_17 {x : Int32} : Rr X d MSt_isRate 17 L [.int x] h = if x = 0 ∨ x = 1 then some (some (.int x), h) else none := R_zr d_MSt_isRate_17 rfl
theorem d_MTo_undo_0 : decode MTo_undo.2.2.1 0 = .ok (.aload_n 0, 1) := lkT_ok tk_MTo_undo rfl
theorem d_MTo_undo_1 : decode MTo_undo.2.2.1 1 = .ok (.getfield 58, 3) := lkT_ok tk_MTo_undo rfl
theorem d_MTo_undo_4 : decode MTo_undo.2.2.1 4 = .ok (.getfield 237, 3) := lkT_ok tk_MTo_undo rfl
theorem d_MTo_undo_7 : decode MTo_undo.2.2.1 7 = .ok (.ifCond .ne 6, 3) := lkT_ok tk_MTo_undo rfl
theorem d_MTo_undo_10 : decode MTo_undo.2.2.1 10 = .ok (.bipush (-5), 2) := lkT_ok tk_MTo_undo rfl
theorem d_MTo_undo_12 : decode MTo_undo.2.2.1 12 = .ok (.ireturn, 1) := lkT_ok tk_MTo_undo rfl
theorem d_MTo_undo_13 : decode MTo_undo.2.2.1 13 = .ok (.aload_n 0, 1) := lkT_ok tk_MTo_undo rfl
theorem d_MTo_undo_14 : decode MTo_undo.2.2.1 14 = .ok (.getfield 58, 3) := lkT_ok tk_MTo_undo rfl
theorem d_MTo_undo_17 : decode MTo_undo.2.2.1 17 = .ok (.dup, 1) := lkT_ok tk_MTo_undo rfl
theorem d_MTo_undo_18 : decode MTo_undo.2.2.1 18 = .ok (.getfield 237, 3) := lkT_ok tk_MTo_undo rfl
theorem d_MTo_undo_21 : decode MTo_undo.2.2.1 21 = .ok (.iconst 1, 1) := lkT_ok tk_MTo_undo rfl
theorem d_MTo_undo_22 : decode MTo_undo.2.2.1 22 = .ok (.isub, 1) := lkT_ok tk_MTo_undo rfl
theorem d_MTo_undo_23 : decode MTo_undo.2.2.1 23 = .ok (.putfield 237, 3) := lkT_ok tk_MTo_undo rfl
theorem d_MTo_undo_26 : decode MTo_undo.2.2.1 26 = .ok (.aload_n 0, 1) := lkT_ok tk_MTo_undo rfl
theorem d_MTo_undo_27 : decode MTo_undo.2.2.1 27 = .ok (.iconst 2, 1) := lkT_ok tk_MTo_undo rfl
theorem d_MTo_undo_28 : decode MTo_undo.2.2.1 28 = .ok (.invokevirtual 240, 3) := lkT_ok tk_MTo_undo rfl
theorem d_MTo_undo_31 : decode MTo_undo.2.2.1 31 = .ok (.aload_n 0, 1) := lkT_ok tk_MTo_undo rfl
theorem d_MTo_undo_32 : decode MTo_undo.2.2.1 32 = .ok (.getfield 58, 3) := lkT_ok tk_MTo_undo rfl
theorem d_MTo_undo_35 : decode MTo_undo.2.2.1 35 = .ok (.getfield 237, 3) := lkT_ok tk_MTo_undo rfl
theorem d_MTo_undo_38 : decode MTo_undo.2.2.1 38 = .ok (.ireturn, 1) := lkT_ok tk_MTo_undo rfl
theorem r_MTo_undo_0 {x : Nat} : Rr X d MTo_undo 0 [.ref x] st h = Rr X d MTo_undo 1 [.ref x] (.ref x :: st) h := Rr_nx d_MTo_undo_0 rfl
theorem r_MTo_undo_1 {a : Nat} (hq : (qR a 9 7).isSome = true) : Rr X d MTo_undo 1 L (.ref a :: st) (Wd mu la ro et) = Rr X d MTo_undo 4 L (.ref (qRd a 9 7) :: st) (Wd mu la ro et) := R_gfR d_MTo_undo_1 ff_9_58 hq
theorem ff_9_237 : fF 9 237 = some (1, 1, 0, 0) := rfl
theorem r_MTo_undo_4 {a : Nat} (hq : qI a 1 1 = true) : Rr X d MTo_undo 4 L (.ref a :: st) (Wd mu la ro et) = Rr X d MTo_undo 7 L (.int (mu a 1) :: st) (Wd mu la ro et) := R_gfI d_MTo_undo_4 ff_9_237 hq
theorem r_MTo_undo_7 {x : Int32} : Rr X d MTo_undo 7 L (.int x :: st) h = if ¬ x = 0 then Rr X d MTo_undo 13 L st h else Rr X d MTo_undo 10 L st h := R_if_ne d_MTo_undo_7 (by decide)
theorem r_MTo_undo_10 : Rr X d MTo_undo 10 L st h = Rr X d MTo_undo 12 L (.int (-5) :: st) h := Rr_nx d_MTo_undo_10 rfl
theorem r_MTo_undo_12 {x : Int32} : Rr X d MTo_undo 12 L [.int x] h = some (some (.int x), h) := R_ir d_MTo_undo_12 rfl
theorem r_MTo_undo_13 {x : Nat} : Rr X d MTo_undo 13 [.ref x] st h = Rr X d MTo_undo 14 [.ref x] (.ref x :: st) h := Rr_nx d_MTo_undo_13 rfl
theorem r_MTo_undo_14 {a : Nat} (hq : (qR a 9 7).isSome = true) : Rr X d MTo_undo 14 L (.ref a :: st) (Wd mu la ro et) = Rr X d MTo_undo 17 L (.ref (qRd a 9 7) :: st) (Wd mu la ro et) := R_gfR d_MTo_undo_14 ff_9_58 hq
theorem r_MTo_undo_17 {x : Nat} : Rr X d MTo_undo 17 L (.ref x :: st) h = Rr X d MTo_undo 18 L (.ref x :: .ref x :: st) h := Rr_nx d_MTo_undo_17 rfl
theorem r_MTo_undo_17i {x : Int32} : Rr X d MTo_undo 17 L (.int x :: st) h = Rr X d MTo_undo 18 L (.int x :: .int x :: st) h := Rr_nx d_MTo_undo_17 rfl
theorem r_MTo_undo_18 {a : Nat} (hq : qI a 1 1 = true) : Rr X d MTo_undo 18 L (.ref a :: st) (Wd mu la ro et) = Rr X d MTo_undo 21 L (.int (mu a 1) :: st) (Wd mu la ro et) := R_gfI d_MTo_undo_18 ff_9_237 hq
theorem r_MTo_undo_21 : Rr X d MTo_undo 21 L st h = Rr X d MTo_undo 22 L (.int (1) :: st) h := Rr_nx d_MTo_undo_21 rfl
theorem r_MTo_undo_22 {x y : Int32} : Rr X d MTo_undo 22 L (.int y :: .int x :: st) h = Rr X d MTo_undo 23 L (.int (x - y) :: st) h := Rr_nx d_MTo_undo_22 rfl
theorem r_MTo_undo_23 {a : Nat} {x : Int32} (hq : qI a 1 1 = true) : Rr X d MTo_undo 23 L (.int x :: .ref a :: st) (Wd mu la ro et) = Rr X d MTo_undo 26 L st (Wd (up2 mu a 1 x) la ro et) := R_pfI d_MTo_undo_23 ff_9_237 hq
theorem r_MTo_undo_26 {x : Nat} : Rr X d MTo_undo 26 [.ref x] st h = Rr X d MTo_undo 27 [.ref x] (.ref x :: st) h := Rr_nx d_MTo_undo_26 rfl
theorem r_MTo_undo_27 : Rr X d MTo_undo 27 L st h = Rr X d MTo_undo 28 L (.int (2) :: st) h := Rr_nx d_MTo_undo_27 rfl
theorem fc_9_240 : fC 9 240 = some (0, 9, 1, MTo_changeTo) := rfl
theorem r_MTo_undo_28 {y0 : Int32} {a : Nat} (hO : qO a 9 = true) (hc : ckS st = true) : Rr X (d + 1) MTo_undo 28 L (.int y0 :: .ref a :: st) (Wd mu la ro et) = (Rr X d MTo_changeTo 0 [.ref a, .int y0, mkU] [] (Wd mu la ro et)).bind fun q => Rr X (d + 1) MTo_undo 31 L (psh q.1 st) q.2 := R_iv (av := [.int y0]) d_MTo_undo_28 fc_9_240 hO (ckS_le hc) rfl (Nat.le_of_ble_eq_true rfl) (Nat.le_of_ble_eq_true rfl)
theorem r_MTo_undo_31 {x : Nat} : Rr X d MTo_undo 31 [.ref x] st h = Rr X d MTo_undo 32 [.ref x] (.ref x :: st) h := Rr_nx d_MTo_undo_31 rfl
theorem r_MTo_undo_32 {a : Nat} (hq : (qR a 9 7).isSome = true) : Rr X d MTo_undo 32 L (.ref a :: st) (Wd mu la ro et) = Rr X d MTo_undo 35 L (.ref (qRd a 9 7) :: st) (Wd mu la ro et) := R_gfR d_MTo_undo_32 ff_9_58 hq
theorem r_MTo_undo_35 {a : Nat} (hq : qI a 1 1 = true) : Rr X d MTo_undo 35 L (.ref a :: st) (Wd mu la ro et) = Rr X d MTo_undo 38 L (.int (mu a 1) :: st) (Wd mu la ro et) := R_gfI d_MTo_undo_35 ff_9_237 hq
theorem r_MTo_undo_38 {x : Int32} : Rr X d MTo_undo 38 L [.int x] h = some (some (.int x), h) := R_ir d_MTo_undo_38 rfl
theorem d_MTo_redo_0 : decode MTo_redo.2.2.1 0 = .ok (.aload_n 0, 1) := lkT_ok tk_MTo_redo rfl
theorem d_MTo_redo_1 : decode MTo_redo.2.2.1 1 = .ok (.getfield 58, 3) := lkT_ok tk_MTo_redo rfl
theorem d_MTo_redo_4 : decode MTo_redo.2.2.1 4 = .ok (.getfield 237, 3) := lkT_ok tk_MTo_redo rfl
theorem d_MTo_redo_7 : decode MTo_redo.2.2.1 7 = .ok (.aload_n 0, 1) := lkT_ok tk_MTo_redo rfl
theorem d_MTo_redo_8 : decode MTo_redo.2.2.1 8 = .ok (.getfield 58, 3) := lkT_ok tk_MTo_redo rfl
theorem d_MTo_redo_11 : decode MTo_redo.2.2.1 11 = .ok (.getfield 243, 3) := lkT_ok tk_MTo_redo rfl
theorem d_MTo_redo_14 : decode MTo_redo.2.2.1 14 = .ok (.if_icmp .ne 6, 3) := lkT_ok tk_MTo_redo rfl
theorem d_MTo_redo_17 : decode MTo_redo.2.2.1 17 = .ok (.bipush (-5), 2) := lkT_ok tk_MTo_redo rfl
theorem d_MTo_redo_19 : decode MTo_redo.2.2.1 19 = .ok (.ireturn, 1) := lkT_ok tk_MTo_redo rfl
theorem d_MTo_redo_20 : decode MTo_redo.2.2.1 20 = .ok (.aload_n 0, 1) := lkT_ok tk_MTo_redo rfl
theorem d_MTo_redo_21 : decode MTo_redo.2.2.1 21 = .ok (.iconst 3, 1) := lkT_ok tk_MTo_redo rfl
theorem d_MTo_redo_22 : decode MTo_redo.2.2.1 22 = .ok (.invokevirtual 240, 3) := lkT_ok tk_MTo_redo rfl
theorem d_MTo_redo_25 : decode MTo_redo.2.2.1 25 = .ok (.aload_n 0, 1) := lkT_ok tk_MTo_redo rfl
theorem d_MTo_redo_26 : decode MTo_redo.2.2.1 26 = .ok (.getfield 58, 3) := lkT_ok tk_MTo_redo rfl
theorem d_MTo_redo_29 : decode MTo_redo.2.2.1 29 = .ok (.dup, 1) := lkT_ok tk_MTo_redo rfl
theorem d_MTo_redo_30 : decode MTo_redo.2.2.1 30 = .ok (.getfield 237, 3) := lkT_ok tk_MTo_redo rfl
theorem d_MTo_redo_33 : decode MTo_redo.2.2.1 33 = .ok (.iconst 1, 1) := lkT_ok tk_MTo_redo rfl
theorem d_MTo_redo_34 : decode MTo_redo.2.2.1 34 = .ok (.iadd, 1) := lkT_ok tk_MTo_redo rfl
theorem d_MTo_redo_35 : decode MTo_redo.2.2.1 35 = .ok (.putfield 237, 3) := lkT_ok tk_MTo_redo rfl
theorem d_MTo_redo_38 : decode MTo_redo.2.2.1 38 = .ok (.aload_n 0, 1) := lkT_ok tk_MTo_redo rfl
theorem d_MTo_redo_39 : decode MTo_redo.2.2.1 39 = .ok (.getfield 58, 3) := lkT_ok tk_MTo_redo rfl
theorem d_MTo_redo_42 : decode MTo_redo.2.2.1 42 = .ok (.getfield 243, 3) := lkT_ok tk_MTo_redo rfl
theorem d_MTo_redo_45 : decode MTo_redo.2.2.1 45 = .ok (.aload_n 0, 1) := lkT_ok tk_MTo_redo rfl
theorem d_MTo_redo_46 : decode MTo_redo.2.2.1 46 = .ok (.getfield 58, 3) := lkT_ok tk_MTo_redo rfl
theorem d_MTo_redo_49 : decode MTo_redo.2.2.1 49 = .ok (.getfield 237, 3) := lkT_ok tk_MTo_redo rfl
theorem d_MTo_redo_52 : decode MTo_redo.2.2.1 52 = .ok (.isub, 1) := lkT_ok tk_MTo_redo rfl
theorem d_MTo_redo_53 : decode MTo_redo.2.2.1 53 = .ok (.ireturn, 1) := lkT_ok tk_MTo_redo rfl
theorem r_MTo_redo_0 {x : Nat} : Rr X d MTo_redo 0 [.ref x] st h = Rr X d MTo_redo 1 [.ref x] (.ref x :: st) h := Rr_nx d_MTo_redo_0 rfl
theorem r_MTo_redo_1 {a : Nat} (hq : (qR a 9 7).isSome = true) : Rr X d MTo_redo 1 L (.ref a :: st) (Wd mu la ro et) = Rr X d MTo_redo 4 L (.ref (qRd a 9 7) :: st) (Wd mu la ro et) := R_gfR d_MTo_redo_1 ff_9_58 hq
theorem r_MTo_redo_4 {a : Nat} (hq : qI a 1 1 = true) : Rr X d MTo_redo 4 L (.ref a :: st) (Wd mu la ro et) = Rr X d MTo_redo 7 L (.int (mu a 1) :: st) (Wd mu la ro et) := R_gfI d_MTo_redo_4 ff_9_237 hq
theorem r_MTo_redo_7 {x : Nat} : Rr X d MTo_redo 7 [.ref x] st h = Rr X d MTo_redo 8 [.ref x] (.ref x :: st) h := Rr_nx d_MTo_redo_7 rfl
theorem r_MTo_redo_8 {a : Nat} (hq : (qR a 9 7).isSome = true) : Rr X d MTo_redo 8 L (.ref a :: st) (Wd mu la ro et) = Rr X d MTo_redo 11 L (.ref (qRd a 9 7) :: st) (Wd mu la ro et) := R_gfR d_MTo_redo_8 ff_9_58 hq
theorem ff_9_243 : fF 9 243 = some (1, 2, 0, 0) := rfl
theorem r_MTo_redo_11 {a : Nat} (hq : qI a 1 2 = true) : Rr X d MTo_redo 11 L (.ref a :: st) (Wd mu la ro et) = Rr X d MTo_redo 14 L (.int (mu a 2) :: st) (Wd mu la ro et) := R_gfI d_MTo_redo_11 ff_9_243 hq
theorem r_MTo_redo_14 {x y : Int32} : Rr X d MTo_redo 14 L (.int y :: .int x :: st) h = if ¬ x = y then Rr X d MTo_redo 20 L st h else Rr X d MTo_redo 17 L st h := R_ic_ne d_MTo_redo_14 (by decide)
theorem r_MTo_redo_17 : Rr X d MTo_redo 17 L st h = Rr X d MTo_redo 19 L (.int (-5) :: st) h := Rr_nx d_MTo_redo_17 rfl
theorem r_MTo_redo_19 {x : Int32} : Rr X d MTo_redo 19 L [.int x] h = some (some (.int x), h) := R_ir d_MTo_redo_19 rfl
theorem r_MTo_redo_20 {x : Nat} : Rr X d MTo_redo 20 [.ref x] st h = Rr X d MTo_redo 21 [.ref x] (.ref x :: st) h := Rr_nx d_MTo_redo_20 rfl
theorem r_MTo_redo_21 : Rr X d MTo_redo 21 L st h = Rr X d MTo_redo 22 L (.int (3) :: st) h := Rr_nx d_MTo_redo_21 rfl
theorem r_MTo_redo_22 {y0 : Int32} {a : Nat} (hO : qO a 9 = true) (hc : ckS st = true) : Rr X (d + 1) MTo_redo 22 L (.int y0 :: .ref a :: st) (Wd mu la ro et) = (Rr X d MTo_changeTo 0 [.ref a, .int y0, mkU] [] (Wd mu la ro et)).bind fun q => Rr X (d + 1) MTo_redo 25 L (psh q.1 st) q.2 := R_iv (av := [.int y0]) d_MTo_redo_22 fc_9_240 hO (ckS_le hc) rfl (Nat.le_of_ble_eq_true rfl) (Nat.le_of_ble_eq_true rfl)
theorem r_MTo_redo_25 {x : Nat} : Rr X d MTo_redo 25 [.ref x] st h = Rr X d MTo_redo 26 [.ref x] (.ref x :: st) h := Rr_nx d_MTo_redo_25 rfl
theorem r_MTo_redo_26 {a : Nat} (hq : (qR a 9 7).isSome = true) : Rr X d MTo_redo 26 L (.ref a :: st) (Wd mu la ro et) = Rr X d MTo_redo 29 L (.ref (qRd a 9 7) :: st) (Wd mu la ro et) := R_gfR d_MTo_redo_26 ff_9_58 hq
theorem r_MTo_redo_29 {x : Nat} : Rr X d MTo_redo 29 L (.ref x :: st) h = Rr X d MTo_redo 30 L (.ref x :: .ref x :: st) h := Rr_nx d_MTo_redo_29 rfl
theorem r_MTo_redo_29i {x : Int32} : Rr X d MTo_redo 29 L (.int x :: st) h = Rr X d MTo_redo 30 L (.int x :: .int x :: st) h := Rr_nx d_MTo_redo_29 rfl
theorem r_MTo_redo_30 {a : Nat} (hq : qI a 1 1 = true) : Rr X d MTo_redo 30 L (.ref a :: st) (Wd mu la ro et) = Rr X d MTo_redo 33 L (.int (mu a 1) :: st) (Wd mu la ro et) := R_gfI d_MTo_redo_30 ff_9_237 hq
theorem r_MTo_redo_33 : Rr X d MTo_redo 33 L st h = Rr X d MTo_redo 34 L (.int (1) :: st) h := Rr_nx d_MTo_redo_33 rfl
theorem r_MTo_redo_34 {x y : Int32} : Rr X d MTo_redo 34 L (.int y :: .int x :: st) h = Rr X d MTo_redo 35 L (.int (x + y) :: st) h := Rr_nx d_MTo_redo_34 rfl
theorem r_MTo_redo_35 {a : Nat} {x : Int32} (hq : qI a 1 1 = true) : Rr X d MTo_redo 35 L (.int x :: .ref a :: st) (Wd mu la ro et) = Rr X d MTo_redo 38 L st (Wd (up2 mu a 1 x) la ro et) := R_pfI d_MTo_redo_35 ff_9_237 hq
theorem r_MTo_redo_38 {x : Nat} : Rr X d MTo_redo 38 [.ref x] st h = Rr X d MTo_redo 39 [.ref x] (.ref x :: st) h := Rr_nx d_MTo_redo_38 rfl
theorem r_MTo_redo_39 {a : Nat} (hq : (qR a 9 7).isSome = true) : Rr X d MTo_redo 39 L (.ref a :: st) (Wd mu la ro et) = Rr X d MTo_redo 42 L (.ref (qRd a 9 7) :: st) (Wd mu la ro et) := R_gfR d_MTo_redo_39 ff_9_58 hq
theorem r_MTo_redo_42 {a : Nat} (hq : qI a 1 2 = true) : Rr X d MTo_redo 42 L (.ref a :: st) (Wd mu la ro et) = Rr X d MTo_redo 45 L (.int (mu a 2) :: st) (Wd mu la ro et) := R_gfI d_MTo_redo_42 ff_9_243 hq
theorem r_MTo_redo_45 {x : Nat} : Rr X d MTo_redo 45 [.ref x] st h = Rr X d MTo_redo 46 [.ref x] (.ref x :: st) h := Rr_nx d_MTo_redo_45 rfl
theorem r_MTo_redo_46 {a : Nat} (hq : (qR a 9 7).isSome = true) : Rr X d MTo_redo 46 L (.ref a :: st) (Wd mu la ro et) = Rr X d MTo_redo 49 L (.ref (qRd a 9 7) :: st) (Wd mu la ro et) := R_gfR d_MTo_redo_46 ff_9_58 hq
theorem r_MTo_redo_49 {a : Nat} (hq : qI a 1 1 = true) : Rr X d MTo_redo 49 L (.ref a :: st) (Wd mu la ro et) = Rr X d MTo_redo 52 L (.int (mu a 1) :: st) (Wd mu la ro et) := R_gfI d_MTo_redo_49 ff_9_237 hq
theorem r_MTo_redo_52 {x y : Int32} : Rr X d MTo_redo 52 L (.int y :: .int x :: st) h = Rr X d MTo_redo 53 L (.int (x - y) :: st) h := Rr_nx d_MTo_redo_52 rfl
theorem r_MTo_redo_53 {x : Int32} : Rr X d MTo_redo 53 L [.int x] h = some (some (.int x), h) := R_ir d_MTo_redo_53 rfl
theorem d_MTo_changeTo_0 : decode MTo_changeTo.2.2.1 0 = .ok (.aload_n 0, 1) := lkT_ok tk_MTo_changeTo rfl
theorem d_MTo_changeTo_1 : decode MTo_changeTo.2.2.1 1 = .ok (.aload_n 0, 1) := lkT_ok tk_MTo_changeTo rfl
theorem d_MTo_changeTo_2 : decode MTo_changeTo.2.2.1 2 = .ok (.getfield 58, 3) := lkT_ok tk_MTo_changeTo rfl
theorem d_MTo_changeTo_5 : decode MTo_changeTo.2.2.1 5 = .ok (.aload_n 0, 1) := lkT_ok tk_MTo_changeTo rfl
theorem d_MTo_changeTo_6 : decode MTo_changeTo.2.2.1 6 = .ok (.getfield 58, 3) := lkT_ok tk_MTo_changeTo rfl
theorem d_MTo_changeTo_9 : decode MTo_changeTo.2.2.1 9 = .ok (.getfield 237, 3) := lkT_ok tk_MTo_changeTo rfl
theorem d_MTo_changeTo_12 : decode MTo_changeTo.2.2.1 12 = .ok (.iconst 0, 1) := lkT_ok tk_MTo_changeTo rfl
theorem d_MTo_changeTo_13 : decode MTo_changeTo.2.2.1 13 = .ok (.invokevirtual 330, 3) := lkT_ok tk_MTo_changeTo rfl
theorem d_MTo_changeTo_16 : decode MTo_changeTo.2.2.1 16 = .ok (.invokevirtual 100, 3) := lkT_ok tk_MTo_changeTo rfl
theorem d_MTo_changeTo_19 : decode MTo_changeTo.2.2.1 19 = .ok (.astore_n 2, 1) := lkT_ok tk_MTo_changeTo rfl
theorem d_MTo_changeTo_20 : decode MTo_changeTo.2.2.1 20 = .ok (.aload_n 2, 1) := lkT_ok tk_MTo_changeTo rfl
theorem d_MTo_changeTo_21 : decode MTo_changeTo.2.2.1 21 = .ok (.ifnull 38, 3) := lkT_ok tk_MTo_changeTo rfl
theorem d_MTo_changeTo_24 : decode MTo_changeTo.2.2.1 24 = .ok (.aload_n 2, 1) := lkT_ok tk_MTo_changeTo rfl
theorem d_MTo_changeTo_25 : decode MTo_changeTo.2.2.1 25 = .ok (.aload_n 0, 1) := lkT_ok tk_MTo_changeTo rfl
theorem d_MTo_changeTo_26 : decode MTo_changeTo.2.2.1 26 = .ok (.getfield 58, 3) := lkT_ok tk_MTo_changeTo rfl
theorem d_MTo_changeTo_29 : decode MTo_changeTo.2.2.1 29 = .ok (.aload_n 0, 1) := lkT_ok tk_MTo_changeTo rfl
theorem d_MTo_changeTo_30 : decode MTo_changeTo.2.2.1 30 = .ok (.getfield 58, 3) := lkT_ok tk_MTo_changeTo rfl
theorem d_MTo_changeTo_33 : decode MTo_changeTo.2.2.1 33 = .ok (.getfield 237, 3) := lkT_ok tk_MTo_changeTo rfl
theorem d_MTo_changeTo_36 : decode MTo_changeTo.2.2.1 36 = .ok (.iconst 1, 1) := lkT_ok tk_MTo_changeTo rfl
theorem d_MTo_changeTo_37 : decode MTo_changeTo.2.2.1 37 = .ok (.invokevirtual 330, 3) := lkT_ok tk_MTo_changeTo rfl
theorem d_MTo_changeTo_40 : decode MTo_changeTo.2.2.1 40 = .ok (.aload_n 0, 1) := lkT_ok tk_MTo_changeTo rfl
theorem d_MTo_changeTo_41 : decode MTo_changeTo.2.2.1 41 = .ok (.getfield 58, 3) := lkT_ok tk_MTo_changeTo rfl
theorem d_MTo_changeTo_44 : decode MTo_changeTo.2.2.1 44 = .ok (.aload_n 0, 1) := lkT_ok tk_MTo_changeTo rfl
theorem d_MTo_changeTo_45 : decode MTo_changeTo.2.2.1 45 = .ok (.getfield 58, 3) := lkT_ok tk_MTo_changeTo rfl
theorem d_MTo_changeTo_48 : decode MTo_changeTo.2.2.1 48 = .ok (.getfield 237, 3) := lkT_ok tk_MTo_changeTo rfl
theorem d_MTo_changeTo_51 : decode MTo_changeTo.2.2.1 51 = .ok (.iload_n 1, 1) := lkT_ok tk_MTo_changeTo rfl
theorem d_MTo_changeTo_52 : decode MTo_changeTo.2.2.1 52 = .ok (.invokevirtual 330, 3) := lkT_ok tk_MTo_changeTo rfl
theorem d_MTo_changeTo_55 : decode MTo_changeTo.2.2.1 55 = .ok (.invokevirtual 120, 3) := lkT_ok tk_MTo_changeTo rfl
theorem d_MTo_changeTo_58 : decode MTo_changeTo.2.2.1 58 = .ok (.pop, 1) := lkT_ok tk_MTo_changeTo rfl
theorem d_MTo_changeTo_59 : decode MTo_changeTo.2.2.1 59 = .ok (.return_, 1) := lkT_ok tk_MTo_changeTo rfl
theorem r_MTo_changeTo_0 {l1 l2 : Value} {x : Nat} : Rr X d MTo_changeTo 0 [.ref x, l1, l2] st h = Rr X d MTo_changeTo 1 [.ref x, l1, l2] (.ref x :: st) h := Rr_nx d_MTo_changeTo_0 rfl
theorem r_MTo_changeTo_1 {l1 l2 : Value} {x : Nat} : Rr X d MTo_changeTo 1 [.ref x, l1, l2] st h = Rr X d MTo_changeTo 2 [.ref x, l1, l2] (.ref x :: st) h := Rr_nx d_MTo_changeTo_1 rfl
theorem r_MTo_changeTo_2 {a : Nat} (hq : (qR a 9 7).isSome = true) : Rr X d MTo_changeTo 2 L (.ref a :: st) (Wd mu la ro et) = Rr X d MTo_changeTo 5 L (.ref (qRd a 9 7) :: st) (Wd mu la ro et) := R_gfR d_MTo_changeTo_2 ff_9_58 hq
theorem r_MTo_changeTo_5 {l1 l2 : Value} {x : Nat} : Rr X d MTo_changeTo 5 [.ref x, l1, l2] st h = Rr X d MTo_changeTo 6 [.ref x, l1, l2] (.ref x :: st) h := Rr_nx d_MTo_changeTo_5 rfl
theorem r_MTo_changeTo_6 {a : Nat} (hq : (qR a 9 7).isSome = true) : Rr X d MTo_changeTo 6 L (.ref a :: st) (Wd mu la ro et) = Rr X d MTo_changeTo 9 L (.ref (qRd a 9 7) :: st) (Wd mu la ro et) := R_gfR d_MTo_changeTo_6 ff_9_58 hq
theorem r_MTo_changeTo_9 {a : Nat} (hq : qI a 1 1 = true) : Rr X d MTo_changeTo 9 L (.ref a :: st) (Wd mu la ro et) = Rr X d MTo_changeTo 12 L (.int (mu a 1) :: st) (Wd mu la ro et) := R_gfI d_MTo_changeTo_9 ff_9_237 hq
theorem r_MTo_changeTo_12 : Rr X d MTo_changeTo 12 L st h = Rr X d MTo_changeTo 13 L (.int (0) :: st) h := Rr_nx d_MTo_changeTo_12 rfl
theorem fc_9_330 : fC 9 330 = some (0, 1, 2, MCh_part) := rfl
theorem r_MTo_changeTo_13 {y0 : Int32} {y1 : Int32} {a : Nat} (hO : qO a 1 = true) (hc : ckS st = true) : Rr X (d + 1) MTo_changeTo 13 L (.int y1 :: .int y0 :: .ref a :: st) (Wd mu la ro et) = (Rr X d MCh_part 0 [.ref a, .int y0, .int y1, mkU] [] (Wd mu la ro et)).bind fun q => Rr X (d + 1) MTo_changeTo 16 L (psh q.1 st) q.2 := R_iv (av := [.int y1, .int y0]) d_MTo_changeTo_13 fc_9_330 hO (ckS_le hc) rfl (Nat.le_of_ble_eq_true rfl) (Nat.le_of_ble_eq_true rfl)
theorem r_MTo_changeTo_16 {y0 : Int32} {a : Nat} (hO : qO a 9 = true) (hc : ckS st = true) : Rr X (d + 1) MTo_changeTo 16 L (.int y0 :: .ref a :: st) (Wd mu la ro et) = (Rr X d MTo_stoneAt 0 [.ref a, .int y0] [] (Wd mu la ro et)).bind fun q => Rr X (d + 1) MTo_changeTo 19 L (psh q.1 st) q.2 := R_iv (av := [.int y0]) d_MTo_changeTo_16 fc_9_100 hO (ckS_le hc) rfl (Nat.le_of_ble_eq_true rfl) (Nat.le_of_ble_eq_true rfl)
theorem r_MTo_changeTo_19 {l0 l1 l2 : Value} {x : Nat} : Rr X d MTo_changeTo 19 [l0, l1, l2] (.ref x :: st) h = Rr X d MTo_changeTo 20 (sL [l0, l1, l2] 2 (.ref x)) st h := Rr_nx d_MTo_changeTo_19 rfl
theorem r_MTo_changeTo_19n {l0 l1 l2 : Value} : Rr X d MTo_changeTo 19 [l0, l1, l2] (.null :: st) h = Rr X d MTo_changeTo 20 (sL [l0, l1, l2] 2 .null) st h := Rr_nx d_MTo_changeTo_19 rfl
theorem r_MTo_changeTo_20 {l0 l1 : Value} {x : Nat} : Rr X d MTo_changeTo 20 [l0, l1, .ref x] st h = Rr X d MTo_changeTo 21 [l0, l1, .ref x] (.ref x :: st) h := Rr_nx d_MTo_changeTo_20 rfl
theorem r_MTo_changeTo_20n {l0 l1 : Value} : Rr X d MTo_changeTo 20 [l0, l1, .null] st h = Rr X d MTo_changeTo 21 [l0, l1, .null] (.null :: st) h := Rr_nx d_MTo_changeTo_20 rfl
theorem r_MTo_changeTo_21 {x : Nat} : Rr X d MTo_changeTo 21 L (.ref x :: st) h = Rr X d MTo_changeTo 24 L st h := R_nul1 d_MTo_changeTo_21
theorem r_MTo_changeTo_21n : Rr X d MTo_changeTo 21 L (.null :: st) h = Rr X d MTo_changeTo 59 L st h := R_nul0 d_MTo_changeTo_21 (by decide)
theorem r_MTo_changeTo_24 {l0 l1 : Value} {x : Nat} : Rr X d MTo_changeTo 24 [l0, l1, .ref x] st h = Rr X d MTo_changeTo 25 [l0, l1, .ref x] (.ref x :: st) h := Rr_nx d_MTo_changeTo_24 rfl
theorem r_MTo_changeTo_24n {l0 l1 : Value} : Rr X d MTo_changeTo 24 [l0, l1, .null] st h = Rr X d MTo_changeTo 25 [l0, l1, .null] (.null :: st) h := Rr_nx d_MTo_changeTo_24 rfl
theorem r_MTo_changeTo_25 {l1 l2 : Value} {x : Nat} : Rr X d MTo_changeTo 25 [.ref x, l1, l2] st h = Rr X d MTo_changeTo 26 [.ref x, l1, l2] (.ref x :: st) h := Rr_nx d_MTo_changeTo_25 rfl
theorem r_MTo_changeTo_26 {a : Nat} (hq : (qR a 9 7).isSome = true) : Rr X d MTo_changeTo 26 L (.ref a :: st) (Wd mu la ro et) = Rr X d MTo_changeTo 29 L (.ref (qRd a 9 7) :: st) (Wd mu la ro et) := R_gfR d_MTo_changeTo_26 ff_9_58 hq
theorem r_MTo_changeTo_29 {l1 l2 : Value} {x : Nat} : Rr X d MTo_changeTo 29 [.ref x, l1, l2] st h = Rr X d MTo_changeTo 30 [.ref x, l1, l2] (.ref x :: st) h := Rr_nx d_MTo_changeTo_29 rfl
theorem r_MTo_changeTo_30 {a : Nat} (hq : (qR a 9 7).isSome = true) : Rr X d MTo_changeTo 30 L (.ref a :: st) (Wd mu la ro et) = Rr X d MTo_changeTo 33 L (.ref (qRd a 9 7) :: st) (Wd mu la ro et) := R_gfR d_MTo_changeTo_30 ff_9_58 hq
theorem r_MTo_changeTo_33 {a : Nat} (hq : qI a 1 1 = true) : Rr X d MTo_changeTo 33 L (.ref a :: st) (Wd mu la ro et) = Rr X d MTo_changeTo 36 L (.int (mu a 1) :: st) (Wd mu la ro et) := R_gfI d_MTo_changeTo_33 ff_9_237 hq
theorem r_MTo_changeTo_36 : Rr X d MTo_changeTo 36 L st h = Rr X d MTo_changeTo 37 L (.int (1) :: st) h := Rr_nx d_MTo_changeTo_36 rfl
theorem r_MTo_changeTo_37 {y0 : Int32} {y1 : Int32} {a : Nat} (hO : qO a 1 = true) (hc : ckS st = true) : Rr X (d + 1) MTo_changeTo 37 L (.int y1 :: .int y0 :: .ref a :: st) (Wd mu la ro et) = (Rr X d MCh_part 0 [.ref a, .int y0, .int y1, mkU] [] (Wd mu la ro et)).bind fun q => Rr X (d + 1) MTo_changeTo 40 L (psh q.1 st) q.2 := R_iv (av := [.int y1, .int y0]) d_MTo_changeTo_37 fc_9_330 hO (ckS_le hc) rfl (Nat.le_of_ble_eq_true rfl) (Nat.le_of_ble_eq_true rfl)
theorem r_MTo_changeTo_40 {l1 l2 : Value} {x : Nat} : Rr X d MTo_changeTo 40 [.ref x, l1, l2] st h = Rr X d MTo_changeTo 41 [.ref x, l1, l2] (.ref x :: st) h := Rr_nx d_MTo_changeTo_40 rfl
theorem r_MTo_changeTo_41 {a : Nat} (hq : (qR a 9 7).isSome = true) : Rr X d MTo_changeTo 41 L (.ref a :: st) (Wd mu la ro et) = Rr X d MTo_changeTo 44 L (.ref (qRd a 9 7) :: st) (Wd mu la ro et) := R_gfR d_MTo_changeTo_41 ff_9_58 hq
theorem r_MTo_changeTo_44 {l1 l2 : Value} {x : Nat} : Rr X d MTo_changeTo 44 [.ref x, l1, l2] st h = Rr X d MTo_changeTo 45 [.ref x, l1, l2] (.ref x :: st) h := Rr_nx d_MTo_changeTo_44 rfl
theorem r_MTo_changeTo_45 {a : Nat} (hq : (qR a 9 7).isSome = true) : Rr X d MTo_changeTo 45 L (.ref a :: st) (Wd mu la ro et) = Rr X d MTo_changeTo 48 L (.ref (qRd a 9 7) :: st) (Wd mu la ro et) := R_gfR d_MTo_changeTo_45 ff_9_58 hq
theorem r_MTo_changeTo_48 {a : Nat} (hq : qI a 1 1 = true) : Rr X d MTo_changeTo 48 L (.ref a :: st) (Wd mu la ro et) = Rr X d MTo_changeTo 51 L (.int (mu a 1) :: st) (Wd mu la ro et) := R_gfI d_MTo_changeTo_48 ff_9_237 hq
theorem r_MTo_changeTo_51 {l0 l2 : Value} {x : Int32} : Rr X d MTo_changeTo 51 [l0, .int x, l2] st h = Rr X d MTo_changeTo 52 [l0, .int x, l2] (.int x :: st) h := Rr_nx d_MTo_changeTo_51 rfl
theorem r_MTo_changeTo_52 {y0 : Int32} {y1 : Int32} {a : Nat} (hO : qO a 1 = true) (hc : ckS st = true) : Rr X (d + 1) MTo_changeTo 52 L (.int y1 :: .int y0 :: .ref a :: st) (Wd mu la ro et) = (Rr X d MCh_part 0 [.ref a, .int y0, .int y1, mkU] [] (Wd mu la ro et)).bind fun q => Rr X (d + 1) MTo_changeTo 55 L (psh q.1 st) q.2 := R_iv (av := [.int y1, .int y0]) d_MTo_changeTo_52 fc_9_330 hO (ckS_le hc) rfl (Nat.le_of_ble_eq_true rfl) (Nat.le_of_ble_eq_true rfl)
theorem r_MTo_changeTo_55 {y0 : Int32} {y1 : Int32} {a : Nat} (hO : qO a 7 = true) (hc : ckS st = true) : Rr X (d + 1) MTo_changeTo 55 L (.int y1 :: .int y0 :: .ref a :: st) (Wd mu la ro et) = (Rr X d MSt_change 0 [.ref a, .int y0, .int y1, mkU, mkU] [] (Wd mu la ro et)).bind fun q => Rr X (d + 1) MTo_changeTo 58 L (psh q.1 st) q.2 := R_iv (av := [.int y1, .int y0]) d_MTo_changeTo_55 fc_9_120 hO (ckS_le hc) rfl (Nat.le_of_ble_eq_true rfl) (Nat.le_of_ble_eq_true rfl)
theorem r_MTo_changeTo_58 {x : Int32} : Rr X d MTo_changeTo 58 L (.int x :: st) h = Rr X d MTo_changeTo 59 L st h := Rr_nx d_MTo_changeTo_58 rfl
theorem r_MTo_changeTo_59 : Rr X d MTo_changeTo 59 L [] h = some (none, h) := Rr_rt d_MTo_changeTo_59 rfl
theorem d_MCh_note_0 : decode MCh_note.2.2.1 0 = .ok (.aload_n 0, 1) := lkT_ok tk_MCh_note rfl
theorem d_MCh_note_1 : decode MCh_note.2.2.1 1 = .ok (.getfield 13, 3) := lkT_ok tk_MCh_note rfl
theorem d_MCh_note_4 : decode MCh_note.2.2.1 4 = .ok (.bipush 40, 2) := lkT_ok tk_MCh_note rfl
theorem d_MCh_note_6 : decode MCh_note.2.2.1 6 = .ok (.if_icmp .ne 29, 3) := lkT_ok tk_MCh_note rfl
theorem d_MCh_note_9 : decode MCh_note.2.2.1 9 = .ok (.aload_n 0, 1) := lkT_ok tk_MCh_note rfl
theorem d_MCh_note_10 : decode MCh_note.2.2.1 10 = .ok (.getfield 9, 3) := lkT_ok tk_MCh_note rfl
theorem d_MCh_note_13 : decode MCh_note.2.2.1 13 = .ok (.iconst 4, 1) := lkT_ok tk_MCh_note rfl
theorem d_MCh_note_14 : decode MCh_note.2.2.1 14 = .ok (.aload_n 0, 1) := lkT_ok tk_MCh_note rfl
theorem d_MCh_note_15 : decode MCh_note.2.2.1 15 = .ok (.getfield 9, 3) := lkT_ok tk_MCh_note rfl
theorem d_MCh_note_18 : decode MCh_note.2.2.1 18 = .ok (.iconst 0, 1) := lkT_ok tk_MCh_note rfl
theorem d_MCh_note_19 : decode MCh_note.2.2.1 19 = .ok (.sipush 156, 3) := lkT_ok tk_MCh_note rfl
theorem d_MCh_note_22 : decode MCh_note.2.2.1 22 = .ok (.invokestatic 17, 3) := lkT_ok tk_MCh_note rfl
theorem d_MCh_note_25 : decode MCh_note.2.2.1 25 = .ok (.aload_n 0, 1) := lkT_ok tk_MCh_note rfl
theorem d_MCh_note_26 : decode MCh_note.2.2.1 26 = .ok (.dup, 1) := lkT_ok tk_MCh_note rfl
theorem d_MCh_note_27 : decode MCh_note.2.2.1 27 = .ok (.getfield 13, 3) := lkT_ok tk_MCh_note rfl
theorem d_MCh_note_30 : decode MCh_note.2.2.1 30 = .ok (.iconst 1, 1) := lkT_ok tk_MCh_note rfl
theorem d_MCh_note_31 : decode MCh_note.2.2.1 31 = .ok (.isub, 1) := lkT_ok tk_MCh_note rfl
theorem d_MCh_note_32 : decode MCh_note.2.2.1 32 = .ok (.putfield 13, 3) := lkT_ok tk_MCh_note rfl
theorem d_MCh_note_35 : decode MCh_note.2.2.1 35 = .ok (.aload_n 0, 1) := lkT_ok tk_MCh_note rfl
theorem d_MCh_note_36 : decode MCh_note.2.2.1 36 = .ok (.iconst 0, 1) := lkT_ok tk_MCh_note rfl
theorem d_MCh_note_37 : decode MCh_note.2.2.1 37 = .ok (.iload_n 1, 1) := lkT_ok tk_MCh_note rfl
theorem d_MCh_note_38 : decode MCh_note.2.2.1 38 = .ok (.invokevirtual 23, 3) := lkT_ok tk_MCh_note rfl
theorem d_MCh_note_41 : decode MCh_note.2.2.1 41 = .ok (.aload_n 0, 1) := lkT_ok tk_MCh_note rfl
theorem d_MCh_note_42 : decode MCh_note.2.2.1 42 = .ok (.iconst 1, 1) := lkT_ok tk_MCh_note rfl
theorem d_MCh_note_43 : decode MCh_note.2.2.1 43 = .ok (.iload_n 2, 1) := lkT_ok tk_MCh_note rfl
theorem d_MCh_note_44 : decode MCh_note.2.2.1 44 = .ok (.invokevirtual 23, 3) := lkT_ok tk_MCh_note rfl
theorem d_MCh_note_47 : decode MCh_note.2.2.1 47 = .ok (.aload_n 0, 1) := lkT_ok tk_MCh_note rfl
theorem d_MCh_note_48 : decode MCh_note.2.2.1 48 = .ok (.iconst 2, 1) := lkT_ok tk_MCh_note rfl
theorem d_MCh_note_49 : decode MCh_note.2.2.1 49 = .ok (.iload_n 3, 1) := lkT_ok tk_MCh_note rfl
theorem d_MCh_note_50 : decode MCh_note.2.2.1 50 = .ok (.invokevirtual 23, 3) := lkT_ok tk_MCh_note rfl
theorem d_MCh_note_53 : decode MCh_note.2.2.1 53 = .ok (.aload_n 0, 1) := lkT_ok tk_MCh_note rfl
theorem d_MCh_note_54 : decode MCh_note.2.2.1 54 = .ok (.iconst 3, 1) := lkT_ok tk_MCh_note rfl
theorem d_MCh_note_55 : decode MCh_note.2.2.1 55 = .ok (.iload 4, 2) := lkT_ok tk_MCh_note rfl
theorem d_MCh_note_57 : decode MCh_note.2.2.1 57 = .ok (.invokevirtual 23, 3) := lkT_ok tk_MCh_note rfl
theorem d_MCh_note_60 : decode MCh_note.2.2.1 60 = .ok (.aload_n 0, 1) := lkT_ok tk_MCh_note rfl
theorem d_MCh_note_61 : decode MCh_note.2.2.1 61 = .ok (.dup, 1) := lkT_ok tk_MCh_note rfl
theorem d_MCh_note_62 : decode MCh_note.2.2.1 62 = .ok (.getfield 13, 3) := lkT_ok tk_MCh_note rfl
theorem d_MCh_note_65 : decode MCh_note.2.2.1 65 = .ok (.iconst 1, 1) := lkT_ok tk_MCh_note rfl
theorem d_MCh_note_66 : decode MCh_note.2.2.1 66 = .ok (.iadd, 1) := lkT_ok tk_MCh_note rfl
theorem d_MCh_note_67 : decode MCh_note.2.2.1 67 = .ok (.putfield 13, 3) := lkT_ok tk_MCh_note rfl
theorem d_MCh_note_70 : decode MCh_note.2.2.1 70 = .ok (.aload_n 0, 1) := lkT_ok tk_MCh_note rfl
theorem d_MCh_note_71 : decode MCh_note.2.2.1 71 = .ok (.aload_n 0, 1) := lkT_ok tk_MCh_note rfl
theorem d_MCh_note_72 : decode MCh_note.2.2.1 72 = .ok (.getfield 13, 3) := lkT_ok tk_MCh_note rfl
theorem d_MCh_note_75 : decode MCh_note.2.2.1 75 = .ok (.putfield 27, 3) := lkT_ok tk_MCh_note rfl
theorem d_MCh_note_78 : decode MCh_note.2.2.1 78 = .ok (.return_, 1) := lkT_ok tk_MCh_note rfl
theorem r_MCh_note_0 {l1 l2 l3 l4 : Value} {x : Nat} : Rr X d MCh_note 0 [.ref x, l1, l2, l3, l4] st h = Rr X d MCh_note 1 [.ref x, l1, l2, l3, l4] (.ref x :: st) h := Rr_nx d_MCh_note_0 rfl
theorem ff_1_13 : fF 1 13 = some (1, 1, 0, 0) := rfl
theorem r_MCh_note_1 {a : Nat} (hq : qI a 1 1 = true) : Rr X d MCh_note 1 L (.ref a :: st) (Wd mu la ro et) = Rr X d MCh_note 4 L (.int (mu a 1) :: st) (Wd mu la ro et) := R_gfI d_MCh_note_1 ff_1_13 hq
theorem r_MCh_note_4 : Rr X d MCh_note 4 L st h = Rr X d MCh_note 6 L (.int (40) :: st) h := Rr_nx d_MCh_note_4 rfl
theorem r_MCh_note_6 {x y : Int32} : Rr X d MCh_note 6 L (.int y :: .int x :: st) h = if ¬ x = y then Rr X d MCh_note 35 L st h else Rr X d MCh_note 9 L st h := R_ic_ne d_MCh_note_6 (by decide)
theorem r_MCh_note_9 {l1 l2 l3 l4 : Value} {x : Nat} : Rr X d MCh_note 9 [.ref x, l1, l2, l3, l4] st h = Rr X d MCh_note 10 [.ref x, l1, l2, l3, l4] (.ref x :: st) h := Rr_nx d_MCh_note_9 rfl
theorem ff_1_9 : fF 1 9 = some (1, 0, 1, 1) := rfl
theorem r_MCh_note_10 {a : Nat} (hq : (qR a 1 0).isSome = true) : Rr X d MCh_note 10 L (.ref a :: st) (Wd mu la ro et) = Rr X d MCh_note 13 L (.ref (qRd a 1 0) :: st) (Wd mu la ro et) := R_gfR d_MCh_note_10 ff_1_9 hq
theorem r_MCh_note_13 : Rr X d MCh_note 13 L st h = Rr X d MCh_note 14 L (.int (4) :: st) h := Rr_nx d_MCh_note_13 rfl
theorem r_MCh_note_14 {l1 l2 l3 l4 : Value} {x : Nat} : Rr X d MCh_note 14 [.ref x, l1, l2, l3, l4] st h = Rr X d MCh_note 15 [.ref x, l1, l2, l3, l4] (.ref x :: st) h := Rr_nx d_MCh_note_14 rfl
theorem r_MCh_note_15 {a : Nat} (hq : (qR a 1 0).isSome = true) : Rr X d MCh_note 15 L (.ref a :: st) (Wd mu la ro et) = Rr X d MCh_note 18 L (.ref (qRd a 1 0) :: st) (Wd mu la ro et) := R_gfR d_MCh_note_15 ff_1_9 hq
theorem r_MCh_note_18 : Rr X d MCh_note 18 L st h = Rr X d MCh_note 19 L (.int (0) :: st) h := Rr_nx d_MCh_note_18 rfl
theorem r_MCh_note_19 : Rr X d MCh_note 19 L st h = Rr X d MCh_note 22 L (.int (156) :: st) h := Rr_nx d_MCh_note_19 rfl
theorem fc_1_17 : fC 1 17 = some (10, 0, 0, MBo_init) := rfl
theorem r_MCh_note_25 {l1 l2 l3 l4 : Value} {x : Nat} : Rr X d MCh_note 25 [.ref x, l1, l2, l3, l4] st h = Rr X d MCh_note 26 [.ref x, l1, l2, l3, l4] (.ref x :: st) h := Rr_nx d_MCh_note_25 rfl
theorem r_MCh_note_26 {x : Nat} : Rr X d MCh_note 26 L (.ref x :: st) h = Rr X d MCh_note 27 L (.ref x :: .ref x :: st) h := Rr_nx d_MCh_note_26 rfl
theorem r_MCh_note_26i {x : Int32} : Rr X d MCh_note 26 L (.int x :: st) h = Rr X d MCh_note 27 L (.int x :: .int x :: st) h := Rr_nx d_MCh_note_26 rfl
theorem r_MCh_note_27 {a : Nat} (hq : qI a 1 1 = true) : Rr X d MCh_note 27 L (.ref a :: st) (Wd mu la ro et) = Rr X d MCh_note 30 L (.int (mu a 1) :: st) (Wd mu la ro et) := R_gfI d_MCh_note_27 ff_1_13 hq
theorem r_MCh_note_30 : Rr X d MCh_note 30 L st h = Rr X d MCh_note 31 L (.int (1) :: st) h := Rr_nx d_MCh_note_30 rfl
theorem r_MCh_note_31 {x y : Int32} : Rr X d MCh_note 31 L (.int y :: .int x :: st) h = Rr X d MCh_note 32 L (.int (x - y) :: st) h := Rr_nx d_MCh_note_31 rfl
theorem r_MCh_note_32 {a : Nat} {x : Int32} (hq : qI a 1 1 = true) : Rr X d MCh_note 32 L (.int x :: .ref a :: st) (Wd mu la ro et) = Rr X d MCh_note 35 L st (Wd (up2 mu a 1 x) la ro et) := R_pfI d_MCh_note_32 ff_1_13 hq
theorem r_MCh_note_35 {l1 l2 l3 l4 : Value} {x : Nat} : Rr X d MCh_note 35 [.ref x, l1, l2, l3, l4] st h = Rr X d MCh_note 36 [.ref x, l1, l2, l3, l4] (.ref x :: st) h := Rr_nx d_MCh_note_35 rfl
theorem r_MCh_note_36 : Rr X d MCh_note 36 L st h = Rr X d MCh_note 37 L (.int (0) :: st) h := Rr_nx d_MCh_note_36 rfl
theorem r_MCh_note_37 {l0 l2 l3 l4 : Value} {x : Int32} : Rr X d MCh_note 37 [l0, .int x, l2, l3, l4] st h = Rr X d MCh_note 38 [l0, .int x, l2, l3, l4] (.int x :: st) h := Rr_nx d_MCh_note_37 rfl
theorem fc_1_23 : fC 1 23 = some (0, 1, 2, MCh_write) := rfl
theorem r_MCh_note_38 {y0 : Int32} {y1 : Int32} {a : Nat} (hO : qO a 1 = true) (hc : ckS st = true) : Rr X (d + 1) MCh_note 38 L (.int y1 :: .int y0 :: .ref a :: st) (Wd mu la ro et) = (Rr X d MCh_write 0 [.ref a, .int y0, .int y1, mkU] [] (Wd mu la ro et)).bind fun q => Rr X (d + 1) MCh_note 41 L (psh q.1 st) q.2 := R_iv (av := [.int y1, .int y0]) d_MCh_note_38 fc_1_23 hO (ckS_le hc) rfl (Nat.le_of_ble_eq_true rfl) (Nat.le_of_ble_eq_true rfl)
theorem r_MCh_note_41 {l1 l2 l3 l4 : Value} {x : Nat} : Rr X d MCh_note 41 [.ref x, l1, l2, l3, l4] st h = Rr X d MCh_note 42 [.ref x, l1, l2, l3, l4] (.ref x :: st) h := Rr_nx d_MCh_note_41 rfl
theorem r_MCh_note_42 : Rr X d MCh_note 42 L st h = Rr X d MCh_note 43 L (.int (1) :: st) h := Rr_nx d_MCh_note_42 rfl
theorem r_MCh_note_43 {l0 l1 l3 l4 : Value} {x : Int32} : Rr X d MCh_note 43 [l0, l1, .int x, l3, l4] st h = Rr X d MCh_note 44 [l0, l1, .int x, l3, l4] (.int x :: st) h := Rr_nx d_MCh_note_43 rfl
theorem r_MCh_note_44 {y0 : Int32} {y1 : Int32} {a : Nat} (hO : qO a 1 = true) (hc : ckS st = true) : Rr X (d + 1) MCh_note 44 L (.int y1 :: .int y0 :: .ref a :: st) (Wd mu la ro et) = (Rr X d MCh_write 0 [.ref a, .int y0, .int y1, mkU] [] (Wd mu la ro et)).bind fun q => Rr X (d + 1) MCh_note 47 L (psh q.1 st) q.2 := R_iv (av := [.int y1, .int y0]) d_MCh_note_44 fc_1_23 hO (ckS_le hc) rfl (Nat.le_of_ble_eq_true rfl) (Nat.le_of_ble_eq_true rfl)
theorem r_MCh_note_47 {l1 l2 l3 l4 : Value} {x : Nat} : Rr X d MCh_note 47 [.ref x, l1, l2, l3, l4] st h = Rr X d MCh_note 48 [.ref x, l1, l2, l3, l4] (.ref x :: st) h := Rr_nx d_MCh_note_47 rfl
theorem r_MCh_note_48 : Rr X d MCh_note 48 L st h = Rr X d MCh_note 49 L (.int (2) :: st) h := Rr_nx d_MCh_note_48 rfl
theorem r_MCh_note_49 {l0 l1 l2 l4 : Value} {x : Int32} : Rr X d MCh_note 49 [l0, l1, l2, .int x, l4] st h = Rr X d MCh_note 50 [l0, l1, l2, .int x, l4] (.int x :: st) h := Rr_nx d_MCh_note_49 rfl
theorem r_MCh_note_50 {y0 : Int32} {y1 : Int32} {a : Nat} (hO : qO a 1 = true) (hc : ckS st = true) : Rr X (d + 1) MCh_note 50 L (.int y1 :: .int y0 :: .ref a :: st) (Wd mu la ro et) = (Rr X d MCh_write 0 [.ref a, .int y0, .int y1, mkU] [] (Wd mu la ro et)).bind fun q => Rr X (d + 1) MCh_note 53 L (psh q.1 st) q.2 := R_iv (av := [.int y1, .int y0]) d_MCh_note_50 fc_1_23 hO (ckS_le hc) rfl (Nat.le_of_ble_eq_true rfl) (Nat.le_of_ble_eq_true rfl)
theorem r_MCh_note_53 {l1 l2 l3 l4 : Value} {x : Nat} : Rr X d MCh_note 53 [.ref x, l1, l2, l3, l4] st h = Rr X d MCh_note 54 [.ref x, l1, l2, l3, l4] (.ref x :: st) h := Rr_nx d_MCh_note_53 rfl
theorem r_MCh_note_54 : Rr X d MCh_note 54 L st h = Rr X d MCh_note 55 L (.int (3) :: st) h := Rr_nx d_MCh_note_54 rfl
theorem r_MCh_note_55 {l0 l1 l2 l3 : Value} {x : Int32} : Rr X d MCh_note 55 [l0, l1, l2, l3, .int x] st h = Rr X d MCh_note 57 [l0, l1, l2, l3, .int x] (.int x :: st) h := Rr_nx d_MCh_note_55 rfl
theorem r_MCh_note_57 {y0 : Int32} {y1 : Int32} {a : Nat} (hO : qO a 1 = true) (hc : ckS st = true) : Rr X (d + 1) MCh_note 57 L (.int y1 :: .int y0 :: .ref a :: st) (Wd mu la ro et) = (Rr X d MCh_write 0 [.ref a, .int y0, .int y1, mkU] [] (Wd mu la ro et)).bind fun q => Rr X (d + 1) MCh_note 60 L (psh q.1 st) q.2 := R_iv (av := [.int y1, .int y0]) d_MCh_note_57 fc_1_23 hO (ckS_le hc) rfl (Nat.le_of_ble_eq_true rfl) (Nat.le_of_ble_eq_true rfl)
theorem r_MCh_note_60 {l1 l2 l3 l4 : Value} {x : Nat} : Rr X d MCh_note 60 [.ref x, l1, l2, l3, l4] st h = Rr X d MCh_note 61 [.ref x, l1, l2, l3, l4] (.ref x :: st) h := Rr_nx d_MCh_note_60 rfl
theorem r_MCh_note_61 {x : Nat} : Rr X d MCh_note 61 L (.ref x :: st) h = Rr X d MCh_note 62 L (.ref x :: .ref x :: st) h := Rr_nx d_MCh_note_61 rfl
theorem r_MCh_note_61i {x : Int32} : Rr X d MCh_note 61 L (.int x :: st) h = Rr X d MCh_note 62 L (.int x :: .int x :: st) h := Rr_nx d_MCh_note_61 rfl
theorem r_MCh_note_62 {a : Nat} (hq : qI a 1 1 = true) : Rr X d MCh_note 62 L (.ref a :: st) (Wd mu la ro et) = Rr X d MCh_note 65 L (.int (mu a 1) :: st) (Wd mu la ro et) := R_gfI d_MCh_note_62 ff_1_13 hq
theorem r_MCh_note_65 : Rr X d MCh_note 65 L st h = Rr X d MCh_note 66 L (.int (1) :: st) h := Rr_nx d_MCh_note_65 rfl
theorem r_MCh_note_66 {x y : Int32} : Rr X d MCh_note 66 L (.int y :: .int x :: st) h = Rr X d MCh_note 67 L (.int (x + y) :: st) h := Rr_nx d_MCh_note_66 rfl
theorem r_MCh_note_67 {a : Nat} {x : Int32} (hq : qI a 1 1 = true) : Rr X d MCh_note 67 L (.int x :: .ref a :: st) (Wd mu la ro et) = Rr X d MCh_note 70 L st (Wd (up2 mu a 1 x) la ro et) := R_pfI d_MCh_note_67 ff_1_13 hq
theorem r_MCh_note_70 {l1 l2 l3 l4 : Value} {x : Nat} : Rr X d MCh_note 70 [.ref x, l1, l2, l3, l4] st h = Rr X d MCh_note 71 [.ref x, l1, l2, l3, l4] (.ref x :: st) h := Rr_nx d_MCh_note_70 rfl
theorem r_MCh_note_71 {l1 l2 l3 l4 : Value} {x : Nat} : Rr X d MCh_note 71 [.ref x, l1, l2, l3, l4] st h = Rr X d MCh_note 72 [.ref x, l1, l2, l3, l4] (.ref x :: st) h := Rr_nx d_MCh_note_71 rfl
theorem r_MCh_note_72 {a : Nat} (hq : qI a 1 1 = true) : Rr X d MCh_note 72 L (.ref a :: st) (Wd mu la ro et) = Rr X d MCh_note 75 L (.int (mu a 1) :: st) (Wd mu la ro et) := R_gfI d_MCh_note_72 ff_1_13 hq
theorem ff_1_27 : fF 1 27 = some (1, 2, 0, 0) := rfl
theorem r_MCh_note_75 {a : Nat} {x : Int32} (hq : qI a 1 2 = true) : Rr X d MCh_note 75 L (.int x :: .ref a :: st) (Wd mu la ro et) = Rr X d MCh_note 78 L st (Wd (up2 mu a 2 x) la ro et) := R_pfI d_MCh_note_75 ff_1_27 hq
theorem r_MCh_note_78 : Rr X d MCh_note 78 L [] h = some (none, h) := Rr_rt d_MCh_note_78 rfl
theorem d_MCh_write_0 : decode MCh_write.2.2.1 0 = .ok (.aload_n 0, 1) := lkT_ok tk_MCh_write rfl
theorem d_MCh_write_1 : decode MCh_write.2.2.1 1 = .ok (.getfield 13, 3) := lkT_ok tk_MCh_write rfl
theorem d_MCh_write_4 : decode MCh_write.2.2.1 4 = .ok (.iconst 4, 1) := lkT_ok tk_MCh_write rfl
theorem d_MCh_write_5 : decode MCh_write.2.2.1 5 = .ok (.imul, 1) := lkT_ok tk_MCh_write rfl
theorem d_MCh_write_6 : decode MCh_write.2.2.1 6 = .ok (.iload_n 1, 1) := lkT_ok tk_MCh_write rfl
theorem d_MCh_write_7 : decode MCh_write.2.2.1 7 = .ok (.iadd, 1) := lkT_ok tk_MCh_write rfl
theorem d_MCh_write_8 : decode MCh_write.2.2.1 8 = .ok (.istore_n 3, 1) := lkT_ok tk_MCh_write rfl
theorem d_MCh_write_9 : decode MCh_write.2.2.1 9 = .ok (.iload_n 3, 1) := lkT_ok tk_MCh_write rfl
theorem d_MCh_write_10 : decode MCh_write.2.2.1 10 = .ok (.ifCond .lt 19, 3) := lkT_ok tk_MCh_write rfl
theorem d_MCh_write_13 : decode MCh_write.2.2.1 13 = .ok (.iload_n 3, 1) := lkT_ok tk_MCh_write rfl
theorem d_MCh_write_14 : decode MCh_write.2.2.1 14 = .ok (.aload_n 0, 1) := lkT_ok tk_MCh_write rfl
theorem d_MCh_write_15 : decode MCh_write.2.2.1 15 = .ok (.getfield 9, 3) := lkT_ok tk_MCh_write rfl
theorem d_MCh_write_18 : decode MCh_write.2.2.1 18 = .ok (.arraylength, 1) := lkT_ok tk_MCh_write rfl
theorem d_MCh_write_19 : decode MCh_write.2.2.1 19 = .ok (.if_icmp .ge 10, 3) := lkT_ok tk_MCh_write rfl
theorem d_MCh_write_22 : decode MCh_write.2.2.1 22 = .ok (.aload_n 0, 1) := lkT_ok tk_MCh_write rfl
theorem d_MCh_write_23 : decode MCh_write.2.2.1 23 = .ok (.getfield 9, 3) := lkT_ok tk_MCh_write rfl
theorem d_MCh_write_26 : decode MCh_write.2.2.1 26 = .ok (.iload_n 3, 1) := lkT_ok tk_MCh_write rfl
theorem d_MCh_write_27 : decode MCh_write.2.2.1 27 = .ok (.iload_n 2, 1) := lkT_ok tk_MCh_write rfl
theorem d_MCh_write_28 : decode MCh_write.2.2.1 28 = .ok (.iastore, 1) := lkT_ok tk_MCh_write rfl
theorem d_MCh_write_29 : decode MCh_write.2.2.1 29 = .ok (.return_, 1) := lkT_ok tk_MCh_write rfl
theorem r_MCh_write_0 {l1 l2 l3 : Value} {x : Nat} : Rr X d MCh_write 0 [.ref x, l1, l2, l3] st h = Rr X d MCh_write 1 [.ref x, l1, l2, l3] (.ref x :: st) h := Rr_nx d_MCh_write_0 rfl
theorem r_MCh_write_1 {a : Nat} (hq : qI a 1 1 = true) : Rr X d MCh_write 1 L (.ref a :: st) (Wd mu la ro et) = Rr X d MCh_write 4 L (.int (mu a 1) :: st) (Wd mu la ro et) := R_gfI d_MCh_write_1 ff_1_13 hq
theorem r_MCh_write_4 : Rr X d MCh_write 4 L st h = Rr X d MCh_write 5 L (.int (4) :: st) h := Rr_nx d_MCh_write_4 rfl
theorem r_MCh_write_5 {x y : Int32} : Rr X d MCh_write 5 L (.int y :: .int x :: st) h = Rr X d MCh_write 6 L (.int (x * y) :: st) h := Rr_nx d_MCh_write_5 rfl
theorem r_MCh_write_6 {l0 l2 l3 : Value} {x : Int32} : Rr X d MCh_write 6 [l0, .int x, l2, l3] st h = Rr X d MCh_write 7 [l0, .int x, l2, l3] (.int x :: st) h := Rr_nx d_MCh_write_6 rfl
theorem r_MCh_write_7 {x y : Int32} : Rr X d MCh_write 7 L (.int y :: .int x :: st) h = Rr X d MCh_write 8 L (.int (x + y) :: st) h := Rr_nx d_MCh_write_7 rfl
theorem r_MCh_write_8 {l0 l1 l2 l3 : Value} {x : Int32} : Rr X d MCh_write 8 [l0, l1, l2, l3] (.int x :: st) h = Rr X d MCh_write 9 (sL [l0, l1, l2, l3] 3 (.int x)) st h := Rr_nx d_MCh_write_8 rfl
theorem r_MCh_write_9 {l0 l1 l2 : Value} {x : Int32} : Rr X d MCh_write 9 [l0, l1, l2, .int x] st h = Rr X d MCh_write 10 [l0, l1, l2, .int x] (.int x :: st) h := Rr_nx d_MCh_write_9 rfl
theorem r_MCh_write_10 {x : Int32} : Rr X d MCh_write 10 L (.int x :: st) h = if x < 0 then Rr X d MCh_write 29 L st h else Rr X d MCh_write 13 L st h := R_if_lt d_MCh_write_10 (by decide)
theorem r_MCh_write_13 {l0 l1 l2 : Value} {x : Int32} : Rr X d MCh_write 13 [l0, l1, l2, .int x] st h = Rr X d MCh_write 14 [l0, l1, l2, .int x] (.int x :: st) h := Rr_nx d_MCh_write_13 rfl
theorem r_MCh_write_14 {l1 l2 l3 : Value} {x : Nat} : Rr X d MCh_write 14 [.ref x, l1, l2, l3] st h = Rr X d MCh_write 15 [.ref x, l1, l2, l3] (.ref x :: st) h := Rr_nx d_MCh_write_14 rfl
theorem r_MCh_write_15 {a : Nat} (hq : (qR a 1 0).isSome = true) : Rr X d MCh_write 15 L (.ref a :: st) (Wd mu la ro et) = Rr X d MCh_write 18 L (.ref (qRd a 1 0) :: st) (Wd mu la ro et) := R_gfR d_MCh_write_15 ff_1_9 hq
theorem r_MCh_write_18 {a : Nat} (hq : (qL a).isSome = true) : Rr X d MCh_write 18 L (.ref a :: st) (Wd mu la ro et) = Rr X d MCh_write 19 L (.int (Int32.ofNat (qLd a)) :: st) (Wd mu la ro et) := R_lenW d_MCh_write_18 hq
theorem r_MCh_write_19 {x y : Int32} : Rr X d MCh_write 19 L (.int y :: .int x :: st) h = if y ≤ x then Rr X d MCh_write 29 L st h else Rr X d MCh_write 22 L st h := R_ic_ge d_MCh_write_19 (by decide)
theorem r_MCh_write_22 {l1 l2 l3 : Value} {x : Nat} : Rr X d MCh_write 22 [.ref x, l1, l2, l3] st h = Rr X d MCh_write 23 [.ref x, l1, l2, l3] (.ref x :: st) h := Rr_nx d_MCh_write_22 rfl
theorem r_MCh_write_23 {a : Nat} (hq : (qR a 1 0).isSome = true) : Rr X d MCh_write 23 L (.ref a :: st) (Wd mu la ro et) = Rr X d MCh_write 26 L (.ref (qRd a 1 0) :: st) (Wd mu la ro et) := R_gfR d_MCh_write_23 ff_1_9 hq
theorem r_MCh_write_26 {l0 l1 l2 : Value} {x : Int32} : Rr X d MCh_write 26 [l0, l1, l2, .int x] st h = Rr X d MCh_write 27 [l0, l1, l2, .int x] (.int x :: st) h := Rr_nx d_MCh_write_26 rfl
theorem r_MCh_write_27 {l0 l1 l3 : Value} {x : Int32} : Rr X d MCh_write 27 [l0, l1, .int x, l3] st h = Rr X d MCh_write 28 [l0, l1, .int x, l3] (.int x :: st) h := Rr_nx d_MCh_write_27 rfl
theorem r_MCh_write_28 {a : Nat} {j x : Int32} (hq : (qA a 0).isSome = true) : Rr X d MCh_write 28 L (.int x :: .int j :: .ref a :: st) (Wd mu la ro et) = if j < 0 ∨ qAd a 0 ≤ j.toNatClampNeg then none else Rr X d MCh_write 29 L st (Wd (up2 mu a j.toNatClampNeg (x)) la ro et) := R_iasW d_MCh_write_28 hq
theorem r_MCh_write_29 : Rr X d MCh_write 29 L [] h = some (none, h) := Rr_rt d_MCh_write_29 rfl
theorem d_MCh_part_0 : decode MCh_part.2.2.1 0 = .ok (.iload_n 1, 1) := lkT_ok tk_MCh_part rfl
theorem d_MCh_part_1 : decode MCh_part.2.2.1 1 = .ok (.iconst 4, 1) := lkT_ok tk_MCh_part rfl
theorem d_MCh_part_2 : decode MCh_part.2.2.1 2 = .ok (.imul, 1) := lkT_ok tk_MCh_part rfl
theorem d_MCh_part_3 : decode MCh_part.2.2.1 3 = .ok (.iload_n 2, 1) := lkT_ok tk_MCh_part rfl
theorem d_MCh_part_4 : decode MCh_part.2.2.1 4 = .ok (.iadd, 1) := lkT_ok tk_MCh_part rfl
theorem d_MCh_part_5 : decode MCh_part.2.2.1 5 = .ok (.istore_n 3, 1) := lkT_ok tk_MCh_part rfl
theorem d_MCh_part_6 : decode MCh_part.2.2.1 6 = .ok (.iload_n 3, 1) := lkT_ok tk_MCh_part rfl
theorem d_MCh_part_7 : decode MCh_part.2.2.1 7 = .ok (.ifCond .lt 21, 3) := lkT_ok tk_MCh_part rfl
theorem d_MCh_part_10 : decode MCh_part.2.2.1 10 = .ok (.iload_n 3, 1) := lkT_ok tk_MCh_part rfl
theorem d_MCh_part_11 : decode MCh_part.2.2.1 11 = .ok (.aload_n 0, 1) := lkT_ok tk_MCh_part rfl
theorem d_MCh_part_12 : decode MCh_part.2.2.1 12 = .ok (.getfield 9, 3) := lkT_ok tk_MCh_part rfl
theorem d_MCh_part_15 : decode MCh_part.2.2.1 15 = .ok (.arraylength, 1) := lkT_ok tk_MCh_part rfl
theorem d_MCh_part_16 : decode MCh_part.2.2.1 16 = .ok (.if_icmp .ge 12, 3) := lkT_ok tk_MCh_part rfl
theorem d_MCh_part_19 : decode MCh_part.2.2.1 19 = .ok (.aload_n 0, 1) := lkT_ok tk_MCh_part rfl
theorem d_MCh_part_20 : decode MCh_part.2.2.1 20 = .ok (.getfield 9, 3) := lkT_ok tk_MCh_part rfl
theorem d_MCh_part_23 : decode MCh_part.2.2.1 23 = .ok (.iload_n 3, 1) := lkT_ok tk_MCh_part rfl
theorem d_MCh_part_24 : decode MCh_part.2.2.1 24 = .ok (.iaload, 1) := lkT_ok tk_MCh_part rfl
theorem d_MCh_part_25 : decode MCh_part.2.2.1 25 = .ok (.goto 4, 3) := lkT_ok tk_MCh_part rfl
theorem d_MCh_part_28 : decode MCh_part.2.2.1 28 = .ok (.iconst 0, 1) := lkT_ok tk_MCh_part rfl
theorem d_MCh_part_29 : decode MCh_part.2.2.1 29 = .ok (.ireturn, 1) := lkT_ok tk_MCh_part rfl
theorem r_MCh_part_0 {l0 l2 l3 : Value} {x : Int32} : Rr X d MCh_part 0 [l0, .int x, l2, l3] st h = Rr X d MCh_part 1 [l0, .int x, l2, l3] (.int x :: st) h := Rr_nx d_MCh_part_0 rfl
theorem r_MCh_part_1 : Rr X d MCh_part 1 L st h = Rr X d MCh_part 2 L (.int (4) :: st) h := Rr_nx d_MCh_part_1 rfl
theorem r_MCh_part_2 {x y : Int32} : Rr X d MCh_part 2 L (.int y :: .int x :: st) h = Rr X d MCh_part 3 L (.int (x * y) :: st) h := Rr_nx d_MCh_part_2 rfl
theorem r_MCh_part_3 {l0 l1 l3 : Value} {x : Int32} : Rr X d MCh_part 3 [l0, l1, .int x, l3] st h = Rr X d MCh_part 4 [l0, l1, .int x, l3] (.int x :: st) h := Rr_nx d_MCh_part_3 rfl
theorem r_MCh_part_4 {x y : Int32} : Rr X d MCh_part 4 L (.int y :: .int x :: st) h = Rr X d MCh_part 5 L (.int (x + y) :: st) h := Rr_nx d_MCh_part_4 rfl
theorem r_MCh_part_5 {l0 l1 l2 l3 : Value} {x : Int32} : Rr X d MCh_part 5 [l0, l1, l2, l3] (.int x :: st) h = Rr X d MCh_part 6 (sL [l0, l1, l2, l3] 3 (.int x)) st h := Rr_nx d_MCh_part_5 rfl
theorem r_MCh_part_6 {l0 l1 l2 : Value} {x : Int32} : Rr X d MCh_part 6 [l0, l1, l2, .int x] st h = Rr X d MCh_part 7 [l0, l1, l2, .int x] (.int x :: st) h := Rr_nx d_MCh_part_6 rfl
theorem r_MCh_part_7 {x : Int32} : Rr X d MCh_part 7 L (.int x :: st) h = if x < 0 then Rr X d MCh_part 28 L st h else Rr X d MCh_part 10 L st h := R_if_lt d_MCh_part_7 (by decide)
theorem r_MCh_part_10 {l0 l1 l2 : Value} {x : Int32} : Rr X d MCh_part 10 [l0, l1, l2, .int x] st h = Rr X d MCh_part 11 [l0, l1, l2, .int x] (.int x :: st) h := Rr_nx d_MCh_part_10 rfl
theorem r_MCh_part_11 {l1 l2 l3 : Value} {x : Nat} : Rr X d MCh_part 11 [.ref x, l1, l2, l3] st h = Rr X d MCh_part 12 [.ref x, l1, l2, l3] (.ref x :: st) h := Rr_nx d_MCh_part_11 rfl
theorem r_MCh_part_12 {a : Nat} (hq : (qR a 1 0).isSome = true) : Rr X d MCh_part 12 L (.ref a :: st) (Wd mu la ro et) = Rr X d MCh_part 15 L (.ref (qRd a 1 0) :: st) (Wd mu la ro et) := R_gfR d_MCh_part_12 ff_1_9 hq
theorem r_MCh_part_15 {a : Nat} (hq : (qL a).isSome = true) : Rr X d MCh_part 15 L (.ref a :: st) (Wd mu la ro et) = Rr X d MCh_part 16 L (.int (Int32.ofNat (qLd a)) :: st) (Wd mu la ro et) := R_lenW d_MCh_part_15 hq
theorem r_MCh_part_16 {x y : Int32} : Rr X d MCh_part 16 L (.int y :: .int x :: st) h = if y ≤ x then Rr X d MCh_part 28 L st h else Rr X d MCh_part 19 L st h := R_ic_ge d_MCh_part_16 (by decide)
theorem r_MCh_part_19 {l1 l2 l3 : Value} {x : Nat} : Rr X d MCh_part 19 [.ref x, l1, l2, l3] st h = Rr X d MCh_part 20 [.ref x, l1, l2, l3] (.ref x :: st) h := Rr_nx d_MCh_part_19 rfl
theorem r_MCh_part_20 {a : Nat} (hq : (qR a 1 0).isSome = true) : Rr X d MCh_part 20 L (.ref a :: st) (Wd mu la ro et) = Rr X d MCh_part 23 L (.ref (qRd a 1 0) :: st) (Wd mu la ro et) := R_gfR d_MCh_part_20 ff_1_9 hq
theorem r_MCh_part_23 {l0 l1 l2 : Value} {x : Int32} : Rr X d MCh_part 23 [l0, l1, l2, .int x] st h = Rr X d MCh_part 24 [l0, l1, l2, .int x] (.int x :: st) h := Rr_nx d_MCh_part_23 rfl
theorem r_MCh_part_24 {a : Nat} {j : Int32} (hq : (qA a 0).isSome = true) : Rr X d MCh_part 24 L (.int j :: .ref a :: st) (Wd mu la ro et) = if j < 0 ∨ qAd a 0 ≤ j.toNatClampNeg then none else Rr X d MCh_part 25 L (.int (mu a j.toNatClampNeg) :: st) (Wd mu la ro et) := R_ialW d_MCh_part_24 hq
theorem r_MCh_part_25 : Rr X d MCh_part 25 L st h = Rr X d MCh_part 29 L st h := R_goto d_MCh_part_25 (by decide)
theorem r_MCh_part_28 : Rr X d MCh_part 28 L st h = Rr X d MCh_part 29 L (.int (0) :: st) h := Rr_nx d_MCh_part_28 rfl
theorem r_MCh_part_29 {x : Int32} : Rr X d MCh_part 29 L [.int x] h = some (some (.int x), h) := R_ir d_MCh_part_29 rfl
end RULES
