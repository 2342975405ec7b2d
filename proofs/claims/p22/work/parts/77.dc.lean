section RULES
variable {X : Tok} {d : Nat} {st L : List Value} {h : Hp} {mu : Nat → Nat → Int32} {la : Nat → Nat → Int64} {ro : Nat → Nat → Option Nat} {et : Nat → Option va_E}
theorem d_MTo_row_0 : decode MTo_row.2.2.1 0 = .ok (.aload_n 0, 1) := lkT_ok tk_MTo_row rfl
theorem d_MTo_row_1 : decode MTo_row.2.2.1 1 = .ok (.iload_n 1, 1) := lkT_ok tk_MTo_row rfl
theorem d_MTo_row_2 : decode MTo_row.2.2.1 2 = .ok (.invokevirtual 212, 3) := lkT_ok tk_MTo_row rfl
theorem d_MTo_row_5 : decode MTo_row.2.2.1 5 = .ok (.astore 4, 2) := lkT_ok tk_MTo_row rfl
theorem d_MTo_row_7 : decode MTo_row.2.2.1 7 = .ok (.aload 4, 2) := lkT_ok tk_MTo_row rfl
theorem d_MTo_row_9 : decode MTo_row.2.2.1 9 = .ok (.ifnull 18, 3) := lkT_ok tk_MTo_row rfl
theorem d_MTo_row_12 : decode MTo_row.2.2.1 12 = .ok (.iload_n 2, 1) := lkT_ok tk_MTo_row rfl
theorem d_MTo_row_13 : decode MTo_row.2.2.1 13 = .ok (.iconst 0, 1) := lkT_ok tk_MTo_row rfl
theorem d_MTo_row_14 : decode MTo_row.2.2.1 14 = .ok (.iconst 4, 1) := lkT_ok tk_MTo_row rfl
theorem d_MTo_row_15 : decode MTo_row.2.2.1 15 = .ok (.invokestatic 72, 3) := lkT_ok tk_MTo_row rfl
theorem d_MTo_row_18 : decode MTo_row.2.2.1 18 = .ok (.ifCond .eq 9, 3) := lkT_ok tk_MTo_row rfl
theorem d_MTo_row_21 : decode MTo_row.2.2.1 21 = .ok (.iload_n 3, 1) := lkT_ok tk_MTo_row rfl
theorem d_MTo_row_22 : decode MTo_row.2.2.1 22 = .ok (.bipush 60, 2) := lkT_ok tk_MTo_row rfl
theorem d_MTo_row_24 : decode MTo_row.2.2.1 24 = .ok (.if_icmp .le 5, 3) := lkT_ok tk_MTo_row rfl
theorem d_MTo_row_27 : decode MTo_row.2.2.1 27 = .ok (.iconst (-1), 1) := lkT_ok tk_MTo_row rfl
theorem d_MTo_row_28 : decode MTo_row.2.2.1 28 = .ok (.ireturn, 1) := lkT_ok tk_MTo_row rfl
theorem d_MTo_row_29 : decode MTo_row.2.2.1 29 = .ok (.iload_n 3, 1) := lkT_ok tk_MTo_row rfl
theorem d_MTo_row_30 : decode MTo_row.2.2.1 30 = .ok (.ifCond .ge 6, 3) := lkT_ok tk_MTo_row rfl
theorem d_MTo_row_33 : decode MTo_row.2.2.1 33 = .ok (.bipush (-14), 2) := lkT_ok tk_MTo_row rfl
theorem d_MTo_row_35 : decode MTo_row.2.2.1 35 = .ok (.ireturn, 1) := lkT_ok tk_MTo_row rfl
theorem d_MTo_row_36 : decode MTo_row.2.2.1 36 = .ok (.aload 4, 2) := lkT_ok tk_MTo_row rfl
theorem d_MTo_row_38 : decode MTo_row.2.2.1 38 = .ok (.iload_n 2, 1) := lkT_ok tk_MTo_row rfl
theorem d_MTo_row_39 : decode MTo_row.2.2.1 39 = .ok (.iload_n 3, 1) := lkT_ok tk_MTo_row rfl
theorem d_MTo_row_40 : decode MTo_row.2.2.1 40 = .ok (.invokevirtual 258, 3) := lkT_ok tk_MTo_row rfl
theorem d_MTo_row_43 : decode MTo_row.2.2.1 43 = .ok (.iconst 1, 1) := lkT_ok tk_MTo_row rfl
theorem d_MTo_row_44 : decode MTo_row.2.2.1 44 = .ok (.ireturn, 1) := lkT_ok tk_MTo_row rfl
theorem r_MTo_row_0 {l1 l2 l3 l4 : Value} {x : Nat} : Rr X d MTo_row 0 [.ref x, l1, l2, l3, l4] st h = Rr X d MTo_row 1 [.ref x, l1, l2, l3, l4] (.ref x :: st) h := Rr_nx d_MTo_row_0 rfl
theorem r_MTo_row_1 {l0 l2 l3 l4 : Value} {x : Int32} : Rr X d MTo_row 1 [l0, .int x, l2, l3, l4] st h = Rr X d MTo_row 2 [l0, .int x, l2, l3, l4] (.int x :: st) h := Rr_nx d_MTo_row_1 rfl
theorem r_MTo_row_2 {y0 : Int32} {a : Nat} (hO : qO a 9 = true) (hc : ckS st = true) : Rr X (d + 1) MTo_row 2 L (.int y0 :: .ref a :: st) (Wd mu la ro et) = (Rr X d MTo_shelfAt 0 [.ref a, .int y0] [] (Wd mu la ro et)).bind fun q => Rr X (d + 1) MTo_row 5 L (psh q.1 st) q.2 := R_iv (av := [.int y0]) d_MTo_row_2 fc_9_212 hO (ckS_le hc) rfl (Nat.le_of_ble_eq_true rfl) (Nat.le_of_ble_eq_true rfl)
theorem r_MTo_row_5 {l0 l1 l2 l3 l4 : Value} {x : Nat} : Rr X d MTo_row 5 [l0, l1, l2, l3, l4] (.ref x :: st) h = Rr X d MTo_row 7 (sL [l0, l1, l2, l3, l4] 4 (.ref x)) st h := Rr_nx d_MTo_row_5 rfl
theorem r_MTo_row_5n {l0 l1 l2 l3 l4 : Value} : Rr X d MTo_row 5 [l0, l1, l2, l3, l4] (.null :: st) h = Rr X d MTo_row 7 (sL [l0, l1, l2, l3, l4] 4 .null) st h := Rr_nx d_MTo_row_5 rfl
theorem r_MTo_row_7 {l0 l1 l2 l3 : Value} {x : Nat} : Rr X d MTo_row 7 [l0, l1, l2, l3, .ref x] st h = Rr X d MTo_row 9 [l0, l1, l2, l3, .ref x] (.ref x :: st) h := Rr_nx d_MTo_row_7 rfl
theorem r_MTo_row_7n {l0 l1 l2 l3 : Value} : Rr X d MTo_row 7 [l0, l1, l2, l3, .null] st h = Rr X d MTo_row 9 [l0, l1, l2, l3, .null] (.null :: st) h := Rr_nx d_MTo_row_7 rfl
theorem r_MTo_row_9 {x : Nat} : Rr X d MTo_row 9 L (.ref x :: st) h = Rr X d MTo_row 12 L st h := R_nul1 d_MTo_row_9
theorem r_MTo_row_9n : Rr X d MTo_row 9 L (.null :: st) h = Rr X d MTo_row 27 L st h := R_nul0 d_MTo_row_9 (by decide)
theorem r_MTo_row_12 {l0 l1 l3 l4 : Value} {x : Int32} : Rr X d MTo_row 12 [l0, l1, .int x, l3, l4] st h = Rr X d MTo_row 13 [l0, l1, .int x, l3, l4] (.int x :: st) h := Rr_nx d_MTo_row_12 rfl
theorem r_MTo_row_13 : Rr X d MTo_row 13 L st h = Rr X d MTo_row 14 L (.int (0) :: st) h := Rr_nx d_MTo_row_13 rfl
theorem r_MTo_row_14 : Rr X d MTo_row 14 L st h = Rr X d MTo_row 15 L (.int (4) :: st) h := Rr_nx d_MTo_row_14 rfl
theorem r_MTo_row_15 {y0 : Int32} {y1 : Int32} {y2 : Int32} (hc : ckS st = true) : Rr X (d + 1) MTo_row 15 L (.int y2 :: .int y1 :: .int y0 :: st) h = (Rr X d MTo_isWithin 0 [.int y0, .int y1, .int y2] [] h).bind fun q => Rr X (d + 1) MTo_row 18 L (psh q.1 st) q.2 := R_is (av := [.int y2, .int y1, .int y0]) d_MTo_row_15 (Or.inl fc_9_72) (ckS_le hc) rfl (Nat.le_of_ble_eq_true rfl) (Nat.le_of_ble_eq_true rfl)
theorem r_MTo_row_18 {x : Int32} : Rr X d MTo_row 18 L (.int x :: st) h = if x = 0 then Rr X d MTo_row 27 L st h else Rr X d MTo_row 21 L st h := R_if_eq d_MTo_row_18 (by decide)
theorem r_MTo_row_21 {l0 l1 l2 l4 : Value} {x : Int32} : Rr X d MTo_row 21 [l0, l1, l2, .int x, l4] st h = Rr X d MTo_row 22 [l0, l1, l2, .int x, l4] (.int x :: st) h := Rr_nx d_MTo_row_21 rfl
theorem r_MTo_row_22 : Rr X d MTo_row 22 L st h = Rr X d MTo_row 24 L (.int (60) :: st) h := Rr_nx d_MTo_row_22 rfl
theorem r_MTo_row_24 {x y : Int32} : Rr X d MTo_row 24 L (.int y :: .int x :: st) h = if x ≤ y then Rr X d MTo_row 29 L st h else Rr X d MTo_row 27 L st h := R_ic_le d_MTo_row_24 (by decide)
theorem r_MTo_row_27 : Rr X d MTo_row 27 L st h = Rr X d MTo_row 28 L (.int (-1) :: st) h := Rr_nx d_MTo_row_27 rfl
theorem r_MTo_row_28 {x : Int32} : Rr X d MTo_row 28 L [.int x] h = some (some (.int x), h) := R_ir d_MTo_row_28 rfl
theorem r_MTo_row_29 {l0 l1 l2 l4 : Value} {x : Int32} : Rr X d MTo_row 29 [l0, l1, l2, .int x, l4] st h = Rr X d MTo_row 30 [l0, l1, l2, .int x, l4] (.int x :: st) h := Rr_nx d_MTo_row_29 rfl
theorem r_MTo_row_30 {x : Int32} : Rr X d MTo_row 30 L (.int x :: st) h = if 0 ≤ x then Rr X d MTo_row 36 L st h else Rr X d MTo_row 33 L st h := R_if_ge d_MTo_row_30 (by decide)
theorem r_MTo_row_33 : Rr X d MTo_row 33 L st h = Rr X d MTo_row 35 L (.int (-14) :: st) h := Rr_nx d_MTo_row_33 rfl
theorem r_MTo_row_35 {x : Int32} : Rr X d MTo_row 35 L [.int x] h = some (some (.int x), h) := R_ir d_MTo_row_35 rfl
theorem r_MTo_row_36 {l0 l1 l2 l3 : Value} {x : Nat} : Rr X d MTo_row 36 [l0, l1, l2, l3, .ref x] st h = Rr X d MTo_row 38 [l0, l1, l2, l3, .ref x] (.ref x :: st) h := Rr_nx d_MTo_row_36 rfl
theorem r_MTo_row_36n {l0 l1 l2 l3 : Value} : Rr X d MTo_row 36 [l0, l1, l2, l3, .null] st h = Rr X d MTo_row 38 [l0, l1, l2, l3, .null] (.null :: st) h := Rr_nx d_MTo_row_36 rfl
theorem r_MTo_row_38 {l0 l1 l3 l4 : Value} {x : Int32} : Rr X d MTo_row 38 [l0, l1, .int x, l3, l4] st h = Rr X d MTo_row 39 [l0, l1, .int x, l3, l4] (.int x :: st) h := Rr_nx d_MTo_row_38 rfl
theorem r_MTo_row_39 {l0 l1 l2 l4 : Value} {x : Int32} : Rr X d MTo_row 39 [l0, l1, l2, .int x, l4] st h = Rr X d MTo_row 40 [l0, l1, l2, .int x, l4] (.int x :: st) h := Rr_nx d_MTo_row_39 rfl
theorem fc_9_258 : fC 9 258 = some (0, 6, 2, MSh_holdRow) := rfl
theorem r_MTo_row_40 {y0 : Int32} {y1 : Int32} {a : Nat} (hO : qO a 6 = true) (hc : ckS st = true) : Rr X (d + 1) MTo_row 40 L (.int y1 :: .int y0 :: .ref a :: st) (Wd mu la ro et) = (Rr X d MSh_holdRow 0 [.ref a, .int y0, .int y1, mkU] [] (Wd mu la ro et)).bind fun q => Rr X (d + 1) MTo_row 43 L (psh q.1 st) q.2 := R_iv (av := [.int y1, .int y0]) d_MTo_row_40 fc_9_258 hO (ckS_le hc) rfl (Nat.le_of_ble_eq_true rfl) (Nat.le_of_ble_eq_true rfl)
theorem r_MTo_row_43 : Rr X d MTo_row 43 L st h = Rr X d MTo_row 44 L (.int (1) :: st) h := Rr_nx d_MTo_row_43 rfl
theorem r_MTo_row_44 {x : Int32} : Rr X d MTo_row 44 L [.int x] h = some (some (.int x), h) := R_ir d_MTo_row_44 rfl
theorem d_MSh_holdRow_0 : decode MSh_holdRow.2.2.1 0 = .ok (.aload_n 0, 1) := lkT_ok tk_MSh_holdRow rfl
theorem d_MSh_holdRow_1 : decode MSh_holdRow.2.2.1 1 = .ok (.iconst (-1), 1) := lkT_ok tk_MSh_holdRow rfl
theorem d_MSh_holdRow_2 : decode MSh_holdRow.2.2.1 2 = .ok (.putfield 15, 3) := lkT_ok tk_MSh_holdRow rfl
theorem d_MSh_holdRow_5 : decode MSh_holdRow.2.2.1 5 = .ok (.aload_n 0, 1) := lkT_ok tk_MSh_holdRow rfl
theorem d_MSh_holdRow_6 : decode MSh_holdRow.2.2.1 6 = .ok (.iload_n 1, 1) := lkT_ok tk_MSh_holdRow rfl
theorem d_MSh_holdRow_7 : decode MSh_holdRow.2.2.1 7 = .ok (.putfield 19, 3) := lkT_ok tk_MSh_holdRow rfl
theorem d_MSh_holdRow_10 : decode MSh_holdRow.2.2.1 10 = .ok (.aload_n 0, 1) := lkT_ok tk_MSh_holdRow rfl
theorem d_MSh_holdRow_11 : decode MSh_holdRow.2.2.1 11 = .ok (.iload_n 2, 1) := lkT_ok tk_MSh_holdRow rfl
theorem d_MSh_holdRow_12 : decode MSh_holdRow.2.2.1 12 = .ok (.putfield 22, 3) := lkT_ok tk_MSh_holdRow rfl
theorem d_MSh_holdRow_15 : decode MSh_holdRow.2.2.1 15 = .ok (.iconst 0, 1) := lkT_ok tk_MSh_holdRow rfl
theorem d_MSh_holdRow_16 : decode MSh_holdRow.2.2.1 16 = .ok (.istore_n 3, 1) := lkT_ok tk_MSh_holdRow rfl
theorem d_MSh_holdRow_17 : decode MSh_holdRow.2.2.1 17 = .ok (.iload_n 3, 1) := lkT_ok tk_MSh_holdRow rfl
theorem d_MSh_holdRow_18 : decode MSh_holdRow.2.2.1 18 = .ok (.iload_n 2, 1) := lkT_ok tk_MSh_holdRow rfl
theorem d_MSh_holdRow_19 : decode MSh_holdRow.2.2.1 19 = .ok (.if_icmp .ge 25, 3) := lkT_ok tk_MSh_holdRow rfl
theorem d_MSh_holdRow_22 : decode MSh_holdRow.2.2.1 22 = .ok (.iload_n 3, 1) := lkT_ok tk_MSh_holdRow rfl
theorem d_MSh_holdRow_23 : decode MSh_holdRow.2.2.1 23 = .ok (.aload_n 0, 1) := lkT_ok tk_MSh_holdRow rfl
theorem d_MSh_holdRow_24 : decode MSh_holdRow.2.2.1 24 = .ok (.getfield 11, 3) := lkT_ok tk_MSh_holdRow rfl
theorem d_MSh_holdRow_27 : decode MSh_holdRow.2.2.1 27 = .ok (.arraylength, 1) := lkT_ok tk_MSh_holdRow rfl
theorem d_MSh_holdRow_28 : decode MSh_holdRow.2.2.1 28 = .ok (.if_icmp .ge 16, 3) := lkT_ok tk_MSh_holdRow rfl
theorem d_MSh_holdRow_31 : decode MSh_holdRow.2.2.1 31 = .ok (.aload_n 0, 1) := lkT_ok tk_MSh_holdRow rfl
theorem d_MSh_holdRow_32 : decode MSh_holdRow.2.2.1 32 = .ok (.getfield 11, 3) := lkT_ok tk_MSh_holdRow rfl
theorem d_MSh_holdRow_35 : decode MSh_holdRow.2.2.1 35 = .ok (.iload_n 3, 1) := lkT_ok tk_MSh_holdRow rfl
theorem d_MSh_holdRow_36 : decode MSh_holdRow.2.2.1 36 = .ok (.lconst 0, 1) := lkT_ok tk_MSh_holdRow rfl
theorem d_MSh_holdRow_37 : decode MSh_holdRow.2.2.1 37 = .ok (.lastore, 1) := lkT_ok tk_MSh_holdRow rfl
theorem d_MSh_holdRow_38 : decode MSh_holdRow.2.2.1 38 = .ok (.iinc 3 1, 3) := lkT_ok tk_MSh_holdRow rfl
theorem d_MSh_holdRow_41 : decode MSh_holdRow.2.2.1 41 = .ok (.goto (-24), 3) := lkT_ok tk_MSh_holdRow rfl
theorem d_MSh_holdRow_44 : decode MSh_holdRow.2.2.1 44 = .ok (.return_, 1) := lkT_ok tk_MSh_holdRow rfl
theorem r_MSh_holdRow_0 {l1 l2 l3 : Value} {x : Nat} : Rr X d MSh_holdRow 0 [.ref x, l1, l2, l3] st h = Rr X d MSh_holdRow 1 [.ref x, l1, l2, l3] (.ref x :: st) h := Rr_nx d_MSh_holdRow_0 rfl
theorem r_MSh_holdRow_1 : Rr X d MSh_holdRow 1 L st h = Rr X d MSh_holdRow 2 L (.int (-1) :: st) h := Rr_nx d_MSh_holdRow_1 rfl
theorem r_MSh_holdRow_2 {a : Nat} {x : Int32} (hq : qI a 6 1 = true) : Rr X d MSh_holdRow 2 L (.int x :: .ref a :: st) (Wd mu la ro et) = Rr X d MSh_holdRow 5 L st (Wd (up2 mu a 1 x) la ro et) := R_pfI d_MSh_holdRow_2 ff_6_15 hq
theorem r_MSh_holdRow_5 {l1 l2 l3 : Value} {x : Nat} : Rr X d MSh_holdRow 5 [.ref x, l1, l2, l3] st h = Rr X d MSh_holdRow 6 [.ref x, l1, l2, l3] (.ref x :: st) h := Rr_nx d_MSh_holdRow_5 rfl
theorem r_MSh_holdRow_6 {l0 l2 l3 : Value} {x : Int32} : Rr X d MSh_holdRow 6 [l0, .int x, l2, l3] st h = Rr X d MSh_holdRow 7 [l0, .int x, l2, l3] (.int x :: st) h := Rr_nx d_MSh_holdRow_6 rfl
theorem r_MSh_holdRow_7 {a : Nat} {x : Int32} (hq : qI a 6 2 = true) : Rr X d MSh_holdRow 7 L (.int x :: .ref a :: st) (Wd mu la ro et) = Rr X d MSh_holdRow 10 L st (Wd (up2 mu a 2 x) la ro et) := R_pfI d_MSh_holdRow_7 ff_6_19 hq
theorem r_MSh_holdRow_10 {l1 l2 l3 : Value} {x : Nat} : Rr X d MSh_holdRow 10 [.ref x, l1, l2, l3] st h = Rr X d MSh_holdRow 11 [.ref x, l1, l2, l3] (.ref x :: st) h := Rr_nx d_MSh_holdRow_10 rfl
theorem r_MSh_holdRow_11 {l0 l1 l3 : Value} {x : Int32} : Rr X d MSh_holdRow 11 [l0, l1, .int x, l3] st h = Rr X d MSh_holdRow 12 [l0, l1, .int x, l3] (.int x :: st) h := Rr_nx d_MSh_holdRow_11 rfl
theorem r_MSh_holdRow_12 {a : Nat} {x : Int32} (hq : qI a 6 3 = true) : Rr X d MSh_holdRow 12 L (.int x :: .ref a :: st) (Wd mu la ro et) = Rr X d MSh_holdRow 15 L st (Wd (up2 mu a 3 x) la ro et) := R_pfI d_MSh_holdRow_12 ff_6_22 hq
theorem r_MSh_holdRow_15 : Rr X d MSh_holdRow 15 L st h = Rr X d MSh_holdRow 16 L (.int (0) :: st) h := Rr_nx d_MSh_holdRow_15 rfl
theorem r_MSh_holdRow_16 {l0 l1 l2 l3 : Value} {x : Int32} : Rr X d MSh_holdRow 16 [l0, l1, l2, l3] (.int x :: st) h = Rr X d MSh_holdRow 17 (sL [l0, l1, l2, l3] 3 (.int x)) st h := Rr_nx d_MSh_holdRow_16 rfl
theorem r_MSh_holdRow_17 {l0 l1 l2 : Value} {x : Int32} : Rr X d MSh_holdRow 17 [l0, l1, l2, .int x] st h = Rr X d MSh_holdRow 18 [l0, l1, l2, .int x] (.int x :: st) h := Rr_nx d_MSh_holdRow_17 rfl
theorem r_MSh_holdRow_18 {l0 l1 l3 : Value} {x : Int32} : Rr X d MSh_holdRow 18 [l0, l1, .int x, l3] st h = Rr X d MSh_holdRow 19 [l0, l1, .int x, l3] (.int x :: st) h := Rr_nx d_MSh_holdRow_18 rfl
theorem r_MSh_holdRow_19 {x y : Int32} : Rr X d MSh_holdRow 19 L (.int y :: .int x :: st) h = if y ≤ x then Rr X d MSh_holdRow 44 L st h else Rr X d MSh_holdRow 22 L st h := R_ic_ge d_MSh_holdRow_19 (by decide)
theorem r_MSh_holdRow_22 {l0 l1 l2 : Value} {x : Int32} : Rr X d MSh_holdRow 22 [l0, l1, l2, .int x] st h = Rr X d MSh_holdRow 23 [l0, l1, l2, .int x] (.int x :: st) h := Rr_nx d_MSh_holdRow_22 rfl
theorem r_MSh_holdRow_23 {l1 l2 l3 : Value} {x : Nat} : Rr X d MSh_holdRow 23 [.ref x, l1, l2, l3] st h = Rr X d MSh_holdRow 24 [.ref x, l1, l2, l3] (.ref x :: st) h := Rr_nx d_MSh_holdRow_23 rfl
theorem ff_6_11 : fF 6 11 = some (6, 0, 1, 1) := rfl
theorem r_MSh_holdRow_24 {a : Nat} (hq : (qR a 6 0).isSome = true) : Rr X d MSh_holdRow 24 L (.ref a :: st) (Wd mu la ro et) = Rr X d MSh_holdRow 27 L (.ref (qRd a 6 0) :: st) (Wd mu la ro et) := R_gfR d_MSh_holdRow_24 ff_6_11 hq
theorem r_MSh_holdRow_27 {a : Nat} (hq : (qL a).isSome = true) : Rr X d MSh_holdRow 27 L (.ref a :: st) (Wd mu la ro et) = Rr X d MSh_holdRow 28 L (.int (Int32.ofNat (qLd a)) :: st) (Wd mu la ro et) := R_lenW d_MSh_holdRow_27 hq
theorem r_MSh_holdRow_28 {x y : Int32} : Rr X d MSh_holdRow 28 L (.int y :: .int x :: st) h = if y ≤ x then Rr X d MSh_holdRow 44 L st h else Rr X d MSh_holdRow 31 L st h := R_ic_ge d_MSh_holdRow_28 (by decide)
theorem r_MSh_holdRow_31 {l1 l2 l3 : Value} {x : Nat} : Rr X d MSh_holdRow 31 [.ref x, l1, l2, l3] st h = Rr X d MSh_holdRow 32 [.ref x, l1, l2, l3] (.ref x :: st) h := Rr_nx d_MSh_holdRow_31 rfl
theorem r_MSh_holdRow_32 {a : Nat} (hq : (qR a 6 0).isSome = true) : Rr X d MSh_holdRow 32 L (.ref a :: st) (Wd mu la ro et) = Rr X d MSh_holdRow 35 L (.ref (qRd a 6 0) :: st) (Wd mu la ro et) := R_gfR d_MSh_holdRow_32 ff_6_11 hq
theorem r_MSh_holdRow_35 {l0 l1 l2 : Value} {x : Int32} : Rr X d MSh_holdRow 35 [l0, l1, l2, .int x] st h = Rr X d MSh_holdRow 36 [l0, l1, l2, .int x] (.int x :: st) h := Rr_nx d_MSh_holdRow_35 rfl
theorem r_MSh_holdRow_36 : Rr X d MSh_holdRow 36 L st h = Rr X d MSh_holdRow 37 L (.long 0 :: st) h := Rr_nx d_MSh_holdRow_36 rfl
theorem r_MSh_holdRow_37 {a : Nat} {j : Int32} {x : Int64} (hq : (qJ a).isSome = true) : Rr X d MSh_holdRow 37 L (.long x :: .int j :: .ref a :: st) (Wd mu la ro et) = if j < 0 ∨ qJd a ≤ j.toNatClampNeg then none else Rr X d MSh_holdRow 38 L st (Wd mu (upJ la a j.toNatClampNeg x) ro et) := R_lasW d_MSh_holdRow_37 hq
theorem r_MSh_holdRow_38 {l0 l1 l2 : Value} {x : Int32} : Rr X d MSh_holdRow 38 [l0, l1, l2, .int x] st h = Rr X d MSh_holdRow 41 (sL [l0, l1, l2, .int x] 3 (.int (x + (1)))) st h := Rr_nx d_MSh_holdRow_38 rfl
theorem r_MSh_holdRow_41 : Rr X d MSh_holdRow 41 L st h = Rr X d MSh_holdRow 17 L st h := R_goto d_MSh_holdRow_41 (by decide)
theorem r_MSh_holdRow_44 : Rr X d MSh_holdRow 44 L [] h = some (none, h) := Rr_rt d_MSh_holdRow_44 rfl
theorem d_MRm_row_0 : decode MRm_row.2.2.1 0 = .ok (.iload_n 1, 1) := lkT_ok tk_MRm_row rfl
theorem d_MRm_row_1 : decode MRm_row.2.2.1 1 = .ok (.invokestatic 348, 3) := lkT_ok tk_MRm_row rfl
theorem d_MRm_row_4 : decode MRm_row.2.2.1 4 = .ok (.ifCond .eq 18, 3) := lkT_ok tk_MRm_row rfl
theorem d_MRm_row_7 : decode MRm_row.2.2.1 7 = .ok (.iload_n 2, 1) := lkT_ok tk_MRm_row rfl
theorem d_MRm_row_8 : decode MRm_row.2.2.1 8 = .ok (.iconst 0, 1) := lkT_ok tk_MRm_row rfl
theorem d_MRm_row_9 : decode MRm_row.2.2.1 9 = .ok (.iconst 4, 1) := lkT_ok tk_MRm_row rfl
theorem d_MRm_row_10 : decode MRm_row.2.2.1 10 = .ok (.invokestatic 107, 3) := lkT_ok tk_MRm_row rfl
theorem d_MRm_row_13 : decode MRm_row.2.2.1 13 = .ok (.ifCond .eq 9, 3) := lkT_ok tk_MRm_row rfl
theorem d_MRm_row_16 : decode MRm_row.2.2.1 16 = .ok (.iload_n 3, 1) := lkT_ok tk_MRm_row rfl
theorem d_MRm_row_17 : decode MRm_row.2.2.1 17 = .ok (.bipush 60, 2) := lkT_ok tk_MRm_row rfl
theorem d_MRm_row_19 : decode MRm_row.2.2.1 19 = .ok (.if_icmp .le 5, 3) := lkT_ok tk_MRm_row rfl
theorem d_MRm_row_22 : decode MRm_row.2.2.1 22 = .ok (.iconst (-1), 1) := lkT_ok tk_MRm_row rfl
theorem d_MRm_row_23 : decode MRm_row.2.2.1 23 = .ok (.ireturn, 1) := lkT_ok tk_MRm_row rfl
theorem d_MRm_row_24 : decode MRm_row.2.2.1 24 = .ok (.iload_n 3, 1) := lkT_ok tk_MRm_row rfl
theorem d_MRm_row_25 : decode MRm_row.2.2.1 25 = .ok (.ifCond .ge 6, 3) := lkT_ok tk_MRm_row rfl
theorem d_MRm_row_28 : decode MRm_row.2.2.1 28 = .ok (.bipush (-14), 2) := lkT_ok tk_MRm_row rfl
theorem d_MRm_row_30 : decode MRm_row.2.2.1 30 = .ok (.ireturn, 1) := lkT_ok tk_MRm_row rfl
theorem d_MRm_row_31 : decode MRm_row.2.2.1 31 = .ok (.aload_n 0, 1) := lkT_ok tk_MRm_row rfl
theorem d_MRm_row_32 : decode MRm_row.2.2.1 32 = .ok (.getfield 92, 3) := lkT_ok tk_MRm_row rfl
theorem d_MRm_row_35 : decode MRm_row.2.2.1 35 = .ok (.iload_n 1, 1) := lkT_ok tk_MRm_row rfl
theorem d_MRm_row_36 : decode MRm_row.2.2.1 36 = .ok (.bipush (-2), 2) := lkT_ok tk_MRm_row rfl
theorem d_MRm_row_38 : decode MRm_row.2.2.1 38 = .ok (.iload_n 2, 1) := lkT_ok tk_MRm_row rfl
theorem d_MRm_row_39 : decode MRm_row.2.2.1 39 = .ok (.isub, 1) := lkT_ok tk_MRm_row rfl
theorem d_MRm_row_40 : decode MRm_row.2.2.1 40 = .ok (.iastore, 1) := lkT_ok tk_MRm_row rfl
theorem d_MRm_row_41 : decode MRm_row.2.2.1 41 = .ok (.aload_n 0, 1) := lkT_ok tk_MRm_row rfl
theorem d_MRm_row_42 : decode MRm_row.2.2.1 42 = .ok (.getfield 95, 3) := lkT_ok tk_MRm_row rfl
theorem d_MRm_row_45 : decode MRm_row.2.2.1 45 = .ok (.iload_n 1, 1) := lkT_ok tk_MRm_row rfl
theorem d_MRm_row_46 : decode MRm_row.2.2.1 46 = .ok (.iload_n 3, 1) := lkT_ok tk_MRm_row rfl
theorem d_MRm_row_47 : decode MRm_row.2.2.1 47 = .ok (.iastore, 1) := lkT_ok tk_MRm_row rfl
theorem d_MRm_row_48 : decode MRm_row.2.2.1 48 = .ok (.bipush 60, 2) := lkT_ok tk_MRm_row rfl
theorem d_MRm_row_50 : decode MRm_row.2.2.1 50 = .ok (.iload_n 1, 1) := lkT_ok tk_MRm_row rfl
theorem d_MRm_row_51 : decode MRm_row.2.2.1 51 = .ok (.imul, 1) := lkT_ok tk_MRm_row rfl
theorem d_MRm_row_52 : decode MRm_row.2.2.1 52 = .ok (.istore 4, 2) := lkT_ok tk_MRm_row rfl
theorem d_MRm_row_54 : decode MRm_row.2.2.1 54 = .ok (.iload 4, 2) := lkT_ok tk_MRm_row rfl
theorem d_MRm_row_56 : decode MRm_row.2.2.1 56 = .ok (.bipush 60, 2) := lkT_ok tk_MRm_row rfl
theorem d_MRm_row_58 : decode MRm_row.2.2.1 58 = .ok (.iload_n 1, 1) := lkT_ok tk_MRm_row rfl
theorem d_MRm_row_59 : decode MRm_row.2.2.1 59 = .ok (.imul, 1) := lkT_ok tk_MRm_row rfl
theorem d_MRm_row_60 : decode MRm_row.2.2.1 60 = .ok (.bipush 60, 2) := lkT_ok tk_MRm_row rfl
theorem d_MRm_row_62 : decode MRm_row.2.2.1 62 = .ok (.iadd, 1) := lkT_ok tk_MRm_row rfl
theorem d_MRm_row_63 : decode MRm_row.2.2.1 63 = .ok (.if_icmp .ge 17, 3) := lkT_ok tk_MRm_row rfl
theorem d_MRm_row_66 : decode MRm_row.2.2.1 66 = .ok (.aload_n 0, 1) := lkT_ok tk_MRm_row rfl
theorem d_MRm_row_67 : decode MRm_row.2.2.1 67 = .ok (.getfield 98, 3) := lkT_ok tk_MRm_row rfl
theorem d_MRm_row_70 : decode MRm_row.2.2.1 70 = .ok (.iload 4, 2) := lkT_ok tk_MRm_row rfl
theorem d_MRm_row_72 : decode MRm_row.2.2.1 72 = .ok (.lconst 0, 1) := lkT_ok tk_MRm_row rfl
theorem d_MRm_row_73 : decode MRm_row.2.2.1 73 = .ok (.lastore, 1) := lkT_ok tk_MRm_row rfl
theorem d_MRm_row_74 : decode MRm_row.2.2.1 74 = .ok (.iinc 4 1, 3) := lkT_ok tk_MRm_row rfl
theorem d_MRm_row_77 : decode MRm_row.2.2.1 77 = .ok (.goto (-23), 3) := lkT_ok tk_MRm_row rfl
theorem d_MRm_row_80 : decode MRm_row.2.2.1 80 = .ok (.iconst 1, 1) := lkT_ok tk_MRm_row rfl
theorem d_MRm_row_81 : decode MRm_row.2.2.1 81 = .ok (.ireturn, 1) := lkT_ok tk_MRm_row rfl
theorem r_MRm_row_0 {l0 l2 l3 l4 : Value} {x : Int32} : Rr X d MRm_row 0 [l0, .int x, l2, l3, l4] st h = Rr X d MRm_row 1 [l0, .int x, l2, l3, l4] (.int x :: st) h := Rr_nx d_MRm_row_0 rfl
theorem r_MRm_row_1 {y0 : Int32} (hc : ckS st = true) : Rr X (d + 1) MRm_row 1 L (.int y0 :: st) h = (Rr X d MRm_isShelf 0 [.int y0] [] h).bind fun q => Rr X (d + 1) MRm_row 4 L (psh q.1 st) q.2 := R_is (av := [.int y0]) d_MRm_row_1 (Or.inl fc_10_348) (ckS_le hc) rfl (Nat.le_of_ble_eq_true rfl) (Nat.le_of_ble_eq_true rfl)
theorem r_MRm_row_4 {x : Int32} : Rr X d MRm_row 4 L (.int x :: st) h = if x = 0 then Rr X d MRm_row 22 L st h else Rr X d MRm_row 7 L st h := R_if_eq d_MRm_row_4 (by decide)
theorem r_MRm_row_7 {l0 l1 l3 l4 : Value} {x : Int32} : Rr X d MRm_row 7 [l0, l1, .int x, l3, l4] st h = Rr X d MRm_row 8 [l0, l1, .int x, l3, l4] (.int x :: st) h := Rr_nx d_MRm_row_7 rfl
theorem r_MRm_row_8 : Rr X d MRm_row 8 L st h = Rr X d MRm_row 9 L (.int (0) :: st) h := Rr_nx d_MRm_row_8 rfl
theorem r_MRm_row_9 : Rr X d MRm_row 9 L st h = Rr X d MRm_row 10 L (.int (4) :: st) h := Rr_nx d_MRm_row_9 rfl
theorem r_MRm_row_10 {y0 : Int32} {y1 : Int32} {y2 : Int32} (hc : ckS st = true) : Rr X (d + 1) MRm_row 10 L (.int y2 :: .int y1 :: .int y0 :: st) h = (Rr X d MRm_in 0 [.int y0, .int y1, .int y2] [] h).bind fun q => Rr X (d + 1) MRm_row 13 L (psh q.1 st) q.2 := R_is (av := [.int y2, .int y1, .int y0]) d_MRm_row_10 (Or.inl fc_10_107) (ckS_le hc) rfl (Nat.le_of_ble_eq_true rfl) (Nat.le_of_ble_eq_true rfl)
theorem r_MRm_row_13 {x : Int32} : Rr X d MRm_row 13 L (.int x :: st) h = if x = 0 then Rr X d MRm_row 22 L st h else Rr X d MRm_row 16 L st h := R_if_eq d_MRm_row_13 (by decide)
theorem r_MRm_row_16 {l0 l1 l2 l4 : Value} {x : Int32} : Rr X d MRm_row 16 [l0, l1, l2, .int x, l4] st h = Rr X d MRm_row 17 [l0, l1, l2, .int x, l4] (.int x :: st) h := Rr_nx d_MRm_row_16 rfl
theorem r_MRm_row_17 : Rr X d MRm_row 17 L st h = Rr X d MRm_row 19 L (.int (60) :: st) h := Rr_nx d_MRm_row_17 rfl
theorem r_MRm_row_19 {x y : Int32} : Rr X d MRm_row 19 L (.int y :: .int x :: st) h = if x ≤ y then Rr X d MRm_row 24 L st h else Rr X d MRm_row 22 L st h := R_ic_le d_MRm_row_19 (by decide)
theorem r_MRm_row_22 : Rr X d MRm_row 22 L st h = Rr X d MRm_row 23 L (.int (-1) :: st) h := Rr_nx d_MRm_row_22 rfl
theorem r_MRm_row_23 {x : Int32} : Rr X d MRm_row 23 L [.int x] h = some (some (.int x), h) := R_ir d_MRm_row_23 rfl
theorem r_MRm_row_24 {l0 l1 l2 l4 : Value} {x : Int32} : Rr X d MRm_row 24 [l0, l1, l2, .int x, l4] st h = Rr X d MRm_row 25 [l0, l1, l2, .int x, l4] (.int x :: st) h := Rr_nx d_MRm_row_24 rfl
theorem r_MRm_row_25 {x : Int32} : Rr X d MRm_row 25 L (.int x :: st) h = if 0 ≤ x then Rr X d MRm_row 31 L st h else Rr X d MRm_row 28 L st h := R_if_ge d_MRm_row_25 (by decide)
theorem r_MRm_row_28 : Rr X d MRm_row 28 L st h = Rr X d MRm_row 30 L (.int (-14) :: st) h := Rr_nx d_MRm_row_28 rfl
theorem r_MRm_row_30 {x : Int32} : Rr X d MRm_row 30 L [.int x] h = some (some (.int x), h) := R_ir d_MRm_row_30 rfl
theorem r_MRm_row_31 {l1 l2 l3 l4 : Value} {x : Nat} : Rr X d MRm_row 31 [.ref x, l1, l2, l3, l4] st h = Rr X d MRm_row 32 [.ref x, l1, l2, l3, l4] (.ref x :: st) h := Rr_nx d_MRm_row_31 rfl
theorem r_MRm_row_32 {a : Nat} (hq : (qR a 10 55).isSome = true) : Rr X d MRm_row 32 L (.ref a :: st) (Wd mu la ro et) = Rr X d MRm_row 35 L (.ref (qRd a 10 55) :: st) (Wd mu la ro et) := R_gfR d_MRm_row_32 ff_10_92 hq
theorem r_MRm_row_35 {l0 l2 l3 l4 : Value} {x : Int32} : Rr X d MRm_row 35 [l0, .int x, l2, l3, l4] st h = Rr X d MRm_row 36 [l0, .int x, l2, l3, l4] (.int x :: st) h := Rr_nx d_MRm_row_35 rfl
theorem r_MRm_row_36 : Rr X d MRm_row 36 L st h = Rr X d MRm_row 38 L (.int (-2) :: st) h := Rr_nx d_MRm_row_36 rfl
theorem r_MRm_row_38 {l0 l1 l3 l4 : Value} {x : Int32} : Rr X d MRm_row 38 [l0, l1, .int x, l3, l4] st h = Rr X d MRm_row 39 [l0, l1, .int x, l3, l4] (.int x :: st) h := Rr_nx d_MRm_row_38 rfl
theorem r_MRm_row_39 {x y : Int32} : Rr X d MRm_row 39 L (.int y :: .int x :: st) h = Rr X d MRm_row 40 L (.int (x - y) :: st) h := Rr_nx d_MRm_row_39 rfl
theorem r_MRm_row_40 {a : Nat} {j x : Int32} (hq : (qA a 0).isSome = true) : Rr X d MRm_row 40 L (.int x :: .int j :: .ref a :: st) (Wd mu la ro et) = if j < 0 ∨ qAd a 0 ≤ j.toNatClampNeg then none else Rr X d MRm_row 41 L st (Wd (up2 mu a j.toNatClampNeg (x)) la ro et) := R_iasW d_MRm_row_40 hq
theorem r_MRm_row_41 {l1 l2 l3 l4 : Value} {x : Nat} : Rr X d MRm_row 41 [.ref x, l1, l2, l3, l4] st h = Rr X d MRm_row 42 [.ref x, l1, l2, l3, l4] (.ref x :: st) h := Rr_nx d_MRm_row_41 rfl
theorem r_MRm_row_42 {a : Nat} (hq : (qR a 10 56).isSome = true) : Rr X d MRm_row 42 L (.ref a :: st) (Wd mu la ro et) = Rr X d MRm_row 45 L (.ref (qRd a 10 56) :: st) (Wd mu la ro et) := R_gfR d_MRm_row_42 ff_10_95 hq
theorem r_MRm_row_45 {l0 l2 l3 l4 : Value} {x : Int32} : Rr X d MRm_row 45 [l0, .int x, l2, l3, l4] st h = Rr X d MRm_row 46 [l0, .int x, l2, l3, l4] (.int x :: st) h := Rr_nx d_MRm_row_45 rfl
theorem r_MRm_row_46 {l0 l1 l2 l4 : Value} {x : Int32} : Rr X d MRm_row 46 [l0, l1, l2, .int x, l4] st h = Rr X d MRm_row 47 [l0, l1, l2, .int x, l4] (.int x :: st) h := Rr_nx d_MRm_row_46 rfl
theorem r_MRm_row_47 {a : Nat} {j x : Int32} (hq : (qA a 0).isSome = true) : Rr X d MRm_row 47 L (.int x :: .int j :: .ref a :: st) (Wd mu la ro et) = if j < 0 ∨ qAd a 0 ≤ j.toNatClampNeg then none else Rr X d MRm_row 48 L st (Wd (up2 mu a j.toNatClampNeg (x)) la ro et) := R_iasW d_MRm_row_47 hq
theorem r_MRm_row_48 : Rr X d MRm_row 48 L st h = Rr X d MRm_row 50 L (.int (60) :: st) h := Rr_nx d_MRm_row_48 rfl
theorem r_MRm_row_50 {l0 l2 l3 l4 : Value} {x : Int32} : Rr X d MRm_row 50 [l0, .int x, l2, l3, l4] st h = Rr X d MRm_row 51 [l0, .int x, l2, l3, l4] (.int x :: st) h := Rr_nx d_MRm_row_50 rfl
theorem r_MRm_row_51 {x y : Int32} : Rr X d MRm_row 51 L (.int y :: .int x :: st) h = Rr X d MRm_row 52 L (.int (x * y) :: st) h := Rr_nx d_MRm_row_51 rfl
theorem r_MRm_row_52 {l0 l1 l2 l3 l4 : Value} {x : Int32} : Rr X d MRm_row 52 [l0, l1, l2, l3, l4] (.int x :: st) h = Rr X d MRm_row 54 (sL [l0, l1, l2, l3, l4] 4 (.int x)) st h := Rr_nx d_MRm_row_52 rfl
theorem r_MRm_row_54 {l0 l1 l2 l3 : Value} {x : Int32} : Rr X d MRm_row 54 [l0, l1, l2, l3, .int x] st h = Rr X d MRm_row 56 [l0, l1, l2, l3, .int x] (.int x :: st) h := Rr_nx d_MRm_row_54 rfl
theorem r_MRm_row_56 : Rr X d MRm_row 56 L st h = Rr X d MRm_row 58 L (.int (60) :: st) h := Rr_nx d_MRm_row_56 rfl
theorem r_MRm_row_58 {l0 l2 l3 l4 : Value} {x : Int32} : Rr X d MRm_row 58 [l0, .int x, l2, l3, l4] st h = Rr X d MRm_row 59 [l0, .int x, l2, l3, l4] (.int x :: st) h := Rr_nx d_MRm_row_58 rfl
theorem r_MRm_row_59 {x y : Int32} : Rr X d MRm_row 59 L (.int y :: .int x :: st) h = Rr X d MRm_row 60 L (.int (x * y) :: st) h := Rr_nx d_MRm_row_59 rfl
theorem r_MRm_row_60 : Rr X d MRm_row 60 L st h = Rr X d MRm_row 62 L (.int (60) :: st) h := Rr_nx d_MRm_row_60 rfl
theorem r_MRm_row_62 {x y : Int32} : Rr X d MRm_row 62 L (.int y :: .int x :: st) h = Rr X d MRm_row 63 L (.int (x + y) :: st) h := Rr_nx d_MRm_row_62 rfl
theorem r_MRm_row_63 {x y : Int32} : Rr X d MRm_row 63 L (.int y :: .int x :: st) h = if y ≤ x then Rr X d MRm_row 80 L st h else Rr X d MRm_row 66 L st h := R_ic_ge d_MRm_row_63 (by decide)
theorem r_MRm_row_66 {l1 l2 l3 l4 : Value} {x : Nat} : Rr X d MRm_row 66 [.ref x, l1, l2, l3, l4] st h = Rr X d MRm_row 67 [.ref x, l1, l2, l3, l4] (.ref x :: st) h := Rr_nx d_MRm_row_66 rfl
theorem r_MRm_row_67 {a : Nat} (hq : (qR a 10 57).isSome = true) : Rr X d MRm_row 67 L (.ref a :: st) (Wd mu la ro et) = Rr X d MRm_row 70 L (.ref (qRd a 10 57) :: st) (Wd mu la ro et) := R_gfR d_MRm_row_67 ff_10_98 hq
theorem r_MRm_row_70 {l0 l1 l2 l3 : Value} {x : Int32} : Rr X d MRm_row 70 [l0, l1, l2, l3, .int x] st h = Rr X d MRm_row 72 [l0, l1, l2, l3, .int x] (.int x :: st) h := Rr_nx d_MRm_row_70 rfl
theorem r_MRm_row_72 : Rr X d MRm_row 72 L st h = Rr X d MRm_row 73 L (.long 0 :: st) h := Rr_nx d_MRm_row_72 rfl
theorem r_MRm_row_73 {a : Nat} {j : Int32} {x : Int64} (hq : (qJ a).isSome = true) : Rr X d MRm_row 73 L (.long x :: .int j :: .ref a :: st) (Wd mu la ro et) = if j < 0 ∨ qJd a ≤ j.toNatClampNeg then none else Rr X d MRm_row 74 L st (Wd mu (upJ la a j.toNatClampNeg x) ro et) := R_lasW d_MRm_row_73 hq
theorem r_MRm_row_74 {l0 l1 l2 l3 : Value} {x : Int32} : Rr X d MRm_row 74 [l0, l1, l2, l3, .int x] st h = Rr X d MRm_row 77 (sL [l0, l1, l2, l3, .int x] 4 (.int (x + (1)))) st h := Rr_nx d_MRm_row_74 rfl
theorem r_MRm_row_77 : Rr X d MRm_row 77 L st h = Rr X d MRm_row 54 L st h := R_goto d_MRm_row_77 (by decide)
theorem r_MRm_row_80 : Rr X d MRm_row 80 L st h = Rr X d MRm_row 81 L (.int (1) :: st) h := Rr_nx d_MRm_row_80 rfl
theorem r_MRm_row_81 {x : Int32} : Rr X d MRm_row 81 L [.int x] h = some (some (.int x), h) := R_ir d_MRm_row_81 rfl
end RULES
