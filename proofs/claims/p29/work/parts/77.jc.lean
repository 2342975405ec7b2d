section RULES
variable {X : Tok} {d : Nat} {st L : List Value} {h : Hp} {mu : Nat → Nat → Int32} {la : Nat → Nat → Int64} {ro : Nat → Nat → Option Nat} {et : Nat → Option va_E}
theorem d_MTo_screws_0 : decode MTo_screws.2.2.1 0 = .ok (.aload_n 0, 1) := lkT_ok tk_MTo_screws rfl
theorem d_MTo_screws_1 : decode MTo_screws.2.2.1 1 = .ok (.iload_n 1, 1) := lkT_ok tk_MTo_screws rfl
theorem d_MTo_screws_2 : decode MTo_screws.2.2.1 2 = .ok (.invokevirtual 100, 3) := lkT_ok tk_MTo_screws rfl
theorem d_MTo_screws_5 : decode MTo_screws.2.2.1 5 = .ok (.astore 4, 2) := lkT_ok tk_MTo_screws rfl
theorem d_MTo_screws_7 : decode MTo_screws.2.2.1 7 = .ok (.aload 4, 2) := lkT_ok tk_MTo_screws rfl
theorem d_MTo_screws_9 : decode MTo_screws.2.2.1 9 = .ok (.ifnull 20, 3) := lkT_ok tk_MTo_screws rfl
theorem d_MTo_screws_12 : decode MTo_screws.2.2.1 12 = .ok (.iload_n 2, 1) := lkT_ok tk_MTo_screws rfl
theorem d_MTo_screws_13 : decode MTo_screws.2.2.1 13 = .ok (.iconst 1, 1) := lkT_ok tk_MTo_screws rfl
theorem d_MTo_screws_14 : decode MTo_screws.2.2.1 14 = .ok (.bipush 9, 2) := lkT_ok tk_MTo_screws rfl
theorem d_MTo_screws_16 : decode MTo_screws.2.2.1 16 = .ok (.invokestatic 72, 3) := lkT_ok tk_MTo_screws rfl
theorem d_MTo_screws_19 : decode MTo_screws.2.2.1 19 = .ok (.ifCond .eq 10, 3) := lkT_ok tk_MTo_screws rfl
theorem d_MTo_screws_22 : decode MTo_screws.2.2.1 22 = .ok (.iload_n 3, 1) := lkT_ok tk_MTo_screws rfl
theorem d_MTo_screws_23 : decode MTo_screws.2.2.1 23 = .ok (.invokestatic 191, 3) := lkT_ok tk_MTo_screws rfl
theorem d_MTo_screws_26 : decode MTo_screws.2.2.1 26 = .ok (.ifCond .ne 5, 3) := lkT_ok tk_MTo_screws rfl
theorem d_MTo_screws_29 : decode MTo_screws.2.2.1 29 = .ok (.iconst (-1), 1) := lkT_ok tk_MTo_screws rfl
theorem d_MTo_screws_30 : decode MTo_screws.2.2.1 30 = .ok (.ireturn, 1) := lkT_ok tk_MTo_screws rfl
theorem d_MTo_screws_31 : decode MTo_screws.2.2.1 31 = .ok (.aload 4, 2) := lkT_ok tk_MTo_screws rfl
theorem d_MTo_screws_33 : decode MTo_screws.2.2.1 33 = .ok (.iload_n 2, 1) := lkT_ok tk_MTo_screws rfl
theorem d_MTo_screws_34 : decode MTo_screws.2.2.1 34 = .ok (.iload_n 3, 1) := lkT_ok tk_MTo_screws rfl
theorem d_MTo_screws_35 : decode MTo_screws.2.2.1 35 = .ok (.invokevirtual 194, 3) := lkT_ok tk_MTo_screws rfl
theorem d_MTo_screws_38 : decode MTo_screws.2.2.1 38 = .ok (.ireturn, 1) := lkT_ok tk_MTo_screws rfl
theorem r_MTo_screws_0 {l1 l2 l3 l4 : Value} {x : Nat} : Rr X d MTo_screws 0 [.ref x, l1, l2, l3, l4] st h = Rr X d MTo_screws 1 [.ref x, l1, l2, l3, l4] (.ref x :: st) h := Rr_nx d_MTo_screws_0 rfl
theorem r_MTo_screws_1 {l0 l2 l3 l4 : Value} {x : Int32} : Rr X d MTo_screws 1 [l0, .int x, l2, l3, l4] st h = Rr X d MTo_screws 2 [l0, .int x, l2, l3, l4] (.int x :: st) h := Rr_nx d_MTo_screws_1 rfl
theorem r_MTo_screws_2 {y0 : Int32} {a : Nat} (hO : qO a 9 = true) (hc : ckS st = true) : Rr X (d + 1) MTo_screws 2 L (.int y0 :: .ref a :: st) (Wd mu la ro et) = (Rr X d MTo_stoneAt 0 [.ref a, .int y0] [] (Wd mu la ro et)).bind fun q => Rr X (d + 1) MTo_screws 5 L (psh q.1 st) q.2 := R_iv (av := [.int y0]) d_MTo_screws_2 fc_9_100 hO (ckS_le hc) rfl (Nat.le_of_ble_eq_true rfl) (Nat.le_of_ble_eq_true rfl)
theorem r_MTo_screws_5 {l0 l1 l2 l3 l4 : Value} {x : Nat} : Rr X d MTo_screws 5 [l0, l1, l2, l3, l4] (.ref x :: st) h = Rr X d MTo_screws 7 (sL [l0, l1, l2, l3, l4] 4 (.ref x)) st h := Rr_nx d_MTo_screws_5 rfl
theorem r_MTo_screws_5n {l0 l1 l2 l3 l4 : Value} : Rr X d MTo_screws 5 [l0, l1, l2, l3, l4] (.null :: st) h = Rr X d MTo_screws 7 (sL [l0, l1, l2, l3, l4] 4 .null) st h := Rr_nx d_MTo_screws_5 rfl
theorem r_MTo_screws_7 {l0 l1 l2 l3 : Value} {x : Nat} : Rr X d MTo_screws 7 [l0, l1, l2, l3, .ref x] st h = Rr X d MTo_screws 9 [l0, l1, l2, l3, .ref x] (.ref x :: st) h := Rr_nx d_MTo_screws_7 rfl
theorem r_MTo_screws_7n {l0 l1 l2 l3 : Value} : Rr X d MTo_screws 7 [l0, l1, l2, l3, .null] st h = Rr X d MTo_screws 9 [l0, l1, l2, l3, .null] (.null :: st) h := Rr_nx d_MTo_screws_7 rfl
theorem r_MTo_screws_9 {x : Nat} : Rr X d MTo_screws 9 L (.ref x :: st) h = Rr X d MTo_screws 12 L st h := R_nul1 d_MTo_screws_9
theorem r_MTo_screws_9n : Rr X d MTo_screws 9 L (.null :: st) h = Rr X d MTo_screws 29 L st h := R_nul0 d_MTo_screws_9 (by decide)
theorem r_MTo_screws_12 {l0 l1 l3 l4 : Value} {x : Int32} : Rr X d MTo_screws 12 [l0, l1, .int x, l3, l4] st h = Rr X d MTo_screws 13 [l0, l1, .int x, l3, l4] (.int x :: st) h := Rr_nx d_MTo_screws_12 rfl
theorem r_MTo_screws_13 : Rr X d MTo_screws 13 L st h = Rr X d MTo_screws 14 L (.int (1) :: st) h := Rr_nx d_MTo_screws_13 rfl
theorem r_MTo_screws_14 : Rr X d MTo_screws 14 L st h = Rr X d MTo_screws 16 L (.int (9) :: st) h := Rr_nx d_MTo_screws_14 rfl
theorem r_MTo_screws_16 {y0 : Int32} {y1 : Int32} {y2 : Int32} (hc : ckS st = true) : Rr X (d + 1) MTo_screws 16 L (.int y2 :: .int y1 :: .int y0 :: st) h = (Rr X d MTo_isWithin 0 [.int y0, .int y1, .int y2] [] h).bind fun q => Rr X (d + 1) MTo_screws 19 L (psh q.1 st) q.2 := R_is (av := [.int y2, .int y1, .int y0]) d_MTo_screws_16 (Or.inl fc_9_72) (ckS_le hc) rfl (Nat.le_of_ble_eq_true rfl) (Nat.le_of_ble_eq_true rfl)
theorem r_MTo_screws_19 {x : Int32} : Rr X d MTo_screws 19 L (.int x :: st) h = if x = 0 then Rr X d MTo_screws 29 L st h else Rr X d MTo_screws 22 L st h := R_if_eq d_MTo_screws_19 (by decide)
theorem r_MTo_screws_22 {l0 l1 l2 l4 : Value} {x : Int32} : Rr X d MTo_screws 22 [l0, l1, l2, .int x, l4] st h = Rr X d MTo_screws 23 [l0, l1, l2, .int x, l4] (.int x :: st) h := Rr_nx d_MTo_screws_22 rfl
theorem fc_9_191 : fC 9 191 = some (1, 0, 1, MTo_isKeen) := rfl
theorem r_MTo_screws_23 {y0 : Int32} (hc : ckS st = true) : Rr X (d + 1) MTo_screws 23 L (.int y0 :: st) h = (Rr X d MTo_isKeen 0 [.int y0] [] h).bind fun q => Rr X (d + 1) MTo_screws 26 L (psh q.1 st) q.2 := R_is (av := [.int y0]) d_MTo_screws_23 (Or.inl fc_9_191) (ckS_le hc) rfl (Nat.le_of_ble_eq_true rfl) (Nat.le_of_ble_eq_true rfl)
theorem r_MTo_screws_26 {x : Int32} : Rr X d MTo_screws 26 L (.int x :: st) h = if ¬ x = 0 then Rr X d MTo_screws 31 L st h else Rr X d MTo_screws 29 L st h := R_if_ne d_MTo_screws_26 (by decide)
theorem r_MTo_screws_29 : Rr X d MTo_screws 29 L st h = Rr X d MTo_screws 30 L (.int (-1) :: st) h := Rr_nx d_MTo_screws_29 rfl
theorem r_MTo_screws_30 {x : Int32} : Rr X d MTo_screws 30 L [.int x] h = some (some (.int x), h) := R_ir d_MTo_screws_30 rfl
theorem r_MTo_screws_31 {l0 l1 l2 l3 : Value} {x : Nat} : Rr X d MTo_screws 31 [l0, l1, l2, l3, .ref x] st h = Rr X d MTo_screws 33 [l0, l1, l2, l3, .ref x] (.ref x :: st) h := Rr_nx d_MTo_screws_31 rfl
theorem r_MTo_screws_31n {l0 l1 l2 l3 : Value} : Rr X d MTo_screws 31 [l0, l1, l2, l3, .null] st h = Rr X d MTo_screws 33 [l0, l1, l2, l3, .null] (.null :: st) h := Rr_nx d_MTo_screws_31 rfl
theorem r_MTo_screws_33 {l0 l1 l3 l4 : Value} {x : Int32} : Rr X d MTo_screws 33 [l0, l1, .int x, l3, l4] st h = Rr X d MTo_screws 34 [l0, l1, .int x, l3, l4] (.int x :: st) h := Rr_nx d_MTo_screws_33 rfl
theorem r_MTo_screws_34 {l0 l1 l2 l4 : Value} {x : Int32} : Rr X d MTo_screws 34 [l0, l1, l2, .int x, l4] st h = Rr X d MTo_screws 35 [l0, l1, l2, .int x, l4] (.int x :: st) h := Rr_nx d_MTo_screws_34 rfl
theorem fc_9_194 : fC 9 194 = some (0, 7, 2, MSt_screwPlace) := rfl
theorem r_MTo_screws_35 {y0 : Int32} {y1 : Int32} {a : Nat} (hO : qO a 7 = true) (hc : ckS st = true) : Rr X (d + 1) MTo_screws 35 L (.int y1 :: .int y0 :: .ref a :: st) (Wd mu la ro et) = (Rr X d MSt_screwPlace 0 [.ref a, .int y0, .int y1, mkU, mkU] [] (Wd mu la ro et)).bind fun q => Rr X (d + 1) MTo_screws 38 L (psh q.1 st) q.2 := R_iv (av := [.int y1, .int y0]) d_MTo_screws_35 fc_9_194 hO (ckS_le hc) rfl (Nat.le_of_ble_eq_true rfl) (Nat.le_of_ble_eq_true rfl)
theorem r_MTo_screws_38 {x : Int32} : Rr X d MTo_screws 38 L [.int x] h = some (some (.int x), h) := R_ir d_MTo_screws_38 rfl
theorem d_MTo_lightest_0 : decode MTo_lightest.2.2.1 0 = .ok (.aload_n 0, 1) := lkT_ok tk_MTo_lightest rfl
theorem d_MTo_lightest_1 : decode MTo_lightest.2.2.1 1 = .ok (.iload_n 1, 1) := lkT_ok tk_MTo_lightest rfl
theorem d_MTo_lightest_2 : decode MTo_lightest.2.2.1 2 = .ok (.invokevirtual 100, 3) := lkT_ok tk_MTo_lightest rfl
theorem d_MTo_lightest_5 : decode MTo_lightest.2.2.1 5 = .ok (.astore_n 3, 1) := lkT_ok tk_MTo_lightest rfl
theorem d_MTo_lightest_6 : decode MTo_lightest.2.2.1 6 = .ok (.aload_n 3, 1) := lkT_ok tk_MTo_lightest rfl
theorem d_MTo_lightest_7 : decode MTo_lightest.2.2.1 7 = .ok (.ifnull 10, 3) := lkT_ok tk_MTo_lightest rfl
theorem d_MTo_lightest_10 : decode MTo_lightest.2.2.1 10 = .ok (.iload_n 2, 1) := lkT_ok tk_MTo_lightest rfl
theorem d_MTo_lightest_11 : decode MTo_lightest.2.2.1 11 = .ok (.invokestatic 191, 3) := lkT_ok tk_MTo_lightest rfl
theorem d_MTo_lightest_14 : decode MTo_lightest.2.2.1 14 = .ok (.ifCond .ne 5, 3) := lkT_ok tk_MTo_lightest rfl
theorem d_MTo_lightest_17 : decode MTo_lightest.2.2.1 17 = .ok (.iconst (-1), 1) := lkT_ok tk_MTo_lightest rfl
theorem d_MTo_lightest_18 : decode MTo_lightest.2.2.1 18 = .ok (.ireturn, 1) := lkT_ok tk_MTo_lightest rfl
theorem d_MTo_lightest_19 : decode MTo_lightest.2.2.1 19 = .ok (.iconst 1, 1) := lkT_ok tk_MTo_lightest rfl
theorem d_MTo_lightest_20 : decode MTo_lightest.2.2.1 20 = .ok (.istore 4, 2) := lkT_ok tk_MTo_lightest rfl
theorem d_MTo_lightest_22 : decode MTo_lightest.2.2.1 22 = .ok (.iload 4, 2) := lkT_ok tk_MTo_lightest rfl
theorem d_MTo_lightest_24 : decode MTo_lightest.2.2.1 24 = .ok (.bipush 9, 2) := lkT_ok tk_MTo_lightest rfl
theorem d_MTo_lightest_26 : decode MTo_lightest.2.2.1 26 = .ok (.if_icmp .gt 22, 3) := lkT_ok tk_MTo_lightest rfl
theorem d_MTo_lightest_29 : decode MTo_lightest.2.2.1 29 = .ok (.aload_n 3, 1) := lkT_ok tk_MTo_lightest rfl
theorem d_MTo_lightest_30 : decode MTo_lightest.2.2.1 30 = .ok (.iload 4, 2) := lkT_ok tk_MTo_lightest rfl
theorem d_MTo_lightest_32 : decode MTo_lightest.2.2.1 32 = .ok (.iload_n 2, 1) := lkT_ok tk_MTo_lightest rfl
theorem d_MTo_lightest_33 : decode MTo_lightest.2.2.1 33 = .ok (.invokevirtual 194, 3) := lkT_ok tk_MTo_lightest rfl
theorem d_MTo_lightest_36 : decode MTo_lightest.2.2.1 36 = .ok (.ifCond .lt 6, 3) := lkT_ok tk_MTo_lightest rfl
theorem d_MTo_lightest_39 : decode MTo_lightest.2.2.1 39 = .ok (.iload 4, 2) := lkT_ok tk_MTo_lightest rfl
theorem d_MTo_lightest_41 : decode MTo_lightest.2.2.1 41 = .ok (.ireturn, 1) := lkT_ok tk_MTo_lightest rfl
theorem d_MTo_lightest_42 : decode MTo_lightest.2.2.1 42 = .ok (.iinc 4 1, 3) := lkT_ok tk_MTo_lightest rfl
theorem d_MTo_lightest_45 : decode MTo_lightest.2.2.1 45 = .ok (.goto (-23), 3) := lkT_ok tk_MTo_lightest rfl
theorem d_MTo_lightest_48 : decode MTo_lightest.2.2.1 48 = .ok (.bipush (-2), 2) := lkT_ok tk_MTo_lightest rfl
theorem d_MTo_lightest_50 : decode MTo_lightest.2.2.1 50 = .ok (.ireturn, 1) := lkT_ok tk_MTo_lightest rfl
theorem r_MTo_lightest_0 {l1 l2 l3 l4 : Value} {x : Nat} : Rr X d MTo_lightest 0 [.ref x, l1, l2, l3, l4] st h = Rr X d MTo_lightest 1 [.ref x, l1, l2, l3, l4] (.ref x :: st) h := Rr_nx d_MTo_lightest_0 rfl
theorem r_MTo_lightest_1 {l0 l2 l3 l4 : Value} {x : Int32} : Rr X d MTo_lightest 1 [l0, .int x, l2, l3, l4] st h = Rr X d MTo_lightest 2 [l0, .int x, l2, l3, l4] (.int x :: st) h := Rr_nx d_MTo_lightest_1 rfl
theorem r_MTo_lightest_2 {y0 : Int32} {a : Nat} (hO : qO a 9 = true) (hc : ckS st = true) : Rr X (d + 1) MTo_lightest 2 L (.int y0 :: .ref a :: st) (Wd mu la ro et) = (Rr X d MTo_stoneAt 0 [.ref a, .int y0] [] (Wd mu la ro et)).bind fun q => Rr X (d + 1) MTo_lightest 5 L (psh q.1 st) q.2 := R_iv (av := [.int y0]) d_MTo_lightest_2 fc_9_100 hO (ckS_le hc) rfl (Nat.le_of_ble_eq_true rfl) (Nat.le_of_ble_eq_true rfl)
theorem r_MTo_lightest_5 {l0 l1 l2 l3 l4 : Value} {x : Nat} : Rr X d MTo_lightest 5 [l0, l1, l2, l3, l4] (.ref x :: st) h = Rr X d MTo_lightest 6 (sL [l0, l1, l2, l3, l4] 3 (.ref x)) st h := Rr_nx d_MTo_lightest_5 rfl
theorem r_MTo_lightest_5n {l0 l1 l2 l3 l4 : Value} : Rr X d MTo_lightest 5 [l0, l1, l2, l3, l4] (.null :: st) h = Rr X d MTo_lightest 6 (sL [l0, l1, l2, l3, l4] 3 .null) st h := Rr_nx d_MTo_lightest_5 rfl
theorem r_MTo_lightest_6 {l0 l1 l2 l4 : Value} {x : Nat} : Rr X d MTo_lightest 6 [l0, l1, l2, .ref x, l4] st h = Rr X d MTo_lightest 7 [l0, l1, l2, .ref x, l4] (.ref x :: st) h := Rr_nx d_MTo_lightest_6 rfl
theorem r_MTo_lightest_6n {l0 l1 l2 l4 : Value} : Rr X d MTo_lightest 6 [l0, l1, l2, .null, l4] st h = Rr X d MTo_lightest 7 [l0, l1, l2, .null, l4] (.null :: st) h := Rr_nx d_MTo_lightest_6 rfl
theorem r_MTo_lightest_7 {x : Nat} : Rr X d MTo_lightest 7 L (.ref x :: st) h = Rr X d MTo_lightest 10 L st h := R_nul1 d_MTo_lightest_7
theorem r_MTo_lightest_7n : Rr X d MTo_lightest 7 L (.null :: st) h = Rr X d MTo_lightest 17 L st h := R_nul0 d_MTo_lightest_7 (by decide)
theorem r_MTo_lightest_10 {l0 l1 l3 l4 : Value} {x : Int32} : Rr X d MTo_lightest 10 [l0, l1, .int x, l3, l4] st h = Rr X d MTo_lightest 11 [l0, l1, .int x, l3, l4] (.int x :: st) h := Rr_nx d_MTo_lightest_10 rfl
theorem r_MTo_lightest_11 {y0 : Int32} (hc : ckS st = true) : Rr X (d + 1) MTo_lightest 11 L (.int y0 :: st) h = (Rr X d MTo_isKeen 0 [.int y0] [] h).bind fun q => Rr X (d + 1) MTo_lightest 14 L (psh q.1 st) q.2 := R_is (av := [.int y0]) d_MTo_lightest_11 (Or.inl fc_9_191) (ckS_le hc) rfl (Nat.le_of_ble_eq_true rfl) (Nat.le_of_ble_eq_true rfl)
theorem r_MTo_lightest_14 {x : Int32} : Rr X d MTo_lightest 14 L (.int x :: st) h = if ¬ x = 0 then Rr X d MTo_lightest 19 L st h else Rr X d MTo_lightest 17 L st h := R_if_ne d_MTo_lightest_14 (by decide)
theorem r_MTo_lightest_17 : Rr X d MTo_lightest 17 L st h = Rr X d MTo_lightest 18 L (.int (-1) :: st) h := Rr_nx d_MTo_lightest_17 rfl
theorem r_MTo_lightest_18 {x : Int32} : Rr X d MTo_lightest 18 L [.int x] h = some (some (.int x), h) := R_ir d_MTo_lightest_18 rfl
theorem r_MTo_lightest_19 : Rr X d MTo_lightest 19 L st h = Rr X d MTo_lightest 20 L (.int (1) :: st) h := Rr_nx d_MTo_lightest_19 rfl
theorem r_MTo_lightest_20 {l0 l1 l2 l3 l4 : Value} {x : Int32} : Rr X d MTo_lightest 20 [l0, l1, l2, l3, l4] (.int x :: st) h = Rr X d MTo_lightest 22 (sL [l0, l1, l2, l3, l4] 4 (.int x)) st h := Rr_nx d_MTo_lightest_20 rfl
theorem r_MTo_lightest_22 {l0 l1 l2 l3 : Value} {x : Int32} : Rr X d MTo_lightest 22 [l0, l1, l2, l3, .int x] st h = Rr X d MTo_lightest 24 [l0, l1, l2, l3, .int x] (.int x :: st) h := Rr_nx d_MTo_lightest_22 rfl
theorem r_MTo_lightest_24 : Rr X d MTo_lightest 24 L st h = Rr X d MTo_lightest 26 L (.int (9) :: st) h := Rr_nx d_MTo_lightest_24 rfl
theorem r_MTo_lightest_26 {x y : Int32} : Rr X d MTo_lightest 26 L (.int y :: .int x :: st) h = if y < x then Rr X d MTo_lightest 48 L st h else Rr X d MTo_lightest 29 L st h := R_ic_gt d_MTo_lightest_26 (by decide)
theorem r_MTo_lightest_29 {l0 l1 l2 l4 : Value} {x : Nat} : Rr X d MTo_lightest 29 [l0, l1, l2, .ref x, l4] st h = Rr X d MTo_lightest 30 [l0, l1, l2, .ref x, l4] (.ref x :: st) h := Rr_nx d_MTo_lightest_29 rfl
theorem r_MTo_lightest_29n {l0 l1 l2 l4 : Value} : Rr X d MTo_lightest 29 [l0, l1, l2, .null, l4] st h = Rr X d MTo_lightest 30 [l0, l1, l2, .null, l4] (.null :: st) h := Rr_nx d_MTo_lightest_29 rfl
theorem r_MTo_lightest_30 {l0 l1 l2 l3 : Value} {x : Int32} : Rr X d MTo_lightest 30 [l0, l1, l2, l3, .int x] st h = Rr X d MTo_lightest 32 [l0, l1, l2, l3, .int x] (.int x :: st) h := Rr_nx d_MTo_lightest_30 rfl
theorem r_MTo_lightest_32 {l0 l1 l3 l4 : Value} {x : Int32} : Rr X d MTo_lightest 32 [l0, l1, .int x, l3, l4] st h = Rr X d MTo_lightest 33 [l0, l1, .int x, l3, l4] (.int x :: st) h := Rr_nx d_MTo_lightest_32 rfl
theorem r_MTo_lightest_33 {y0 : Int32} {y1 : Int32} {a : Nat} (hO : qO a 7 = true) (hc : ckS st = true) : Rr X (d + 1) MTo_lightest 33 L (.int y1 :: .int y0 :: .ref a :: st) (Wd mu la ro et) = (Rr X d MSt_screwPlace 0 [.ref a, .int y0, .int y1, mkU, mkU] [] (Wd mu la ro et)).bind fun q => Rr X (d + 1) MTo_lightest 36 L (psh q.1 st) q.2 := R_iv (av := [.int y1, .int y0]) d_MTo_lightest_33 fc_9_194 hO (ckS_le hc) rfl (Nat.le_of_ble_eq_true rfl) (Nat.le_of_ble_eq_true rfl)
theorem r_MTo_lightest_36 {x : Int32} : Rr X d MTo_lightest 36 L (.int x :: st) h = if x < 0 then Rr X d MTo_lightest 42 L st h else Rr X d MTo_lightest 39 L st h := R_if_lt d_MTo_lightest_36 (by decide)
theorem r_MTo_lightest_39 {l0 l1 l2 l3 : Value} {x : Int32} : Rr X d MTo_lightest 39 [l0, l1, l2, l3, .int x] st h = Rr X d MTo_lightest 41 [l0, l1, l2, l3, .int x] (.int x :: st) h := Rr_nx d_MTo_lightest_39 rfl
theorem r_MTo_lightest_41 {x : Int32} : Rr X d MTo_lightest 41 L [.int x] h = some (some (.int x), h) := R_ir d_MTo_lightest_41 rfl
theorem r_MTo_lightest_42 {l0 l1 l2 l3 : Value} {x : Int32} : Rr X d MTo_lightest 42 [l0, l1, l2, l3, .int x] st h = Rr X d MTo_lightest 45 (sL [l0, l1, l2, l3, .int x] 4 (.int (x + (1)))) st h := Rr_nx d_MTo_lightest_42 rfl
theorem r_MTo_lightest_45 : Rr X d MTo_lightest 45 L st h = Rr X d MTo_lightest 22 L st h := R_goto d_MTo_lightest_45 (by decide)
theorem r_MTo_lightest_48 : Rr X d MTo_lightest 48 L st h = Rr X d MTo_lightest 50 L (.int (-2) :: st) h := Rr_nx d_MTo_lightest_48 rfl
theorem r_MTo_lightest_50 {x : Int32} : Rr X d MTo_lightest 50 L [.int x] h = some (some (.int x), h) := R_ir d_MTo_lightest_50 rfl
theorem d_MTo_isKeen_0 : decode MTo_isKeen.2.2.1 0 = .ok (.iload_n 0, 1) := lkT_ok tk_MTo_isKeen rfl
theorem d_MTo_isKeen_1 : decode MTo_isKeen.2.2.1 1 = .ok (.bipush (-9), 2) := lkT_ok tk_MTo_isKeen rfl
theorem d_MTo_isKeen_3 : decode MTo_isKeen.2.2.1 3 = .ok (.bipush 9, 2) := lkT_ok tk_MTo_isKeen rfl
theorem d_MTo_isKeen_5 : decode MTo_isKeen.2.2.1 5 = .ok (.invokestatic 72, 3) := lkT_ok tk_MTo_isKeen rfl
theorem d_MTo_isKeen_8 : decode MTo_isKeen.2.2.1 8 = .ok (.ireturn, 1) := lkT_ok tk_MTo_isKeen rfl
theorem r_MTo_isKeen_0 {x : Int32} : Rr X d MTo_isKeen 0 [.int x] st h = Rr X d MTo_isKeen 1 [.int x] (.int x :: st) h := Rr_nx d_MTo_isKeen_0 rfl
theorem r_MTo_isKeen_1 : Rr X d MTo_isKeen 1 L st h = Rr X d MTo_isKeen 3 L (.int (-9) :: st) h := Rr_nx d_MTo_isKeen_1 rfl
theorem r_MTo_isKeen_3 : Rr X d MTo_isKeen 3 L st h = Rr X d MTo_isKeen 5 L (.int (9) :: st) h := Rr_nx d_MTo_isKeen_3 rfl
theorem r_MTo_isKeen_5 {y0 : Int32} {y1 : Int32} {y2 : Int32} (hc : ckS st = true) : Rr X (d + 1) MTo_isKeen 5 L (.int y2 :: .int y1 :: .int y0 :: st) h = (Rr X d MTo_isWithin 0 [.int y0, .int y1, .int y2] [] h).bind fun q => Rr X (d + 1) MTo_isKeen 8 L (psh q.1 st) q.2 := R_is (av := [.int y2, .int y1, .int y0]) d_MTo_isKeen_5 (Or.inl fc_9_72) (ckS_le hc) rfl (Nat.le_of_ble_eq_true rfl) (Nat.le_of_ble_eq_true rfl)
theorem r_MTo_isKeen_8 {x : Int32} : Rr X d MTo_isKeen 8 L [.int x] h = if x = 0 ∨ x = 1 then some (some (.int x), h) else none := R_zr d_MTo_isKeen_8 rfl
theorem d_MSt_screwPlace_0 : decode MSt_screwPlace.2.2.1 0 = .ok (.bipush (-9), 2) := lkT_ok tk_MSt_screwPlace rfl
theorem d_MSt_screwPlace_2 : decode MSt_screwPlace.2.2.1 2 = .ok (.istore_n 3, 1) := lkT_ok tk_MSt_screwPlace rfl
theorem d_MSt_screwPlace_3 : decode MSt_screwPlace.2.2.1 3 = .ok (.iload_n 3, 1) := lkT_ok tk_MSt_screwPlace rfl
theorem d_MSt_screwPlace_4 : decode MSt_screwPlace.2.2.1 4 = .ok (.bipush 9, 2) := lkT_ok tk_MSt_screwPlace rfl
theorem d_MSt_screwPlace_6 : decode MSt_screwPlace.2.2.1 6 = .ok (.if_icmp .gt 52, 3) := lkT_ok tk_MSt_screwPlace rfl
theorem d_MSt_screwPlace_9 : decode MSt_screwPlace.2.2.1 9 = .ok (.bipush (-9), 2) := lkT_ok tk_MSt_screwPlace rfl
theorem d_MSt_screwPlace_11 : decode MSt_screwPlace.2.2.1 11 = .ok (.istore 4, 2) := lkT_ok tk_MSt_screwPlace rfl
theorem d_MSt_screwPlace_13 : decode MSt_screwPlace.2.2.1 13 = .ok (.iload 4, 2) := lkT_ok tk_MSt_screwPlace rfl
theorem d_MSt_screwPlace_15 : decode MSt_screwPlace.2.2.1 15 = .ok (.bipush 9, 2) := lkT_ok tk_MSt_screwPlace rfl
theorem d_MSt_screwPlace_17 : decode MSt_screwPlace.2.2.1 17 = .ok (.if_icmp .gt 35, 3) := lkT_ok tk_MSt_screwPlace rfl
theorem d_MSt_screwPlace_20 : decode MSt_screwPlace.2.2.1 20 = .ok (.aload_n 0, 1) := lkT_ok tk_MSt_screwPlace rfl
theorem d_MSt_screwPlace_21 : decode MSt_screwPlace.2.2.1 21 = .ok (.iload_n 1, 1) := lkT_ok tk_MSt_screwPlace rfl
theorem d_MSt_screwPlace_22 : decode MSt_screwPlace.2.2.1 22 = .ok (.iload_n 3, 1) := lkT_ok tk_MSt_screwPlace rfl
theorem d_MSt_screwPlace_23 : decode MSt_screwPlace.2.2.1 23 = .ok (.iload 4, 2) := lkT_ok tk_MSt_screwPlace rfl
theorem d_MSt_screwPlace_25 : decode MSt_screwPlace.2.2.1 25 = .ok (.invokevirtual 83, 3) := lkT_ok tk_MSt_screwPlace rfl
theorem d_MSt_screwPlace_28 : decode MSt_screwPlace.2.2.1 28 = .ok (.iload_n 2, 1) := lkT_ok tk_MSt_screwPlace rfl
theorem d_MSt_screwPlace_29 : decode MSt_screwPlace.2.2.1 29 = .ok (.if_icmp .lt 17, 3) := lkT_ok tk_MSt_screwPlace rfl
theorem d_MSt_screwPlace_32 : decode MSt_screwPlace.2.2.1 32 = .ok (.bipush 100, 2) := lkT_ok tk_MSt_screwPlace rfl
theorem d_MSt_screwPlace_34 : decode MSt_screwPlace.2.2.1 34 = .ok (.iload_n 3, 1) := lkT_ok tk_MSt_screwPlace rfl
theorem d_MSt_screwPlace_35 : decode MSt_screwPlace.2.2.1 35 = .ok (.bipush 9, 2) := lkT_ok tk_MSt_screwPlace rfl
theorem d_MSt_screwPlace_37 : decode MSt_screwPlace.2.2.1 37 = .ok (.iadd, 1) := lkT_ok tk_MSt_screwPlace rfl
theorem d_MSt_screwPlace_38 : decode MSt_screwPlace.2.2.1 38 = .ok (.imul, 1) := lkT_ok tk_MSt_screwPlace rfl
theorem d_MSt_screwPlace_39 : decode MSt_screwPlace.2.2.1 39 = .ok (.iload 4, 2) := lkT_ok tk_MSt_screwPlace rfl
theorem d_MSt_screwPlace_41 : decode MSt_screwPlace.2.2.1 41 = .ok (.iadd, 1) := lkT_ok tk_MSt_screwPlace rfl
theorem d_MSt_screwPlace_42 : decode MSt_screwPlace.2.2.1 42 = .ok (.bipush 9, 2) := lkT_ok tk_MSt_screwPlace rfl
theorem d_MSt_screwPlace_44 : decode MSt_screwPlace.2.2.1 44 = .ok (.iadd, 1) := lkT_ok tk_MSt_screwPlace rfl
theorem d_MSt_screwPlace_45 : decode MSt_screwPlace.2.2.1 45 = .ok (.ireturn, 1) := lkT_ok tk_MSt_screwPlace rfl
theorem d_MSt_screwPlace_46 : decode MSt_screwPlace.2.2.1 46 = .ok (.iinc 4 1, 3) := lkT_ok tk_MSt_screwPlace rfl
theorem d_MSt_screwPlace_49 : decode MSt_screwPlace.2.2.1 49 = .ok (.goto (-36), 3) := lkT_ok tk_MSt_screwPlace rfl
theorem d_MSt_screwPlace_52 : decode MSt_screwPlace.2.2.1 52 = .ok (.iinc 3 1, 3) := lkT_ok tk_MSt_screwPlace rfl
theorem d_MSt_screwPlace_55 : decode MSt_screwPlace.2.2.1 55 = .ok (.goto (-52), 3) := lkT_ok tk_MSt_screwPlace rfl
theorem d_MSt_screwPlace_58 : decode MSt_screwPlace.2.2.1 58 = .ok (.bipush (-2), 2) := lkT_ok tk_MSt_screwPlace rfl
theorem d_MSt_screwPlace_60 : decode MSt_screwPlace.2.2.1 60 = .ok (.ireturn, 1) := lkT_ok tk_MSt_screwPlace rfl
theorem r_MSt_screwPlace_0 : Rr X d MSt_screwPlace 0 L st h = Rr X d MSt_screwPlace 2 L (.int (-9) :: st) h := Rr_nx d_MSt_screwPlace_0 rfl
theorem r_MSt_screwPlace_2 {l0 l1 l2 l3 l4 : Value} {x : Int32} : Rr X d MSt_screwPlace 2 [l0, l1, l2, l3, l4] (.int x :: st) h = Rr X d MSt_screwPlace 3 (sL [l0, l1, l2, l3, l4] 3 (.int x)) st h := Rr_nx d_MSt_screwPlace_2 rfl
theorem r_MSt_screwPlace_3 {l0 l1 l2 l4 : Value} {x : Int32} : Rr X d MSt_screwPlace 3 [l0, l1, l2, .int x, l4] st h = Rr X d MSt_screwPlace 4 [l0, l1, l2, .int x, l4] (.int x :: st) h := Rr_nx d_MSt_screwPlace_3 rfl
theorem r_MSt_screwPlace_4 : Rr X d MSt_screwPlace 4 L st h = Rr X d MSt_screwPlace 6 L (.int (9) :: st) h := Rr_nx d_MSt_screwPlace_4 rfl
theorem r_MSt_screwPlace_6 {x y : Int32} : Rr X d MSt_screwPlace 6 L (.int y :: .int x :: st) h = if y < x then Rr X d MSt_screwPlace 58 L st h else Rr X d MSt_screwPlace 9 L st h := R_ic_gt d_MSt_screwPlace_6 (by decide)
theorem r_MSt_screwPlace_9 : Rr X d MSt_screwPlace 9 L st h = Rr X d MSt_screwPlace 11 L (.int (-9) :: st) h := Rr_nx d_MSt_screwPlace_9 rfl
theorem r_MSt_screwPlace_11 {l0 l1 l2 l3 l4 : Value} {x : Int32} : Rr X d MSt_screwPlace 11 [l0, l1, l2, l3, l4] (.int x :: st) h = Rr X d MSt_screwPlace 13 (sL [l0, l1, l2, l3, l4] 4 (.int x)) st h := Rr_nx d_MSt_screwPlace_11 rfl
theorem r_MSt_screwPlace_13 {l0 l1 l2 l3 : Value} {x : Int32} : Rr X d MSt_screwPlace 13 [l0, l1, l2, l3, .int x] st h = Rr X d MSt_screwPlace 15 [l0, l1, l2, l3, .int x] (.int x :: st) h := Rr_nx d_MSt_screwPlace_13 rfl
theorem r_MSt_screwPlace_15 : Rr X d MSt_screwPlace 15 L st h = Rr X d MSt_screwPlace 17 L (.int (9) :: st) h := Rr_nx d_MSt_screwPlace_15 rfl
theorem r_MSt_screwPlace_17 {x y : Int32} : Rr X d MSt_screwPlace 17 L (.int y :: .int x :: st) h = if y < x then Rr X d MSt_screwPlace 52 L st h else Rr X d MSt_screwPlace 20 L st h := R_ic_gt d_MSt_screwPlace_17 (by decide)
theorem r_MSt_screwPlace_20 {l1 l2 l3 l4 : Value} {x : Nat} : Rr X d MSt_screwPlace 20 [.ref x, l1, l2, l3, l4] st h = Rr X d MSt_screwPlace 21 [.ref x, l1, l2, l3, l4] (.ref x :: st) h := Rr_nx d_MSt_screwPlace_20 rfl
theorem r_MSt_screwPlace_21 {l0 l2 l3 l4 : Value} {x : Int32} : Rr X d MSt_screwPlace 21 [l0, .int x, l2, l3, l4] st h = Rr X d MSt_screwPlace 22 [l0, .int x, l2, l3, l4] (.int x :: st) h := Rr_nx d_MSt_screwPlace_21 rfl
theorem r_MSt_screwPlace_22 {l0 l1 l2 l4 : Value} {x : Int32} : Rr X d MSt_screwPlace 22 [l0, l1, l2, .int x, l4] st h = Rr X d MSt_screwPlace 23 [l0, l1, l2, .int x, l4] (.int x :: st) h := Rr_nx d_MSt_screwPlace_22 rfl
theorem r_MSt_screwPlace_23 {l0 l1 l2 l3 : Value} {x : Int32} : Rr X d MSt_screwPlace 23 [l0, l1, l2, l3, .int x] st h = Rr X d MSt_screwPlace 25 [l0, l1, l2, l3, .int x] (.int x :: st) h := Rr_nx d_MSt_screwPlace_23 rfl
theorem r_MSt_screwPlace_25 {y0 : Int32} {y1 : Int32} {y2 : Int32} {a : Nat} (hO : qO a 7 = true) (hc : ckS st = true) : Rr X (d + 1) MSt_screwPlace 25 L (.int y2 :: .int y1 :: .int y0 :: .ref a :: st) (Wd mu la ro et) = (Rr X d MSt_keenWith 0 [.ref a, .int y0, .int y1, .int y2, mkU, mkU, mkU, mkU, mkU] [] (Wd mu la ro et)).bind fun q => Rr X (d + 1) MSt_screwPlace 28 L (psh q.1 st) q.2 := R_iv (av := [.int y2, .int y1, .int y0]) d_MSt_screwPlace_25 fc_7_83 hO (ckS_le hc) rfl (Nat.le_of_ble_eq_true rfl) (Nat.le_of_ble_eq_true rfl)
theorem r_MSt_screwPlace_28 {l0 l1 l3 l4 : Value} {x : Int32} : Rr X d MSt_screwPlace 28 [l0, l1, .int x, l3, l4] st h = Rr X d MSt_screwPlace 29 [l0, l1, .int x, l3, l4] (.int x :: st) h := Rr_nx d_MSt_screwPlace_28 rfl
theorem r_MSt_screwPlace_29 {x y : Int32} : Rr X d MSt_screwPlace 29 L (.int y :: .int x :: st) h = if x < y then Rr X d MSt_screwPlace 46 L st h else Rr X d MSt_screwPlace 32 L st h := R_ic_lt d_MSt_screwPlace_29 (by decide)
theorem r_MSt_screwPlace_32 : Rr X d MSt_screwPlace 32 L st h = Rr X d MSt_screwPlace 34 L (.int (100) :: st) h := Rr_nx d_MSt_screwPlace_32 rfl
theorem r_MSt_screwPlace_34 {l0 l1 l2 l4 : Value} {x : Int32} : Rr X d MSt_screwPlace 34 [l0, l1, l2, .int x, l4] st h = Rr X d MSt_screwPlace 35 [l0, l1, l2, .int x, l4] (.int x :: st) h := Rr_nx d_MSt_screwPlace_34 rfl
theorem r_MSt_screwPlace_35 : Rr X d MSt_screwPlace 35 L st h = Rr X d MSt_screwPlace 37 L (.int (9) :: st) h := Rr_nx d_MSt_screwPlace_35 rfl
theorem r_MSt_screwPlace_37 {x y : Int32} : Rr X d MSt_screwPlace 37 L (.int y :: .int x :: st) h = Rr X d MSt_screwPlace 38 L (.int (x + y) :: st) h := Rr_nx d_MSt_screwPlace_37 rfl
theorem r_MSt_screwPlace_38 {x y : Int32} : Rr X d MSt_screwPlace 38 L (.int y :: .int x :: st) h = Rr X d MSt_screwPlace 39 L (.int (x * y) :: st) h := Rr_nx d_MSt_screwPlace_38 rfl
theorem r_MSt_screwPlace_39 {l0 l1 l2 l3 : Value} {x : Int32} : Rr X d MSt_screwPlace 39 [l0, l1, l2, l3, .int x] st h = Rr X d MSt_screwPlace 41 [l0, l1, l2, l3, .int x] (.int x :: st) h := Rr_nx d_MSt_screwPlace_39 rfl
theorem r_MSt_screwPlace_41 {x y : Int32} : Rr X d MSt_screwPlace 41 L (.int y :: .int x :: st) h = Rr X d MSt_screwPlace 42 L (.int (x + y) :: st) h := Rr_nx d_MSt_screwPlace_41 rfl
theorem r_MSt_screwPlace_42 : Rr X d MSt_screwPlace 42 L st h = Rr X d MSt_screwPlace 44 L (.int (9) :: st) h := Rr_nx d_MSt_screwPlace_42 rfl
theorem r_MSt_screwPlace_44 {x y : Int32} : Rr X d MSt_screwPlace 44 L (.int y :: .int x :: st) h = Rr X d MSt_screwPlace 45 L (.int (x + y) :: st) h := Rr_nx d_MSt_screwPlace_44 rfl
theorem r_MSt_screwPlace_45 {x : Int32} : Rr X d MSt_screwPlace 45 L [.int x] h = some (some (.int x), h) := R_ir d_MSt_screwPlace_45 rfl
theorem r_MSt_screwPlace_46 {l0 l1 l2 l3 : Value} {x : Int32} : Rr X d MSt_screwPlace 46 [l0, l1, l2, l3, .int x] st h = Rr X d MSt_screwPlace 49 (sL [l0, l1, l2, l3, .int x] 4 (.int (x + (1)))) st h := Rr_nx d_MSt_screwPlace_46 rfl
theorem r_MSt_screwPlace_49 : Rr X d MSt_screwPlace 49 L st h = Rr X d MSt_screwPlace 13 L st h := R_goto d_MSt_screwPlace_49 (by decide)
theorem r_MSt_screwPlace_52 {l0 l1 l2 l4 : Value} {x : Int32} : Rr X d MSt_screwPlace 52 [l0, l1, l2, .int x, l4] st h = Rr X d MSt_screwPlace 55 (sL [l0, l1, l2, .int x, l4] 3 (.int (x + (1)))) st h := Rr_nx d_MSt_screwPlace_52 rfl
theorem r_MSt_screwPlace_55 : Rr X d MSt_screwPlace 55 L st h = Rr X d MSt_screwPlace 3 L st h := R_goto d_MSt_screwPlace_55 (by decide)
theorem r_MSt_screwPlace_58 : Rr X d MSt_screwPlace 58 L st h = Rr X d MSt_screwPlace 60 L (.int (-2) :: st) h := Rr_nx d_MSt_screwPlace_58 rfl
theorem r_MSt_screwPlace_60 {x : Int32} : Rr X d MSt_screwPlace 60 L [.int x] h = some (some (.int x), h) := R_ir d_MSt_screwPlace_60 rfl
theorem d_MRm_screws_0 : decode MRm_screws.2.2.1 0 = .ok (.aload_n 0, 1) := lkT_ok tk_MRm_screws rfl
theorem d_MRm_screws_1 : decode MRm_screws.2.2.1 1 = .ok (.iload_n 1, 1) := lkT_ok tk_MRm_screws rfl
theorem d_MRm_screws_2 : decode MRm_screws.2.2.1 2 = .ok (.invokevirtual 173, 3) := lkT_ok tk_MRm_screws rfl
theorem d_MRm_screws_5 : decode MRm_screws.2.2.1 5 = .ok (.ifCond .eq 34, 3) := lkT_ok tk_MRm_screws rfl
theorem d_MRm_screws_8 : decode MRm_screws.2.2.1 8 = .ok (.iload_n 2, 1) := lkT_ok tk_MRm_screws rfl
theorem d_MRm_screws_9 : decode MRm_screws.2.2.1 9 = .ok (.iconst 1, 1) := lkT_ok tk_MRm_screws rfl
theorem d_MRm_screws_10 : decode MRm_screws.2.2.1 10 = .ok (.bipush 9, 2) := lkT_ok tk_MRm_screws rfl
theorem d_MRm_screws_12 : decode MRm_screws.2.2.1 12 = .ok (.invokestatic 107, 3) := lkT_ok tk_MRm_screws rfl
theorem d_MRm_screws_15 : decode MRm_screws.2.2.1 15 = .ok (.ifCond .eq 24, 3) := lkT_ok tk_MRm_screws rfl
theorem d_MRm_screws_18 : decode MRm_screws.2.2.1 18 = .ok (.iload_n 3, 1) := lkT_ok tk_MRm_screws rfl
theorem d_MRm_screws_19 : decode MRm_screws.2.2.1 19 = .ok (.bipush (-9), 2) := lkT_ok tk_MRm_screws rfl
theorem d_MRm_screws_21 : decode MRm_screws.2.2.1 21 = .ok (.bipush 9, 2) := lkT_ok tk_MRm_screws rfl
theorem d_MRm_screws_23 : decode MRm_screws.2.2.1 23 = .ok (.invokestatic 107, 3) := lkT_ok tk_MRm_screws rfl
theorem d_MRm_screws_26 : decode MRm_screws.2.2.1 26 = .ok (.ifCond .eq 13, 3) := lkT_ok tk_MRm_screws rfl
theorem d_MRm_screws_29 : decode MRm_screws.2.2.1 29 = .ok (.aload_n 0, 1) := lkT_ok tk_MRm_screws rfl
theorem d_MRm_screws_30 : decode MRm_screws.2.2.1 30 = .ok (.iload_n 1, 1) := lkT_ok tk_MRm_screws rfl
theorem d_MRm_screws_31 : decode MRm_screws.2.2.1 31 = .ok (.iload_n 2, 1) := lkT_ok tk_MRm_screws rfl
theorem d_MRm_screws_32 : decode MRm_screws.2.2.1 32 = .ok (.iload_n 3, 1) := lkT_ok tk_MRm_screws rfl
theorem d_MRm_screws_33 : decode MRm_screws.2.2.1 33 = .ok (.invokevirtual 329, 3) := lkT_ok tk_MRm_screws rfl
theorem d_MRm_screws_36 : decode MRm_screws.2.2.1 36 = .ok (.goto 4, 3) := lkT_ok tk_MRm_screws rfl
theorem d_MRm_screws_39 : decode MRm_screws.2.2.1 39 = .ok (.iconst (-1), 1) := lkT_ok tk_MRm_screws rfl
theorem d_MRm_screws_40 : decode MRm_screws.2.2.1 40 = .ok (.ireturn, 1) := lkT_ok tk_MRm_screws rfl
theorem r_MRm_screws_0 {l1 l2 l3 : Value} {x : Nat} : Rr X d MRm_screws 0 [.ref x, l1, l2, l3] st h = Rr X d MRm_screws 1 [.ref x, l1, l2, l3] (.ref x :: st) h := Rr_nx d_MRm_screws_0 rfl
theorem r_MRm_screws_1 {l0 l2 l3 : Value} {x : Int32} : Rr X d MRm_screws 1 [l0, .int x, l2, l3] st h = Rr X d MRm_screws 2 [l0, .int x, l2, l3] (.int x :: st) h := Rr_nx d_MRm_screws_1 rfl
theorem r_MRm_screws_2 {y0 : Int32} {a : Nat} (hO : qO a 10 = true) (hc : ckS st = true) : Rr X (d + 1) MRm_screws 2 L (.int y0 :: .ref a :: st) (Wd mu la ro et) = (Rr X d MRm_isStone 0 [.ref a, .int y0] [] (Wd mu la ro et)).bind fun q => Rr X (d + 1) MRm_screws 5 L (psh q.1 st) q.2 := R_iv (av := [.int y0]) d_MRm_screws_2 fc_10_173 hO (ckS_le hc) rfl (Nat.le_of_ble_eq_true rfl) (Nat.le_of_ble_eq_true rfl)
theorem r_MRm_screws_5 {x : Int32} : Rr X d MRm_screws 5 L (.int x :: st) h = if x = 0 then Rr X d MRm_screws 39 L st h else Rr X d MRm_screws 8 L st h := R_if_eq d_MRm_screws_5 (by decide)
theorem r_MRm_screws_8 {l0 l1 l3 : Value} {x : Int32} : Rr X d MRm_screws 8 [l0, l1, .int x, l3] st h = Rr X d MRm_screws 9 [l0, l1, .int x, l3] (.int x :: st) h := Rr_nx d_MRm_screws_8 rfl
theorem r_MRm_screws_9 : Rr X d MRm_screws 9 L st h = Rr X d MRm_screws 10 L (.int (1) :: st) h := Rr_nx d_MRm_screws_9 rfl
theorem r_MRm_screws_10 : Rr X d MRm_screws 10 L st h = Rr X d MRm_screws 12 L (.int (9) :: st) h := Rr_nx d_MRm_screws_10 rfl
theorem r_MRm_screws_12 {y0 : Int32} {y1 : Int32} {y2 : Int32} (hc : ckS st = true) : Rr X (d + 1) MRm_screws 12 L (.int y2 :: .int y1 :: .int y0 :: st) h = (Rr X d MRm_in 0 [.int y0, .int y1, .int y2] [] h).bind fun q => Rr X (d + 1) MRm_screws 15 L (psh q.1 st) q.2 := R_is (av := [.int y2, .int y1, .int y0]) d_MRm_screws_12 (Or.inl fc_10_107) (ckS_le hc) rfl (Nat.le_of_ble_eq_true rfl) (Nat.le_of_ble_eq_true rfl)
theorem r_MRm_screws_15 {x : Int32} : Rr X d MRm_screws 15 L (.int x :: st) h = if x = 0 then Rr X d MRm_screws 39 L st h else Rr X d MRm_screws 18 L st h := R_if_eq d_MRm_screws_15 (by decide)
theorem r_MRm_screws_18 {l0 l1 l2 : Value} {x : Int32} : Rr X d MRm_screws 18 [l0, l1, l2, .int x] st h = Rr X d MRm_screws 19 [l0, l1, l2, .int x] (.int x :: st) h := Rr_nx d_MRm_screws_18 rfl
theorem r_MRm_screws_19 : Rr X d MRm_screws 19 L st h = Rr X d MRm_screws 21 L (.int (-9) :: st) h := Rr_nx d_MRm_screws_19 rfl
theorem r_MRm_screws_21 : Rr X d MRm_screws 21 L st h = Rr X d MRm_screws 23 L (.int (9) :: st) h := Rr_nx d_MRm_screws_21 rfl
theorem r_MRm_screws_23 {y0 : Int32} {y1 : Int32} {y2 : Int32} (hc : ckS st = true) : Rr X (d + 1) MRm_screws 23 L (.int y2 :: .int y1 :: .int y0 :: st) h = (Rr X d MRm_in 0 [.int y0, .int y1, .int y2] [] h).bind fun q => Rr X (d + 1) MRm_screws 26 L (psh q.1 st) q.2 := R_is (av := [.int y2, .int y1, .int y0]) d_MRm_screws_23 (Or.inl fc_10_107) (ckS_le hc) rfl (Nat.le_of_ble_eq_true rfl) (Nat.le_of_ble_eq_true rfl)
theorem r_MRm_screws_26 {x : Int32} : Rr X d MRm_screws 26 L (.int x :: st) h = if x = 0 then Rr X d MRm_screws 39 L st h else Rr X d MRm_screws 29 L st h := R_if_eq d_MRm_screws_26 (by decide)
theorem r_MRm_screws_29 {l1 l2 l3 : Value} {x : Nat} : Rr X d MRm_screws 29 [.ref x, l1, l2, l3] st h = Rr X d MRm_screws 30 [.ref x, l1, l2, l3] (.ref x :: st) h := Rr_nx d_MRm_screws_29 rfl
theorem r_MRm_screws_30 {l0 l2 l3 : Value} {x : Int32} : Rr X d MRm_screws 30 [l0, .int x, l2, l3] st h = Rr X d MRm_screws 31 [l0, .int x, l2, l3] (.int x :: st) h := Rr_nx d_MRm_screws_30 rfl
theorem r_MRm_screws_31 {l0 l1 l3 : Value} {x : Int32} : Rr X d MRm_screws 31 [l0, l1, .int x, l3] st h = Rr X d MRm_screws 32 [l0, l1, .int x, l3] (.int x :: st) h := Rr_nx d_MRm_screws_31 rfl
theorem r_MRm_screws_32 {l0 l1 l2 : Value} {x : Int32} : Rr X d MRm_screws 32 [l0, l1, l2, .int x] st h = Rr X d MRm_screws 33 [l0, l1, l2, .int x] (.int x :: st) h := Rr_nx d_MRm_screws_32 rfl
theorem fc_10_329 : fC 10 329 = some (0, 10, 3, MRm_screwed) := rfl
theorem r_MRm_screws_33 {y0 : Int32} {y1 : Int32} {y2 : Int32} {a : Nat} (hO : qO a 10 = true) (hc : ckS st = true) : Rr X (d + 1) MRm_screws 33 L (.int y2 :: .int y1 :: .int y0 :: .ref a :: st) (Wd mu la ro et) = (Rr X d MRm_screwed 0 [.ref a, .int y0, .int y1, .int y2, mkU, mkU, mkU] [] (Wd mu la ro et)).bind fun q => Rr X (d + 1) MRm_screws 36 L (psh q.1 st) q.2 := R_iv (av := [.int y2, .int y1, .int y0]) d_MRm_screws_33 fc_10_329 hO (ckS_le hc) rfl (Nat.le_of_ble_eq_true rfl) (Nat.le_of_ble_eq_true rfl)
theorem r_MRm_screws_36 : Rr X d MRm_screws 36 L st h = Rr X d MRm_screws 40 L st h := R_goto d_MRm_screws_36 (by decide)
theorem r_MRm_screws_39 : Rr X d MRm_screws 39 L st h = Rr X d MRm_screws 40 L (.int (-1) :: st) h := Rr_nx d_MRm_screws_39 rfl
theorem r_MRm_screws_40 {x : Int32} : Rr X d MRm_screws 40 L [.int x] h = some (some (.int x), h) := R_ir d_MRm_screws_40 rfl
theorem d_MRm_lightest_0 : decode MRm_lightest.2.2.1 0 = .ok (.aload_n 0, 1) := lkT_ok tk_MRm_lightest rfl
theorem d_MRm_lightest_1 : decode MRm_lightest.2.2.1 1 = .ok (.iload_n 1, 1) := lkT_ok tk_MRm_lightest rfl
theorem d_MRm_lightest_2 : decode MRm_lightest.2.2.1 2 = .ok (.invokevirtual 173, 3) := lkT_ok tk_MRm_lightest rfl
theorem d_MRm_lightest_5 : decode MRm_lightest.2.2.1 5 = .ok (.ifCond .eq 14, 3) := lkT_ok tk_MRm_lightest rfl
theorem d_MRm_lightest_8 : decode MRm_lightest.2.2.1 8 = .ok (.iload_n 2, 1) := lkT_ok tk_MRm_lightest rfl
theorem d_MRm_lightest_9 : decode MRm_lightest.2.2.1 9 = .ok (.bipush (-9), 2) := lkT_ok tk_MRm_lightest rfl
theorem d_MRm_lightest_11 : decode MRm_lightest.2.2.1 11 = .ok (.bipush 9, 2) := lkT_ok tk_MRm_lightest rfl
theorem d_MRm_lightest_13 : decode MRm_lightest.2.2.1 13 = .ok (.invokestatic 107, 3) := lkT_ok tk_MRm_lightest rfl
theorem d_MRm_lightest_16 : decode MRm_lightest.2.2.1 16 = .ok (.ifCond .ne 5, 3) := lkT_ok tk_MRm_lightest rfl
theorem d_MRm_lightest_19 : decode MRm_lightest.2.2.1 19 = .ok (.iconst (-1), 1) := lkT_ok tk_MRm_lightest rfl
theorem d_MRm_lightest_20 : decode MRm_lightest.2.2.1 20 = .ok (.ireturn, 1) := lkT_ok tk_MRm_lightest rfl
theorem d_MRm_lightest_21 : decode MRm_lightest.2.2.1 21 = .ok (.iconst 1, 1) := lkT_ok tk_MRm_lightest rfl
theorem d_MRm_lightest_22 : decode MRm_lightest.2.2.1 22 = .ok (.istore_n 3, 1) := lkT_ok tk_MRm_lightest rfl
theorem d_MRm_lightest_23 : decode MRm_lightest.2.2.1 23 = .ok (.iload_n 3, 1) := lkT_ok tk_MRm_lightest rfl
theorem d_MRm_lightest_24 : decode MRm_lightest.2.2.1 24 = .ok (.bipush 9, 2) := lkT_ok tk_MRm_lightest rfl
theorem d_MRm_lightest_26 : decode MRm_lightest.2.2.1 26 = .ok (.if_icmp .gt 21, 3) := lkT_ok tk_MRm_lightest rfl
theorem d_MRm_lightest_29 : decode MRm_lightest.2.2.1 29 = .ok (.aload_n 0, 1) := lkT_ok tk_MRm_lightest rfl
theorem d_MRm_lightest_30 : decode MRm_lightest.2.2.1 30 = .ok (.iload_n 1, 1) := lkT_ok tk_MRm_lightest rfl
theorem d_MRm_lightest_31 : decode MRm_lightest.2.2.1 31 = .ok (.iload_n 3, 1) := lkT_ok tk_MRm_lightest rfl
theorem d_MRm_lightest_32 : decode MRm_lightest.2.2.1 32 = .ok (.iload_n 2, 1) := lkT_ok tk_MRm_lightest rfl
theorem d_MRm_lightest_33 : decode MRm_lightest.2.2.1 33 = .ok (.invokevirtual 329, 3) := lkT_ok tk_MRm_lightest rfl
theorem d_MRm_lightest_36 : decode MRm_lightest.2.2.1 36 = .ok (.ifCond .lt 5, 3) := lkT_ok tk_MRm_lightest rfl
theorem d_MRm_lightest_39 : decode MRm_lightest.2.2.1 39 = .ok (.iload_n 3, 1) := lkT_ok tk_MRm_lightest rfl
theorem d_MRm_lightest_40 : decode MRm_lightest.2.2.1 40 = .ok (.ireturn, 1) := lkT_ok tk_MRm_lightest rfl
theorem d_MRm_lightest_41 : decode MRm_lightest.2.2.1 41 = .ok (.iinc 3 1, 3) := lkT_ok tk_MRm_lightest rfl
theorem d_MRm_lightest_44 : decode MRm_lightest.2.2.1 44 = .ok (.goto (-21), 3) := lkT_ok tk_MRm_lightest rfl
theorem d_MRm_lightest_47 : decode MRm_lightest.2.2.1 47 = .ok (.bipush (-2), 2) := lkT_ok tk_MRm_lightest rfl
theorem d_MRm_lightest_49 : decode MRm_lightest.2.2.1 49 = .ok (.ireturn, 1) := lkT_ok tk_MRm_lightest rfl
theorem r_MRm_lightest_0 {l1 l2 l3 : Value} {x : Nat} : Rr X d MRm_lightest 0 [.ref x, l1, l2, l3] st h = Rr X d MRm_lightest 1 [.ref x, l1, l2, l3] (.ref x :: st) h := Rr_nx d_MRm_lightest_0 rfl
theorem r_MRm_lightest_1 {l0 l2 l3 : Value} {x : Int32} : Rr X d MRm_lightest 1 [l0, .int x, l2, l3] st h = Rr X d MRm_lightest 2 [l0, .int x, l2, l3] (.int x :: st) h := Rr_nx d_MRm_lightest_1 rfl
theorem r_MRm_lightest_2 {y0 : Int32} {a : Nat} (hO : qO a 10 = true) (hc : ckS st = true) : Rr X (d + 1) MRm_lightest 2 L (.int y0 :: .ref a :: st) (Wd mu la ro et) = (Rr X d MRm_isStone 0 [.ref a, .int y0] [] (Wd mu la ro et)).bind fun q => Rr X (d + 1) MRm_lightest 5 L (psh q.1 st) q.2 := R_iv (av := [.int y0]) d_MRm_lightest_2 fc_10_173 hO (ckS_le hc) rfl (Nat.le_of_ble_eq_true rfl) (Nat.le_of_ble_eq_true rfl)
theorem r_MRm_lightest_5 {x : Int32} : Rr X d MRm_lightest 5 L (.int x :: st) h = if x = 0 then Rr X d MRm_lightest 19 L st h else Rr X d MRm_lightest 8 L st h := R_if_eq d_MRm_lightest_5 (by decide)
theorem r_MRm_lightest_8 {l0 l1 l3 : Value} {x : Int32} : Rr X d MRm_lightest 8 [l0, l1, .int x, l3] st h = Rr X d MRm_lightest 9 [l0, l1, .int x, l3] (.int x :: st) h := Rr_nx d_MRm_lightest_8 rfl
theorem r_MRm_lightest_9 : Rr X d MRm_lightest 9 L st h = Rr X d MRm_lightest 11 L (.int (-9) :: st) h := Rr_nx d_MRm_lightest_9 rfl
theorem r_MRm_lightest_11 : Rr X d MRm_lightest 11 L st h = Rr X d MRm_lightest 13 L (.int (9) :: st) h := Rr_nx d_MRm_lightest_11 rfl
theorem r_MRm_lightest_13 {y0 : Int32} {y1 : Int32} {y2 : Int32} (hc : ckS st = true) : Rr X (d + 1) MRm_lightest 13 L (.int y2 :: .int y1 :: .int y0 :: st) h = (Rr X d MRm_in 0 [.int y0, .int y1, .int y2] [] h).bind fun q => Rr X (d + 1) MRm_lightest 16 L (psh q.1 st) q.2 := R_is (av := [.int y2, .int y1, .int y0]) d_MRm_lightest_13 (Or.inl fc_10_107) (ckS_le hc) rfl (Nat.le_of_ble_eq_true rfl) (Nat.le_of_ble_eq_true rfl)
theorem r_MRm_lightest_16 {x : Int32} : Rr X d MRm_lightest 16 L (.int x :: st) h = if ¬ x = 0 then Rr X d MRm_lightest 21 L st h else Rr X d MRm_lightest 19 L st h := R_if_ne d_MRm_lightest_16 (by decide)
theorem r_MRm_lightest_19 : Rr X d MRm_lightest 19 L st h = Rr X d MRm_lightest 20 L (.int (-1) :: st) h := Rr_nx d_MRm_lightest_19 rfl
theorem r_MRm_lightest_20 {x : Int32} : Rr X d MRm_lightest 20 L [.int x] h = some (some (.int x), h) := R_ir d_MRm_lightest_20 rfl
theorem r_MRm_lightest_21 : Rr X d MRm_lightest 21 L st h = Rr X d MRm_lightest 22 L (.int (1) :: st) h := Rr_nx d_MRm_lightest_21 rfl
theorem r_MRm_lightest_22 {l0 l1 l2 l3 : Value} {x : Int32} : Rr X d MRm_lightest 22 [l0, l1, l2, l3] (.int x :: st) h = Rr X d MRm_lightest 23 (sL [l0, l1, l2, l3] 3 (.int x)) st h := Rr_nx d_MRm_lightest_22 rfl
theorem r_MRm_lightest_23 {l0 l1 l2 : Value} {x : Int32} : Rr X d MRm_lightest 23 [l0, l1, l2, .int x] st h = Rr X d MRm_lightest 24 [l0, l1, l2, .int x] (.int x :: st) h := Rr_nx d_MRm_lightest_23 rfl
theorem r_MRm_lightest_24 : Rr X d MRm_lightest 24 L st h = Rr X d MRm_lightest 26 L (.int (9) :: st) h := Rr_nx d_MRm_lightest_24 rfl
theorem r_MRm_lightest_26 {x y : Int32} : Rr X d MRm_lightest 26 L (.int y :: .int x :: st) h = if y < x then Rr X d MRm_lightest 47 L st h else Rr X d MRm_lightest 29 L st h := R_ic_gt d_MRm_lightest_26 (by decide)
theorem r_MRm_lightest_29 {l1 l2 l3 : Value} {x : Nat} : Rr X d MRm_lightest 29 [.ref x, l1, l2, l3] st h = Rr X d MRm_lightest 30 [.ref x, l1, l2, l3] (.ref x :: st) h := Rr_nx d_MRm_lightest_29 rfl
theorem r_MRm_lightest_30 {l0 l2 l3 : Value} {x : Int32} : Rr X d MRm_lightest 30 [l0, .int x, l2, l3] st h = Rr X d MRm_lightest 31 [l0, .int x, l2, l3] (.int x :: st) h := Rr_nx d_MRm_lightest_30 rfl
theorem r_MRm_lightest_31 {l0 l1 l2 : Value} {x : Int32} : Rr X d MRm_lightest 31 [l0, l1, l2, .int x] st h = Rr X d MRm_lightest 32 [l0, l1, l2, .int x] (.int x :: st) h := Rr_nx d_MRm_lightest_31 rfl
theorem r_MRm_lightest_32 {l0 l1 l3 : Value} {x : Int32} : Rr X d MRm_lightest 32 [l0, l1, .int x, l3] st h = Rr X d MRm_lightest 33 [l0, l1, .int x, l3] (.int x :: st) h := Rr_nx d_MRm_lightest_32 rfl
theorem r_MRm_lightest_33 {y0 : Int32} {y1 : Int32} {y2 : Int32} {a : Nat} (hO : qO a 10 = true) (hc : ckS st = true) : Rr X (d + 1) MRm_lightest 33 L (.int y2 :: .int y1 :: .int y0 :: .ref a :: st) (Wd mu la ro et) = (Rr X d MRm_screwed 0 [.ref a, .int y0, .int y1, .int y2, mkU, mkU, mkU] [] (Wd mu la ro et)).bind fun q => Rr X (d + 1) MRm_lightest 36 L (psh q.1 st) q.2 := R_iv (av := [.int y2, .int y1, .int y0]) d_MRm_lightest_33 fc_10_329 hO (ckS_le hc) rfl (Nat.le_of_ble_eq_true rfl) (Nat.le_of_ble_eq_true rfl)
theorem r_MRm_lightest_36 {x : Int32} : Rr X d MRm_lightest 36 L (.int x :: st) h = if x < 0 then Rr X d MRm_lightest 41 L st h else Rr X d MRm_lightest 39 L st h := R_if_lt d_MRm_lightest_36 (by decide)
theorem r_MRm_lightest_39 {l0 l1 l2 : Value} {x : Int32} : Rr X d MRm_lightest 39 [l0, l1, l2, .int x] st h = Rr X d MRm_lightest 40 [l0, l1, l2, .int x] (.int x :: st) h := Rr_nx d_MRm_lightest_39 rfl
theorem r_MRm_lightest_40 {x : Int32} : Rr X d MRm_lightest 40 L [.int x] h = some (some (.int x), h) := R_ir d_MRm_lightest_40 rfl
theorem r_MRm_lightest_41 {l0 l1 l2 : Value} {x : Int32} : Rr X d MRm_lightest 41 [l0, l1, l2, .int x] st h = Rr X d MRm_lightest 44 (sL [l0, l1, l2, .int x] 3 (.int (x + (1)))) st h := Rr_nx d_MRm_lightest_41 rfl
theorem r_MRm_lightest_44 : Rr X d MRm_lightest 44 L st h = Rr X d MRm_lightest 23 L st h := R_goto d_MRm_lightest_44 (by decide)
theorem r_MRm_lightest_47 : Rr X d MRm_lightest 47 L st h = Rr X d MRm_lightest 49 L (.int (-2) :: st) h := Rr_nx d_MRm_lightest_47 rfl
theorem r_MRm_lightest_49 {x : Int32} : Rr X d MRm_lightest 49 L [.int x] h = some (some (.int x), h) := R_ir d_MRm_lightest_49 rfl
theorem d_MRm_screwed_0 : decode MRm_screwed.2.2.1 0 = .ok (.bipush (-2), 2) := lkT_ok tk_MRm_screwed rfl
theorem d_MRm_screwed_2 : decode MRm_screwed.2.2.1 2 = .ok (.istore 4, 2) := lkT_ok tk_MRm_screwed rfl
theorem d_MRm_screwed_4 : decode MRm_screwed.2.2.1 4 = .ok (.aload_n 0, 1) := lkT_ok tk_MRm_screwed rfl
theorem d_MRm_screwed_5 : decode MRm_screwed.2.2.1 5 = .ok (.iload_n 2, 1) := lkT_ok tk_MRm_screwed rfl
theorem d_MRm_screwed_6 : decode MRm_screwed.2.2.1 6 = .ok (.putfield 145, 3) := lkT_ok tk_MRm_screwed rfl
theorem d_MRm_screwed_9 : decode MRm_screwed.2.2.1 9 = .ok (.bipush (-9), 2) := lkT_ok tk_MRm_screwed rfl
theorem d_MRm_screwed_11 : decode MRm_screwed.2.2.1 11 = .ok (.istore 5, 2) := lkT_ok tk_MRm_screwed rfl
theorem d_MRm_screwed_13 : decode MRm_screwed.2.2.1 13 = .ok (.iload 5, 2) := lkT_ok tk_MRm_screwed rfl
theorem d_MRm_screwed_15 : decode MRm_screwed.2.2.1 15 = .ok (.bipush 9, 2) := lkT_ok tk_MRm_screwed rfl
theorem d_MRm_screwed_17 : decode MRm_screwed.2.2.1 17 = .ok (.if_icmp .gt 73, 3) := lkT_ok tk_MRm_screwed rfl
theorem d_MRm_screwed_20 : decode MRm_screwed.2.2.1 20 = .ok (.iload 4, 2) := lkT_ok tk_MRm_screwed rfl
theorem d_MRm_screwed_22 : decode MRm_screwed.2.2.1 22 = .ok (.ifCond .ge 68, 3) := lkT_ok tk_MRm_screwed rfl
theorem d_MRm_screwed_25 : decode MRm_screwed.2.2.1 25 = .ok (.bipush (-9), 2) := lkT_ok tk_MRm_screwed rfl
theorem d_MRm_screwed_27 : decode MRm_screwed.2.2.1 27 = .ok (.istore 6, 2) := lkT_ok tk_MRm_screwed rfl
theorem d_MRm_screwed_29 : decode MRm_screwed.2.2.1 29 = .ok (.iload 6, 2) := lkT_ok tk_MRm_screwed rfl
theorem d_MRm_screwed_31 : decode MRm_screwed.2.2.1 31 = .ok (.bipush 9, 2) := lkT_ok tk_MRm_screwed rfl
theorem d_MRm_screwed_33 : decode MRm_screwed.2.2.1 33 = .ok (.if_icmp .gt 51, 3) := lkT_ok tk_MRm_screwed rfl
theorem d_MRm_screwed_36 : decode MRm_screwed.2.2.1 36 = .ok (.iload 4, 2) := lkT_ok tk_MRm_screwed rfl
theorem d_MRm_screwed_38 : decode MRm_screwed.2.2.1 38 = .ok (.ifCond .ge 46, 3) := lkT_ok tk_MRm_screwed rfl
theorem d_MRm_screwed_41 : decode MRm_screwed.2.2.1 41 = .ok (.aload_n 0, 1) := lkT_ok tk_MRm_screwed rfl
theorem d_MRm_screwed_42 : decode MRm_screwed.2.2.1 42 = .ok (.iload 5, 2) := lkT_ok tk_MRm_screwed rfl
theorem d_MRm_screwed_44 : decode MRm_screwed.2.2.1 44 = .ok (.putfield 148, 3) := lkT_ok tk_MRm_screwed rfl
theorem d_MRm_screwed_47 : decode MRm_screwed.2.2.1 47 = .ok (.aload_n 0, 1) := lkT_ok tk_MRm_screwed rfl
theorem d_MRm_screwed_48 : decode MRm_screwed.2.2.1 48 = .ok (.iload 6, 2) := lkT_ok tk_MRm_screwed rfl
theorem d_MRm_screwed_50 : decode MRm_screwed.2.2.1 50 = .ok (.putfield 151, 3) := lkT_ok tk_MRm_screwed rfl
theorem d_MRm_screwed_53 : decode MRm_screwed.2.2.1 53 = .ok (.aload_n 0, 1) := lkT_ok tk_MRm_screwed rfl
theorem d_MRm_screwed_54 : decode MRm_screwed.2.2.1 54 = .ok (.iload_n 1, 1) := lkT_ok tk_MRm_screwed rfl
theorem d_MRm_screwed_55 : decode MRm_screwed.2.2.1 55 = .ok (.invokevirtual 177, 3) := lkT_ok tk_MRm_screwed rfl
theorem d_MRm_screwed_58 : decode MRm_screwed.2.2.1 58 = .ok (.iload_n 3, 1) := lkT_ok tk_MRm_screwed rfl
theorem d_MRm_screwed_59 : decode MRm_screwed.2.2.1 59 = .ok (.if_icmp .lt 19, 3) := lkT_ok tk_MRm_screwed rfl
theorem d_MRm_screwed_62 : decode MRm_screwed.2.2.1 62 = .ok (.bipush 100, 2) := lkT_ok tk_MRm_screwed rfl
theorem d_MRm_screwed_64 : decode MRm_screwed.2.2.1 64 = .ok (.iload 5, 2) := lkT_ok tk_MRm_screwed rfl
theorem d_MRm_screwed_66 : decode MRm_screwed.2.2.1 66 = .ok (.bipush 9, 2) := lkT_ok tk_MRm_screwed rfl
theorem d_MRm_screwed_68 : decode MRm_screwed.2.2.1 68 = .ok (.iadd, 1) := lkT_ok tk_MRm_screwed rfl
theorem d_MRm_screwed_69 : decode MRm_screwed.2.2.1 69 = .ok (.imul, 1) := lkT_ok tk_MRm_screwed rfl
theorem d_MRm_screwed_70 : decode MRm_screwed.2.2.1 70 = .ok (.iload 6, 2) := lkT_ok tk_MRm_screwed rfl
theorem d_MRm_screwed_72 : decode MRm_screwed.2.2.1 72 = .ok (.iadd, 1) := lkT_ok tk_MRm_screwed rfl
theorem d_MRm_screwed_73 : decode MRm_screwed.2.2.1 73 = .ok (.bipush 9, 2) := lkT_ok tk_MRm_screwed rfl
theorem d_MRm_screwed_75 : decode MRm_screwed.2.2.1 75 = .ok (.iadd, 1) := lkT_ok tk_MRm_screwed rfl
theorem d_MRm_screwed_76 : decode MRm_screwed.2.2.1 76 = .ok (.istore 4, 2) := lkT_ok tk_MRm_screwed rfl
theorem d_MRm_screwed_78 : decode MRm_screwed.2.2.1 78 = .ok (.iinc 6 1, 3) := lkT_ok tk_MRm_screwed rfl
theorem d_MRm_screwed_81 : decode MRm_screwed.2.2.1 81 = .ok (.goto (-52), 3) := lkT_ok tk_MRm_screwed rfl
theorem d_MRm_screwed_84 : decode MRm_screwed.2.2.1 84 = .ok (.iinc 5 1, 3) := lkT_ok tk_MRm_screwed rfl
theorem d_MRm_screwed_87 : decode MRm_screwed.2.2.1 87 = .ok (.goto (-74), 3) := lkT_ok tk_MRm_screwed rfl
theorem d_MRm_screwed_90 : decode MRm_screwed.2.2.1 90 = .ok (.aload_n 0, 1) := lkT_ok tk_MRm_screwed rfl
theorem d_MRm_screwed_91 : decode MRm_screwed.2.2.1 91 = .ok (.iconst 0, 1) := lkT_ok tk_MRm_screwed rfl
theorem d_MRm_screwed_92 : decode MRm_screwed.2.2.1 92 = .ok (.putfield 145, 3) := lkT_ok tk_MRm_screwed rfl
theorem d_MRm_screwed_95 : decode MRm_screwed.2.2.1 95 = .ok (.iload 4, 2) := lkT_ok tk_MRm_screwed rfl
theorem d_MRm_screwed_97 : decode MRm_screwed.2.2.1 97 = .ok (.ireturn, 1) := lkT_ok tk_MRm_screwed rfl
theorem r_MRm_screwed_0 : Rr X d MRm_screwed 0 L st h = Rr X d MRm_screwed 2 L (.int (-2) :: st) h := Rr_nx d_MRm_screwed_0 rfl
theorem r_MRm_screwed_2 {l0 l1 l2 l3 l4 l5 l6 : Value} {x : Int32} : Rr X d MRm_screwed 2 [l0, l1, l2, l3, l4, l5, l6] (.int x :: st) h = Rr X d MRm_screwed 4 (sL [l0, l1, l2, l3, l4, l5, l6] 4 (.int x)) st h := Rr_nx d_MRm_screwed_2 rfl
theorem r_MRm_screwed_4 {l1 l2 l3 l4 l5 l6 : Value} {x : Nat} : Rr X d MRm_screwed 4 [.ref x, l1, l2, l3, l4, l5, l6] st h = Rr X d MRm_screwed 5 [.ref x, l1, l2, l3, l4, l5, l6] (.ref x :: st) h := Rr_nx d_MRm_screwed_4 rfl
theorem r_MRm_screwed_5 {l0 l1 l3 l4 l5 l6 : Value} {x : Int32} : Rr X d MRm_screwed 5 [l0, l1, .int x, l3, l4, l5, l6] st h = Rr X d MRm_screwed 6 [l0, l1, .int x, l3, l4, l5, l6] (.int x :: st) h := Rr_nx d_MRm_screwed_5 rfl
theorem r_MRm_screwed_6 {a : Nat} {x : Int32} (hq : qI a 10 9 = true) : Rr X d MRm_screwed 6 L (.int x :: .ref a :: st) (Wd mu la ro et) = Rr X d MRm_screwed 9 L st (Wd (up2 mu a 9 x) la ro et) := R_pfI d_MRm_screwed_6 ff_10_145 hq
theorem r_MRm_screwed_9 : Rr X d MRm_screwed 9 L st h = Rr X d MRm_screwed 11 L (.int (-9) :: st) h := Rr_nx d_MRm_screwed_9 rfl
theorem r_MRm_screwed_11 {l0 l1 l2 l3 l4 l5 l6 : Value} {x : Int32} : Rr X d MRm_screwed 11 [l0, l1, l2, l3, l4, l5, l6] (.int x :: st) h = Rr X d MRm_screwed 13 (sL [l0, l1, l2, l3, l4, l5, l6] 5 (.int x)) st h := Rr_nx d_MRm_screwed_11 rfl
theorem r_MRm_screwed_13 {l0 l1 l2 l3 l4 l6 : Value} {x : Int32} : Rr X d MRm_screwed 13 [l0, l1, l2, l3, l4, .int x, l6] st h = Rr X d MRm_screwed 15 [l0, l1, l2, l3, l4, .int x, l6] (.int x :: st) h := Rr_nx d_MRm_screwed_13 rfl
theorem r_MRm_screwed_15 : Rr X d MRm_screwed 15 L st h = Rr X d MRm_screwed 17 L (.int (9) :: st) h := Rr_nx d_MRm_screwed_15 rfl
theorem r_MRm_screwed_17 {x y : Int32} : Rr X d MRm_screwed 17 L (.int y :: .int x :: st) h = if y < x then Rr X d MRm_screwed 90 L st h else Rr X d MRm_screwed 20 L st h := R_ic_gt d_MRm_screwed_17 (by decide)
theorem r_MRm_screwed_20 {l0 l1 l2 l3 l5 l6 : Value} {x : Int32} : Rr X d MRm_screwed 20 [l0, l1, l2, l3, .int x, l5, l6] st h = Rr X d MRm_screwed 22 [l0, l1, l2, l3, .int x, l5, l6] (.int x :: st) h := Rr_nx d_MRm_screwed_20 rfl
theorem r_MRm_screwed_22 {x : Int32} : Rr X d MRm_screwed 22 L (.int x :: st) h = if 0 ≤ x then Rr X d MRm_screwed 90 L st h else Rr X d MRm_screwed 25 L st h := R_if_ge d_MRm_screwed_22 (by decide)
theorem r_MRm_screwed_25 : Rr X d MRm_screwed 25 L st h = Rr X d MRm_screwed 27 L (.int (-9) :: st) h := Rr_nx d_MRm_screwed_25 rfl
theorem r_MRm_screwed_27 {l0 l1 l2 l3 l4 l5 l6 : Value} {x : Int32} : Rr X d MRm_screwed 27 [l0, l1, l2, l3, l4, l5, l6] (.int x :: st) h = Rr X d MRm_screwed 29 (sL [l0, l1, l2, l3, l4, l5, l6] 6 (.int x)) st h := Rr_nx d_MRm_screwed_27 rfl
theorem r_MRm_screwed_29 {l0 l1 l2 l3 l4 l5 : Value} {x : Int32} : Rr X d MRm_screwed 29 [l0, l1, l2, l3, l4, l5, .int x] st h = Rr X d MRm_screwed 31 [l0, l1, l2, l3, l4, l5, .int x] (.int x :: st) h := Rr_nx d_MRm_screwed_29 rfl
theorem r_MRm_screwed_31 : Rr X d MRm_screwed 31 L st h = Rr X d MRm_screwed 33 L (.int (9) :: st) h := Rr_nx d_MRm_screwed_31 rfl
theorem r_MRm_screwed_33 {x y : Int32} : Rr X d MRm_screwed 33 L (.int y :: .int x :: st) h = if y < x then Rr X d MRm_screwed 84 L st h else Rr X d MRm_screwed 36 L st h := R_ic_gt d_MRm_screwed_33 (by decide)
theorem r_MRm_screwed_36 {l0 l1 l2 l3 l5 l6 : Value} {x : Int32} : Rr X d MRm_screwed 36 [l0, l1, l2, l3, .int x, l5, l6] st h = Rr X d MRm_screwed 38 [l0, l1, l2, l3, .int x, l5, l6] (.int x :: st) h := Rr_nx d_MRm_screwed_36 rfl
theorem r_MRm_screwed_38 {x : Int32} : Rr X d MRm_screwed 38 L (.int x :: st) h = if 0 ≤ x then Rr X d MRm_screwed 84 L st h else Rr X d MRm_screwed 41 L st h := R_if_ge d_MRm_screwed_38 (by decide)
theorem r_MRm_screwed_41 {l1 l2 l3 l4 l5 l6 : Value} {x : Nat} : Rr X d MRm_screwed 41 [.ref x, l1, l2, l3, l4, l5, l6] st h = Rr X d MRm_screwed 42 [.ref x, l1, l2, l3, l4, l5, l6] (.ref x :: st) h := Rr_nx d_MRm_screwed_41 rfl
theorem r_MRm_screwed_42 {l0 l1 l2 l3 l4 l6 : Value} {x : Int32} : Rr X d MRm_screwed 42 [l0, l1, l2, l3, l4, .int x, l6] st h = Rr X d MRm_screwed 44 [l0, l1, l2, l3, l4, .int x, l6] (.int x :: st) h := Rr_nx d_MRm_screwed_42 rfl
theorem r_MRm_screwed_44 {a : Nat} {x : Int32} (hq : qI a 10 10 = true) : Rr X d MRm_screwed 44 L (.int x :: .ref a :: st) (Wd mu la ro et) = Rr X d MRm_screwed 47 L st (Wd (up2 mu a 10 x) la ro et) := R_pfI d_MRm_screwed_44 ff_10_148 hq
theorem r_MRm_screwed_47 {l1 l2 l3 l4 l5 l6 : Value} {x : Nat} : Rr X d MRm_screwed 47 [.ref x, l1, l2, l3, l4, l5, l6] st h = Rr X d MRm_screwed 48 [.ref x, l1, l2, l3, l4, l5, l6] (.ref x :: st) h := Rr_nx d_MRm_screwed_47 rfl
theorem r_MRm_screwed_48 {l0 l1 l2 l3 l4 l5 : Value} {x : Int32} : Rr X d MRm_screwed 48 [l0, l1, l2, l3, l4, l5, .int x] st h = Rr X d MRm_screwed 50 [l0, l1, l2, l3, l4, l5, .int x] (.int x :: st) h := Rr_nx d_MRm_screwed_48 rfl
theorem r_MRm_screwed_50 {a : Nat} {x : Int32} (hq : qI a 10 11 = true) : Rr X d MRm_screwed 50 L (.int x :: .ref a :: st) (Wd mu la ro et) = Rr X d MRm_screwed 53 L st (Wd (up2 mu a 11 x) la ro et) := R_pfI d_MRm_screwed_50 ff_10_151 hq
theorem r_MRm_screwed_53 {l1 l2 l3 l4 l5 l6 : Value} {x : Nat} : Rr X d MRm_screwed 53 [.ref x, l1, l2, l3, l4, l5, l6] st h = Rr X d MRm_screwed 54 [.ref x, l1, l2, l3, l4, l5, l6] (.ref x :: st) h := Rr_nx d_MRm_screwed_53 rfl
theorem r_MRm_screwed_54 {l0 l2 l3 l4 l5 l6 : Value} {x : Int32} : Rr X d MRm_screwed 54 [l0, .int x, l2, l3, l4, l5, l6] st h = Rr X d MRm_screwed 55 [l0, .int x, l2, l3, l4, l5, l6] (.int x :: st) h := Rr_nx d_MRm_screwed_54 rfl
theorem r_MRm_screwed_55 {y0 : Int32} {a : Nat} (hO : qO a 10 = true) (hc : ckS st = true) : Rr X (d + 1) MRm_screwed 55 L (.int y0 :: .ref a :: st) (Wd mu la ro et) = (Rr X d MRm_keenOf 0 [.ref a, .int y0] [] (Wd mu la ro et)).bind fun q => Rr X (d + 1) MRm_screwed 58 L (psh q.1 st) q.2 := R_iv (av := [.int y0]) d_MRm_screwed_55 fc_10_177 hO (ckS_le hc) rfl (Nat.le_of_ble_eq_true rfl) (Nat.le_of_ble_eq_true rfl)
theorem r_MRm_screwed_58 {l0 l1 l2 l4 l5 l6 : Value} {x : Int32} : Rr X d MRm_screwed 58 [l0, l1, l2, .int x, l4, l5, l6] st h = Rr X d MRm_screwed 59 [l0, l1, l2, .int x, l4, l5, l6] (.int x :: st) h := Rr_nx d_MRm_screwed_58 rfl
theorem r_MRm_screwed_59 {x y : Int32} : Rr X d MRm_screwed 59 L (.int y :: .int x :: st) h = if x < y then Rr X d MRm_screwed 78 L st h else Rr X d MRm_screwed 62 L st h := R_ic_lt d_MRm_screwed_59 (by decide)
theorem r_MRm_screwed_62 : Rr X d MRm_screwed 62 L st h = Rr X d MRm_screwed 64 L (.int (100) :: st) h := Rr_nx d_MRm_screwed_62 rfl
theorem r_MRm_screwed_64 {l0 l1 l2 l3 l4 l6 : Value} {x : Int32} : Rr X d MRm_screwed 64 [l0, l1, l2, l3, l4, .int x, l6] st h = Rr X d MRm_screwed 66 [l0, l1, l2, l3, l4, .int x, l6] (.int x :: st) h := Rr_nx d_MRm_screwed_64 rfl
theorem r_MRm_screwed_66 : Rr X d MRm_screwed 66 L st h = Rr X d MRm_screwed 68 L (.int (9) :: st) h := Rr_nx d_MRm_screwed_66 rfl
theorem r_MRm_screwed_68 {x y : Int32} : Rr X d MRm_screwed 68 L (.int y :: .int x :: st) h = Rr X d MRm_screwed 69 L (.int (x + y) :: st) h := Rr_nx d_MRm_screwed_68 rfl
theorem r_MRm_screwed_69 {x y : Int32} : Rr X d MRm_screwed 69 L (.int y :: .int x :: st) h = Rr X d MRm_screwed 70 L (.int (x * y) :: st) h := Rr_nx d_MRm_screwed_69 rfl
theorem r_MRm_screwed_70 {l0 l1 l2 l3 l4 l5 : Value} {x : Int32} : Rr X d MRm_screwed 70 [l0, l1, l2, l3, l4, l5, .int x] st h = Rr X d MRm_screwed 72 [l0, l1, l2, l3, l4, l5, .int x] (.int x :: st) h := Rr_nx d_MRm_screwed_70 rfl
theorem r_MRm_screwed_72 {x y : Int32} : Rr X d MRm_screwed 72 L (.int y :: .int x :: st) h = Rr X d MRm_screwed 73 L (.int (x + y) :: st) h := Rr_nx d_MRm_screwed_72 rfl
theorem r_MRm_screwed_73 : Rr X d MRm_screwed 73 L st h = Rr X d MRm_screwed 75 L (.int (9) :: st) h := Rr_nx d_MRm_screwed_73 rfl
theorem r_MRm_screwed_75 {x y : Int32} : Rr X d MRm_screwed 75 L (.int y :: .int x :: st) h = Rr X d MRm_screwed 76 L (.int (x + y) :: st) h := Rr_nx d_MRm_screwed_75 rfl
theorem r_MRm_screwed_76 {l0 l1 l2 l3 l4 l5 l6 : Value} {x : Int32} : Rr X d MRm_screwed 76 [l0, l1, l2, l3, l4, l5, l6] (.int x :: st) h = Rr X d MRm_screwed 78 (sL [l0, l1, l2, l3, l4, l5, l6] 4 (.int x)) st h := Rr_nx d_MRm_screwed_76 rfl
theorem r_MRm_screwed_78 {l0 l1 l2 l3 l4 l5 : Value} {x : Int32} : Rr X d MRm_screwed 78 [l0, l1, l2, l3, l4, l5, .int x] st h = Rr X d MRm_screwed 81 (sL [l0, l1, l2, l3, l4, l5, .int x] 6 (.int (x + (1)))) st h := Rr_nx d_MRm_screwed_78 rfl
theorem r_MRm_screwed_81 : Rr X d MRm_screwed 81 L st h = Rr X d MRm_screwed 29 L st h := R_goto d_MRm_screwed_81 (by decide)
theorem r_MRm_screwed_84 {l0 l1 l2 l3 l4 l6 : Value} {x : Int32} : Rr X d MRm_screwed 84 [l0, l1, l2, l3, l4, .int x, l6] st h = Rr X d MRm_screwed 87 (sL [l0, l1, l2, l3, l4, .int x, l6] 5 (.int (x + (1)))) st h := Rr_nx d_MRm_screwed_84 rfl
theorem r_MRm_screwed_87 : Rr X d MRm_screwed 87 L st h = Rr X d MRm_screwed 13 L st h := R_goto d_MRm_screwed_87 (by decide)
theorem r_MRm_screwed_90 {l1 l2 l3 l4 l5 l6 : Value} {x : Nat} : Rr X d MRm_screwed 90 [.ref x, l1, l2, l3, l4, l5, l6] st h = Rr X d MRm_screwed 91 [.ref x, l1, l2, l3, l4, l5, l6] (.ref x :: st) h := Rr_nx d_MRm_screwed_90 rfl
theorem r_MRm_screwed_91 : Rr X d MRm_screwed 91 L st h = Rr X d MRm_screwed 92 L (.int (0) :: st) h := Rr_nx d_MRm_screwed_91 rfl
theorem r_MRm_screwed_92 {a : Nat} {x : Int32} (hq : qI a 10 9 = true) : Rr X d MRm_screwed 92 L (.int x :: .ref a :: st) (Wd mu la ro et) = Rr X d MRm_screwed 95 L st (Wd (up2 mu a 9 x) la ro et) := R_pfI d_MRm_screwed_92 ff_10_145 hq
theorem r_MRm_screwed_95 {l0 l1 l2 l3 l5 l6 : Value} {x : Int32} : Rr X d MRm_screwed 95 [l0, l1, l2, l3, .int x, l5, l6] st h = Rr X d MRm_screwed 97 [l0, l1, l2, l3, .int x, l5, l6] (.int x :: st) h := Rr_nx d_MRm_screwed_95 rfl
theorem r_MRm_screwed_97 {x : Int32} : Rr X d MRm_screwed 97 L [.int x] h = some (some (.int x), h) := R_ir d_MRm_screwed_97 rfl
end RULES
