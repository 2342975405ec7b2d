section RULES
variable {X : Tok} {d : Nat} {st L : List Value} {h : Hp} {mu : Nat → Nat → Int32} {la : Nat → Nat → Int64} {ro : Nat → Nat → Option Nat} {et : Nat → Option va_E}
theorem d_MTo_stoneAt_0 : decode MTo_stoneAt.2.2.1 0 = .ok (.iload_n 1, 1) := lkT_ok tk_MTo_stoneAt rfl
theorem d_MTo_stoneAt_1 : decode MTo_stoneAt.2.2.1 1 = .ok (.iconst 0, 1) := lkT_ok tk_MTo_stoneAt rfl
theorem d_MTo_stoneAt_2 : decode MTo_stoneAt.2.2.1 2 = .ok (.aload_n 0, 1) := lkT_ok tk_MTo_stoneAt rfl
theorem d_MTo_stoneAt_3 : decode MTo_stoneAt.2.2.1 3 = .ok (.getfield 84, 3) := lkT_ok tk_MTo_stoneAt rfl
theorem d_MTo_stoneAt_6 : decode MTo_stoneAt.2.2.1 6 = .ok (.iconst 1, 1) := lkT_ok tk_MTo_stoneAt rfl
theorem d_MTo_stoneAt_7 : decode MTo_stoneAt.2.2.1 7 = .ok (.isub, 1) := lkT_ok tk_MTo_stoneAt rfl
theorem d_MTo_stoneAt_8 : decode MTo_stoneAt.2.2.1 8 = .ok (.invokestatic 72, 3) := lkT_ok tk_MTo_stoneAt rfl
theorem d_MTo_stoneAt_11 : decode MTo_stoneAt.2.2.1 11 = .ok (.ifCond .eq 21, 3) := lkT_ok tk_MTo_stoneAt rfl
theorem d_MTo_stoneAt_14 : decode MTo_stoneAt.2.2.1 14 = .ok (.iload_n 1, 1) := lkT_ok tk_MTo_stoneAt rfl
theorem d_MTo_stoneAt_15 : decode MTo_stoneAt.2.2.1 15 = .ok (.aload_n 0, 1) := lkT_ok tk_MTo_stoneAt rfl
theorem d_MTo_stoneAt_16 : decode MTo_stoneAt.2.2.1 16 = .ok (.getfield 18, 3) := lkT_ok tk_MTo_stoneAt rfl
theorem d_MTo_stoneAt_19 : decode MTo_stoneAt.2.2.1 19 = .ok (.arraylength, 1) := lkT_ok tk_MTo_stoneAt rfl
theorem d_MTo_stoneAt_20 : decode MTo_stoneAt.2.2.1 20 = .ok (.if_icmp .ge 12, 3) := lkT_ok tk_MTo_stoneAt rfl
theorem d_MTo_stoneAt_23 : decode MTo_stoneAt.2.2.1 23 = .ok (.aload_n 0, 1) := lkT_ok tk_MTo_stoneAt rfl
theorem d_MTo_stoneAt_24 : decode MTo_stoneAt.2.2.1 24 = .ok (.getfield 18, 3) := lkT_ok tk_MTo_stoneAt rfl
theorem d_MTo_stoneAt_27 : decode MTo_stoneAt.2.2.1 27 = .ok (.iload_n 1, 1) := lkT_ok tk_MTo_stoneAt rfl
theorem d_MTo_stoneAt_28 : decode MTo_stoneAt.2.2.1 28 = .ok (.aaload, 1) := lkT_ok tk_MTo_stoneAt rfl
theorem d_MTo_stoneAt_29 : decode MTo_stoneAt.2.2.1 29 = .ok (.goto 4, 3) := lkT_ok tk_MTo_stoneAt rfl
theorem d_MTo_stoneAt_32 : decode MTo_stoneAt.2.2.1 32 = .ok (.aconst_null, 1) := lkT_ok tk_MTo_stoneAt rfl
theorem d_MTo_stoneAt_33 : decode MTo_stoneAt.2.2.1 33 = .ok (.areturn, 1) := lkT_ok tk_MTo_stoneAt rfl
theorem r_MTo_stoneAt_0 {l0 : Value} {x : Int32} : Rr X d MTo_stoneAt 0 [l0, .int x] st h = Rr X d MTo_stoneAt 1 [l0, .int x] (.int x :: st) h := Rr_nx d_MTo_stoneAt_0 rfl
theorem r_MTo_stoneAt_1 : Rr X d MTo_stoneAt 1 L st h = Rr X d MTo_stoneAt 2 L (.int (0) :: st) h := Rr_nx d_MTo_stoneAt_1 rfl
theorem r_MTo_stoneAt_2 {l1 : Value} {x : Nat} : Rr X d MTo_stoneAt 2 [.ref x, l1] st h = Rr X d MTo_stoneAt 3 [.ref x, l1] (.ref x :: st) h := Rr_nx d_MTo_stoneAt_2 rfl
theorem r_MTo_stoneAt_3 {a : Nat} (hq : qI a 9 9 = true) : Rr X d MTo_stoneAt 3 L (.ref a :: st) (Wd mu la ro et) = Rr X d MTo_stoneAt 6 L (.int (mu a 9) :: st) (Wd mu la ro et) := R_gfI d_MTo_stoneAt_3 ff_9_84 hq
theorem r_MTo_stoneAt_6 : Rr X d MTo_stoneAt 6 L st h = Rr X d MTo_stoneAt 7 L (.int (1) :: st) h := Rr_nx d_MTo_stoneAt_6 rfl
theorem r_MTo_stoneAt_7 {x y : Int32} : Rr X d MTo_stoneAt 7 L (.int y :: .int x :: st) h = Rr X d MTo_stoneAt 8 L (.int (x - y) :: st) h := Rr_nx d_MTo_stoneAt_7 rfl
theorem r_MTo_stoneAt_8 {y0 : Int32} {y1 : Int32} {y2 : Int32} (hc : ckS st = true) : Rr X (d + 1) MTo_stoneAt 8 L (.int y2 :: .int y1 :: .int y0 :: st) h = (Rr X d MTo_isWithin 0 [.int y0, .int y1, .int y2] [] h).bind fun q => Rr X (d + 1) MTo_stoneAt 11 L (psh q.1 st) q.2 := R_is (av := [.int y2, .int y1, .int y0]) d_MTo_stoneAt_8 (Or.inl fc_9_72) (ckS_le hc) rfl (Nat.le_of_ble_eq_true rfl) (Nat.le_of_ble_eq_true rfl)
theorem r_MTo_stoneAt_11 {x : Int32} : Rr X d MTo_stoneAt 11 L (.int x :: st) h = if x = 0 then Rr X d MTo_stoneAt 32 L st h else Rr X d MTo_stoneAt 14 L st h := R_if_eq d_MTo_stoneAt_11 (by decide)
theorem r_MTo_stoneAt_14 {l0 : Value} {x : Int32} : Rr X d MTo_stoneAt 14 [l0, .int x] st h = Rr X d MTo_stoneAt 15 [l0, .int x] (.int x :: st) h := Rr_nx d_MTo_stoneAt_14 rfl
theorem r_MTo_stoneAt_15 {l1 : Value} {x : Nat} : Rr X d MTo_stoneAt 15 [.ref x, l1] st h = Rr X d MTo_stoneAt 16 [.ref x, l1] (.ref x :: st) h := Rr_nx d_MTo_stoneAt_15 rfl
theorem r_MTo_stoneAt_16 {a : Nat} (hq : (qR a 9 1).isSome = true) : Rr X d MTo_stoneAt 16 L (.ref a :: st) (Wd mu la ro et) = Rr X d MTo_stoneAt 19 L (.ref (qRd a 9 1) :: st) (Wd mu la ro et) := R_gfR d_MTo_stoneAt_16 ff_9_18 hq
theorem r_MTo_stoneAt_19 {a : Nat} (hq : (qL a).isSome = true) : Rr X d MTo_stoneAt 19 L (.ref a :: st) (Wd mu la ro et) = Rr X d MTo_stoneAt 20 L (.int (Int32.ofNat (qLd a)) :: st) (Wd mu la ro et) := R_lenW d_MTo_stoneAt_19 hq
theorem r_MTo_stoneAt_20 {x y : Int32} : Rr X d MTo_stoneAt 20 L (.int y :: .int x :: st) h = if y ≤ x then Rr X d MTo_stoneAt 32 L st h else Rr X d MTo_stoneAt 23 L st h := R_ic_ge d_MTo_stoneAt_20 (by decide)
theorem r_MTo_stoneAt_23 {l1 : Value} {x : Nat} : Rr X d MTo_stoneAt 23 [.ref x, l1] st h = Rr X d MTo_stoneAt 24 [.ref x, l1] (.ref x :: st) h := Rr_nx d_MTo_stoneAt_23 rfl
theorem r_MTo_stoneAt_24 {a : Nat} (hq : (qR a 9 1).isSome = true) : Rr X d MTo_stoneAt 24 L (.ref a :: st) (Wd mu la ro et) = Rr X d MTo_stoneAt 27 L (.ref (qRd a 9 1) :: st) (Wd mu la ro et) := R_gfR d_MTo_stoneAt_24 ff_9_18 hq
theorem r_MTo_stoneAt_27 {l0 : Value} {x : Int32} : Rr X d MTo_stoneAt 27 [l0, .int x] st h = Rr X d MTo_stoneAt 28 [l0, .int x] (.int x :: st) h := Rr_nx d_MTo_stoneAt_27 rfl
theorem r_MTo_stoneAt_28 {a : Nat} {j : Int32} (hq : (qQ a).isSome = true) : Rr X d MTo_stoneAt 28 L (.int j :: .ref a :: st) (Wd mu la ro et) = if j < 0 ∨ qQd a ≤ j.toNatClampNeg then none else Rr X d MTo_stoneAt 29 L (va_rf (ro a j.toNatClampNeg) :: st) (Wd mu la ro et) := R_aalW d_MTo_stoneAt_28 hq
theorem r_MTo_stoneAt_29 : Rr X d MTo_stoneAt 29 L st h = Rr X d MTo_stoneAt 33 L st h := R_goto d_MTo_stoneAt_29 (by decide)
theorem r_MTo_stoneAt_32 : Rr X d MTo_stoneAt 32 L st h = Rr X d MTo_stoneAt 33 L (.null :: st) h := Rr_nx d_MTo_stoneAt_32 rfl
theorem r_MTo_stoneAt_33 {x : Nat} : Rr X d MTo_stoneAt 33 L [.ref x] h = some (some (.ref x), h) := Rr_rt d_MTo_stoneAt_33 rfl
theorem r_MTo_stoneAt_33n : Rr X d MTo_stoneAt 33 L [.null] h = some (some .null, h) := Rr_rt d_MTo_stoneAt_33 rfl
theorem d_MTo_of_0 : decode MTo_of.2.2.1 0 = .ok (.aload_n 0, 1) := lkT_ok tk_MTo_of rfl
theorem d_MTo_of_1 : decode MTo_of.2.2.1 1 = .ok (.iload_n 1, 1) := lkT_ok tk_MTo_of rfl
theorem d_MTo_of_2 : decode MTo_of.2.2.1 2 = .ok (.invokevirtual 100, 3) := lkT_ok tk_MTo_of rfl
theorem d_MTo_of_5 : decode MTo_of.2.2.1 5 = .ok (.astore_n 3, 1) := lkT_ok tk_MTo_of rfl
theorem d_MTo_of_6 : decode MTo_of.2.2.1 6 = .ok (.aload_n 3, 1) := lkT_ok tk_MTo_of rfl
theorem d_MTo_of_7 : decode MTo_of.2.2.1 7 = .ok (.ifnull 13, 3) := lkT_ok tk_MTo_of rfl
theorem d_MTo_of_10 : decode MTo_of.2.2.1 10 = .ok (.iload_n 2, 1) := lkT_ok tk_MTo_of rfl
theorem d_MTo_of_11 : decode MTo_of.2.2.1 11 = .ok (.iconst 0, 1) := lkT_ok tk_MTo_of rfl
theorem d_MTo_of_12 : decode MTo_of.2.2.1 12 = .ok (.bipush 9, 2) := lkT_ok tk_MTo_of rfl
theorem d_MTo_of_14 : decode MTo_of.2.2.1 14 = .ok (.invokestatic 72, 3) := lkT_ok tk_MTo_of rfl
theorem d_MTo_of_17 : decode MTo_of.2.2.1 17 = .ok (.ifCond .ne 8, 3) := lkT_ok tk_MTo_of rfl
theorem d_MTo_of_20 : decode MTo_of.2.2.1 20 = .ok (.ldc 104, 2) := lkT_ok tk_MTo_of rfl
theorem d_MTo_of_22 : decode MTo_of.2.2.1 22 = .ok (.goto 8, 3) := lkT_ok tk_MTo_of rfl
theorem d_MTo_of_25 : decode MTo_of.2.2.1 25 = .ok (.aload_n 3, 1) := lkT_ok tk_MTo_of rfl
theorem d_MTo_of_26 : decode MTo_of.2.2.1 26 = .ok (.iload_n 2, 1) := lkT_ok tk_MTo_of rfl
theorem d_MTo_of_27 : decode MTo_of.2.2.1 27 = .ok (.invokevirtual 105, 3) := lkT_ok tk_MTo_of rfl
theorem d_MTo_of_30 : decode MTo_of.2.2.1 30 = .ok (.ireturn, 1) := lkT_ok tk_MTo_of rfl
theorem r_MTo_of_0 {l1 l2 l3 : Value} {x : Nat} : Rr X d MTo_of 0 [.ref x, l1, l2, l3] st h = Rr X d MTo_of 1 [.ref x, l1, l2, l3] (.ref x :: st) h := Rr_nx d_MTo_of_0 rfl
theorem r_MTo_of_1 {l0 l2 l3 : Value} {x : Int32} : Rr X d MTo_of 1 [l0, .int x, l2, l3] st h = Rr X d MTo_of 2 [l0, .int x, l2, l3] (.int x :: st) h := Rr_nx d_MTo_of_1 rfl
theorem fc_9_100 : fC 9 100 = some (0, 9, 1, MTo_stoneAt) := rfl
theorem r_MTo_of_2 {y0 : Int32} {a : Nat} (hO : qO a 9 = true) (hc : ckS st = true) : Rr X (d + 1) MTo_of 2 L (.int y0 :: .ref a :: st) (Wd mu la ro et) = (Rr X d MTo_stoneAt 0 [.ref a, .int y0] [] (Wd mu la ro et)).bind fun q => Rr X (d + 1) MTo_of 5 L (psh q.1 st) q.2 := R_iv (av := [.int y0]) d_MTo_of_2 fc_9_100 hO (ckS_le hc) rfl (Nat.le_of_ble_eq_true rfl) (Nat.le_of_ble_eq_true rfl)
theorem r_MTo_of_5 {l0 l1 l2 l3 : Value} {x : Nat} : Rr X d MTo_of 5 [l0, l1, l2, l3] (.ref x :: st) h = Rr X d MTo_of 6 (sL [l0, l1, l2, l3] 3 (.ref x)) st h := Rr_nx d_MTo_of_5 rfl
theorem r_MTo_of_5n {l0 l1 l2 l3 : Value} : Rr X d MTo_of 5 [l0, l1, l2, l3] (.null :: st) h = Rr X d MTo_of 6 (sL [l0, l1, l2, l3] 3 .null) st h := Rr_nx d_MTo_of_5 rfl
theorem r_MTo_of_6 {l0 l1 l2 : Value} {x : Nat} : Rr X d MTo_of 6 [l0, l1, l2, .ref x] st h = Rr X d MTo_of 7 [l0, l1, l2, .ref x] (.ref x :: st) h := Rr_nx d_MTo_of_6 rfl
theorem r_MTo_of_6n {l0 l1 l2 : Value} : Rr X d MTo_of 6 [l0, l1, l2, .null] st h = Rr X d MTo_of 7 [l0, l1, l2, .null] (.null :: st) h := Rr_nx d_MTo_of_6 rfl
theorem r_MTo_of_7 {x : Nat} : Rr X d MTo_of 7 L (.ref x :: st) h = Rr X d MTo_of 10 L st h := R_nul1 d_MTo_of_7
theorem r_MTo_of_7n : Rr X d MTo_of 7 L (.null :: st) h = Rr X d MTo_of 20 L st h := R_nul0 d_MTo_of_7 (by decide)
theorem r_MTo_of_10 {l0 l1 l3 : Value} {x : Int32} : Rr X d MTo_of 10 [l0, l1, .int x, l3] st h = Rr X d MTo_of 11 [l0, l1, .int x, l3] (.int x :: st) h := Rr_nx d_MTo_of_10 rfl
theorem r_MTo_of_11 : Rr X d MTo_of 11 L st h = Rr X d MTo_of 12 L (.int (0) :: st) h := Rr_nx d_MTo_of_11 rfl
theorem r_MTo_of_12 : Rr X d MTo_of 12 L st h = Rr X d MTo_of 14 L (.int (9) :: st) h := Rr_nx d_MTo_of_12 rfl
theorem r_MTo_of_14 {y0 : Int32} {y1 : Int32} {y2 : Int32} (hc : ckS st = true) : Rr X (d + 1) MTo_of 14 L (.int y2 :: .int y1 :: .int y0 :: st) h = (Rr X d MTo_isWithin 0 [.int y0, .int y1, .int y2] [] h).bind fun q => Rr X (d + 1) MTo_of 17 L (psh q.1 st) q.2 := R_is (av := [.int y2, .int y1, .int y0]) d_MTo_of_14 (Or.inl fc_9_72) (ckS_le hc) rfl (Nat.le_of_ble_eq_true rfl) (Nat.le_of_ble_eq_true rfl)
theorem r_MTo_of_17 {x : Int32} : Rr X d MTo_of 17 L (.int x :: st) h = if ¬ x = 0 then Rr X d MTo_of 25 L st h else Rr X d MTo_of 20 L st h := R_if_ne d_MTo_of_17 (by decide)
theorem r_MTo_of_20 : Rr X d MTo_of 20 L st h = Rr X d MTo_of 22 L (.int (-2000000000) :: st) h := Rr_nx d_MTo_of_20 rfl
theorem r_MTo_of_22 : Rr X d MTo_of 22 L st h = Rr X d MTo_of 30 L st h := R_goto d_MTo_of_22 (by decide)
theorem r_MTo_of_25 {l0 l1 l2 : Value} {x : Nat} : Rr X d MTo_of 25 [l0, l1, l2, .ref x] st h = Rr X d MTo_of 26 [l0, l1, l2, .ref x] (.ref x :: st) h := Rr_nx d_MTo_of_25 rfl
theorem r_MTo_of_25n {l0 l1 l2 : Value} : Rr X d MTo_of 25 [l0, l1, l2, .null] st h = Rr X d MTo_of 26 [l0, l1, l2, .null] (.null :: st) h := Rr_nx d_MTo_of_25 rfl
theorem r_MTo_of_26 {l0 l1 l3 : Value} {x : Int32} : Rr X d MTo_of 26 [l0, l1, .int x, l3] st h = Rr X d MTo_of 27 [l0, l1, .int x, l3] (.int x :: st) h := Rr_nx d_MTo_of_26 rfl
theorem fc_9_105 : fC 9 105 = some (0, 7, 1, MSt_measure) := rfl
theorem r_MTo_of_27 {y0 : Int32} {a : Nat} (hO : qO a 7 = true) (hc : ckS st = true) : Rr X (d + 1) MTo_of 27 L (.int y0 :: .ref a :: st) (Wd mu la ro et) = (Rr X d MSt_measure 0 [.ref a, .int y0] [] (Wd mu la ro et)).bind fun q => Rr X (d + 1) MTo_of 30 L (psh q.1 st) q.2 := R_iv (av := [.int y0]) d_MTo_of_27 fc_9_105 hO (ckS_le hc) rfl (Nat.le_of_ble_eq_true rfl) (Nat.le_of_ble_eq_true rfl)
theorem r_MTo_of_30 {x : Int32} : Rr X d MTo_of 30 L [.int x] h = some (some (.int x), h) := R_ir d_MTo_of_30 rfl
theorem d_MTo_lump_0 : decode MTo_lump.2.2.1 0 = .ok (.aload_n 0, 1) := lkT_ok tk_MTo_lump rfl
theorem d_MTo_lump_1 : decode MTo_lump.2.2.1 1 = .ok (.iload_n 1, 1) := lkT_ok tk_MTo_lump rfl
theorem d_MTo_lump_2 : decode MTo_lump.2.2.1 2 = .ok (.invokevirtual 100, 3) := lkT_ok tk_MTo_lump rfl
theorem d_MTo_lump_5 : decode MTo_lump.2.2.1 5 = .ok (.astore 4, 2) := lkT_ok tk_MTo_lump rfl
theorem d_MTo_lump_7 : decode MTo_lump.2.2.1 7 = .ok (.aload 4, 2) := lkT_ok tk_MTo_lump rfl
theorem d_MTo_lump_9 : decode MTo_lump.2.2.1 9 = .ok (.ifnull 27, 3) := lkT_ok tk_MTo_lump rfl
theorem d_MTo_lump_12 : decode MTo_lump.2.2.1 12 = .ok (.iload_n 2, 1) := lkT_ok tk_MTo_lump rfl
theorem d_MTo_lump_13 : decode MTo_lump.2.2.1 13 = .ok (.iconst 0, 1) := lkT_ok tk_MTo_lump rfl
theorem d_MTo_lump_14 : decode MTo_lump.2.2.1 14 = .ok (.aload 4, 2) := lkT_ok tk_MTo_lump rfl
theorem d_MTo_lump_16 : decode MTo_lump.2.2.1 16 = .ok (.getfield 109, 3) := lkT_ok tk_MTo_lump rfl
theorem d_MTo_lump_19 : decode MTo_lump.2.2.1 19 = .ok (.iconst 1, 1) := lkT_ok tk_MTo_lump rfl
theorem d_MTo_lump_20 : decode MTo_lump.2.2.1 20 = .ok (.isub, 1) := lkT_ok tk_MTo_lump rfl
theorem d_MTo_lump_21 : decode MTo_lump.2.2.1 21 = .ok (.invokestatic 72, 3) := lkT_ok tk_MTo_lump rfl
theorem d_MTo_lump_24 : decode MTo_lump.2.2.1 24 = .ok (.ifCond .eq 12, 3) := lkT_ok tk_MTo_lump rfl
theorem d_MTo_lump_27 : decode MTo_lump.2.2.1 27 = .ok (.iload_n 3, 1) := lkT_ok tk_MTo_lump rfl
theorem d_MTo_lump_28 : decode MTo_lump.2.2.1 28 = .ok (.iconst 0, 1) := lkT_ok tk_MTo_lump rfl
theorem d_MTo_lump_29 : decode MTo_lump.2.2.1 29 = .ok (.iconst 2, 1) := lkT_ok tk_MTo_lump rfl
theorem d_MTo_lump_30 : decode MTo_lump.2.2.1 30 = .ok (.invokestatic 72, 3) := lkT_ok tk_MTo_lump rfl
theorem d_MTo_lump_33 : decode MTo_lump.2.2.1 33 = .ok (.ifCond .ne 6, 3) := lkT_ok tk_MTo_lump rfl
theorem d_MTo_lump_36 : decode MTo_lump.2.2.1 36 = .ok (.ldc 104, 2) := lkT_ok tk_MTo_lump rfl
theorem d_MTo_lump_38 : decode MTo_lump.2.2.1 38 = .ok (.ireturn, 1) := lkT_ok tk_MTo_lump rfl
theorem d_MTo_lump_39 : decode MTo_lump.2.2.1 39 = .ok (.aload 4, 2) := lkT_ok tk_MTo_lump rfl
theorem d_MTo_lump_41 : decode MTo_lump.2.2.1 41 = .ok (.iload_n 2, 1) := lkT_ok tk_MTo_lump rfl
theorem d_MTo_lump_42 : decode MTo_lump.2.2.1 42 = .ok (.iload_n 3, 1) := lkT_ok tk_MTo_lump rfl
theorem d_MTo_lump_43 : decode MTo_lump.2.2.1 43 = .ok (.invokevirtual 112, 3) := lkT_ok tk_MTo_lump rfl
theorem d_MTo_lump_46 : decode MTo_lump.2.2.1 46 = .ok (.ireturn, 1) := lkT_ok tk_MTo_lump rfl
theorem r_MTo_lump_0 {l1 l2 l3 l4 : Value} {x : Nat} : Rr X d MTo_lump 0 [.ref x, l1, l2, l3, l4] st h = Rr X d MTo_lump 1 [.ref x, l1, l2, l3, l4] (.ref x :: st) h := Rr_nx d_MTo_lump_0 rfl
theorem r_MTo_lump_1 {l0 l2 l3 l4 : Value} {x : Int32} : Rr X d MTo_lump 1 [l0, .int x, l2, l3, l4] st h = Rr X d MTo_lump 2 [l0, .int x, l2, l3, l4] (.int x :: st) h := Rr_nx d_MTo_lump_1 rfl
theorem r_MTo_lump_2 {y0 : Int32} {a : Nat} (hO : qO a 9 = true) (hc : ckS st = true) : Rr X (d + 1) MTo_lump 2 L (.int y0 :: .ref a :: st) (Wd mu la ro et) = (Rr X d MTo_stoneAt 0 [.ref a, .int y0] [] (Wd mu la ro et)).bind fun q => Rr X (d + 1) MTo_lump 5 L (psh q.1 st) q.2 := R_iv (av := [.int y0]) d_MTo_lump_2 fc_9_100 hO (ckS_le hc) rfl (Nat.le_of_ble_eq_true rfl) (Nat.le_of_ble_eq_true rfl)
theorem r_MTo_lump_5 {l0 l1 l2 l3 l4 : Value} {x : Nat} : Rr X d MTo_lump 5 [l0, l1, l2, l3, l4] (.ref x :: st) h = Rr X d MTo_lump 7 (sL [l0, l1, l2, l3, l4] 4 (.ref x)) st h := Rr_nx d_MTo_lump_5 rfl
theorem r_MTo_lump_5n {l0 l1 l2 l3 l4 : Value} : Rr X d MTo_lump 5 [l0, l1, l2, l3, l4] (.null :: st) h = Rr X d MTo_lump 7 (sL [l0, l1, l2, l3, l4] 4 .null) st h := Rr_nx d_MTo_lump_5 rfl
theorem r_MTo_lump_7 {l0 l1 l2 l3 : Value} {x : Nat} : Rr X d MTo_lump 7 [l0, l1, l2, l3, .ref x] st h = Rr X d MTo_lump 9 [l0, l1, l2, l3, .ref x] (.ref x :: st) h := Rr_nx d_MTo_lump_7 rfl
theorem r_MTo_lump_7n {l0 l1 l2 l3 : Value} : Rr X d MTo_lump 7 [l0, l1, l2, l3, .null] st h = Rr X d MTo_lump 9 [l0, l1, l2, l3, .null] (.null :: st) h := Rr_nx d_MTo_lump_7 rfl
theorem r_MTo_lump_9 {x : Nat} : Rr X d MTo_lump 9 L (.ref x :: st) h = Rr X d MTo_lump 12 L st h := R_nul1 d_MTo_lump_9
theorem r_MTo_lump_9n : Rr X d MTo_lump 9 L (.null :: st) h = Rr X d MTo_lump 36 L st h := R_nul0 d_MTo_lump_9 (by decide)
theorem r_MTo_lump_12 {l0 l1 l3 l4 : Value} {x : Int32} : Rr X d MTo_lump 12 [l0, l1, .int x, l3, l4] st h = Rr X d MTo_lump 13 [l0, l1, .int x, l3, l4] (.int x :: st) h := Rr_nx d_MTo_lump_12 rfl
theorem r_MTo_lump_13 : Rr X d MTo_lump 13 L st h = Rr X d MTo_lump 14 L (.int (0) :: st) h := Rr_nx d_MTo_lump_13 rfl
theorem r_MTo_lump_14 {l0 l1 l2 l3 : Value} {x : Nat} : Rr X d MTo_lump 14 [l0, l1, l2, l3, .ref x] st h = Rr X d MTo_lump 16 [l0, l1, l2, l3, .ref x] (.ref x :: st) h := Rr_nx d_MTo_lump_14 rfl
theorem r_MTo_lump_14n {l0 l1 l2 l3 : Value} : Rr X d MTo_lump 14 [l0, l1, l2, l3, .null] st h = Rr X d MTo_lump 16 [l0, l1, l2, l3, .null] (.null :: st) h := Rr_nx d_MTo_lump_14 rfl
theorem ff_9_109 : fF 9 109 = some (7, 4, 0, 0) := rfl
theorem r_MTo_lump_16 {a : Nat} (hq : qI a 7 4 = true) : Rr X d MTo_lump 16 L (.ref a :: st) (Wd mu la ro et) = Rr X d MTo_lump 19 L (.int (mu a 4) :: st) (Wd mu la ro et) := R_gfI d_MTo_lump_16 ff_9_109 hq
theorem r_MTo_lump_19 : Rr X d MTo_lump 19 L st h = Rr X d MTo_lump 20 L (.int (1) :: st) h := Rr_nx d_MTo_lump_19 rfl
theorem r_MTo_lump_20 {x y : Int32} : Rr X d MTo_lump 20 L (.int y :: .int x :: st) h = Rr X d MTo_lump 21 L (.int (x - y) :: st) h := Rr_nx d_MTo_lump_20 rfl
theorem r_MTo_lump_21 {y0 : Int32} {y1 : Int32} {y2 : Int32} (hc : ckS st = true) : Rr X (d + 1) MTo_lump 21 L (.int y2 :: .int y1 :: .int y0 :: st) h = (Rr X d MTo_isWithin 0 [.int y0, .int y1, .int y2] [] h).bind fun q => Rr X (d + 1) MTo_lump 24 L (psh q.1 st) q.2 := R_is (av := [.int y2, .int y1, .int y0]) d_MTo_lump_21 (Or.inl fc_9_72) (ckS_le hc) rfl (Nat.le_of_ble_eq_true rfl) (Nat.le_of_ble_eq_true rfl)
theorem r_MTo_lump_24 {x : Int32} : Rr X d MTo_lump 24 L (.int x :: st) h = if x = 0 then Rr X d MTo_lump 36 L st h else Rr X d MTo_lump 27 L st h := R_if_eq d_MTo_lump_24 (by decide)
theorem r_MTo_lump_27 {l0 l1 l2 l4 : Value} {x : Int32} : Rr X d MTo_lump 27 [l0, l1, l2, .int x, l4] st h = Rr X d MTo_lump 28 [l0, l1, l2, .int x, l4] (.int x :: st) h := Rr_nx d_MTo_lump_27 rfl
theorem r_MTo_lump_28 : Rr X d MTo_lump 28 L st h = Rr X d MTo_lump 29 L (.int (0) :: st) h := Rr_nx d_MTo_lump_28 rfl
theorem r_MTo_lump_29 : Rr X d MTo_lump 29 L st h = Rr X d MTo_lump 30 L (.int (2) :: st) h := Rr_nx d_MTo_lump_29 rfl
theorem r_MTo_lump_30 {y0 : Int32} {y1 : Int32} {y2 : Int32} (hc : ckS st = true) : Rr X (d + 1) MTo_lump 30 L (.int y2 :: .int y1 :: .int y0 :: st) h = (Rr X d MTo_isWithin 0 [.int y0, .int y1, .int y2] [] h).bind fun q => Rr X (d + 1) MTo_lump 33 L (psh q.1 st) q.2 := R_is (av := [.int y2, .int y1, .int y0]) d_MTo_lump_30 (Or.inl fc_9_72) (ckS_le hc) rfl (Nat.le_of_ble_eq_true rfl) (Nat.le_of_ble_eq_true rfl)
theorem r_MTo_lump_33 {x : Int32} : Rr X d MTo_lump 33 L (.int x :: st) h = if ¬ x = 0 then Rr X d MTo_lump 39 L st h else Rr X d MTo_lump 36 L st h := R_if_ne d_MTo_lump_33 (by decide)
theorem r_MTo_lump_36 : Rr X d MTo_lump 36 L st h = Rr X d MTo_lump 38 L (.int (-2000000000) :: st) h := Rr_nx d_MTo_lump_36 rfl
theorem r_MTo_lump_38 {x : Int32} : Rr X d MTo_lump 38 L [.int x] h = some (some (.int x), h) := R_ir d_MTo_lump_38 rfl
theorem r_MTo_lump_39 {l0 l1 l2 l3 : Value} {x : Nat} : Rr X d MTo_lump 39 [l0, l1, l2, l3, .ref x] st h = Rr X d MTo_lump 41 [l0, l1, l2, l3, .ref x] (.ref x :: st) h := Rr_nx d_MTo_lump_39 rfl
theorem r_MTo_lump_39n {l0 l1 l2 l3 : Value} : Rr X d MTo_lump 39 [l0, l1, l2, l3, .null] st h = Rr X d MTo_lump 41 [l0, l1, l2, l3, .null] (.null :: st) h := Rr_nx d_MTo_lump_39 rfl
theorem r_MTo_lump_41 {l0 l1 l3 l4 : Value} {x : Int32} : Rr X d MTo_lump 41 [l0, l1, .int x, l3, l4] st h = Rr X d MTo_lump 42 [l0, l1, .int x, l3, l4] (.int x :: st) h := Rr_nx d_MTo_lump_41 rfl
theorem r_MTo_lump_42 {l0 l1 l2 l4 : Value} {x : Int32} : Rr X d MTo_lump 42 [l0, l1, l2, .int x, l4] st h = Rr X d MTo_lump 43 [l0, l1, l2, .int x, l4] (.int x :: st) h := Rr_nx d_MTo_lump_42 rfl
theorem fc_9_112 : fC 9 112 = some (0, 7, 2, MSt_lumpPart) := rfl
theorem r_MTo_lump_43 {y0 : Int32} {y1 : Int32} {a : Nat} (hO : qO a 7 = true) (hc : ckS st = true) : Rr X (d + 1) MTo_lump 43 L (.int y1 :: .int y0 :: .ref a :: st) (Wd mu la ro et) = (Rr X d MSt_lumpPart 0 [.ref a, .int y0, .int y1] [] (Wd mu la ro et)).bind fun q => Rr X (d + 1) MTo_lump 46 L (psh q.1 st) q.2 := R_iv (av := [.int y1, .int y0]) d_MTo_lump_43 fc_9_112 hO (ckS_le hc) rfl (Nat.le_of_ble_eq_true rfl) (Nat.le_of_ble_eq_true rfl)
theorem r_MTo_lump_46 {x : Int32} : Rr X d MTo_lump 46 L [.int x] h = some (some (.int x), h) := R_ir d_MTo_lump_46 rfl
theorem d_MTo_grows_0 : decode MTo_grows.2.2.1 0 = .ok (.aload_n 0, 1) := lkT_ok tk_MTo_grows rfl
theorem d_MTo_grows_1 : decode MTo_grows.2.2.1 1 = .ok (.iload_n 1, 1) := lkT_ok tk_MTo_grows rfl
theorem d_MTo_grows_2 : decode MTo_grows.2.2.1 2 = .ok (.invokevirtual 100, 3) := lkT_ok tk_MTo_grows rfl
theorem d_MTo_grows_5 : decode MTo_grows.2.2.1 5 = .ok (.astore_n 3, 1) := lkT_ok tk_MTo_grows rfl
theorem d_MTo_grows_6 : decode MTo_grows.2.2.1 6 = .ok (.aload_n 3, 1) := lkT_ok tk_MTo_grows rfl
theorem d_MTo_grows_7 : decode MTo_grows.2.2.1 7 = .ok (.ifnull 13, 3) := lkT_ok tk_MTo_grows rfl
theorem d_MTo_grows_10 : decode MTo_grows.2.2.1 10 = .ok (.iload_n 2, 1) := lkT_ok tk_MTo_grows rfl
theorem d_MTo_grows_11 : decode MTo_grows.2.2.1 11 = .ok (.iconst 1, 1) := lkT_ok tk_MTo_grows rfl
theorem d_MTo_grows_12 : decode MTo_grows.2.2.1 12 = .ok (.if_icmp .eq 10, 3) := lkT_ok tk_MTo_grows rfl
theorem d_MTo_grows_15 : decode MTo_grows.2.2.1 15 = .ok (.iload_n 2, 1) := lkT_ok tk_MTo_grows rfl
theorem d_MTo_grows_16 : decode MTo_grows.2.2.1 16 = .ok (.iconst (-1), 1) := lkT_ok tk_MTo_grows rfl
theorem d_MTo_grows_17 : decode MTo_grows.2.2.1 17 = .ok (.if_icmp .eq 5, 3) := lkT_ok tk_MTo_grows rfl
theorem d_MTo_grows_20 : decode MTo_grows.2.2.1 20 = .ok (.iconst (-1), 1) := lkT_ok tk_MTo_grows rfl
theorem d_MTo_grows_21 : decode MTo_grows.2.2.1 21 = .ok (.ireturn, 1) := lkT_ok tk_MTo_grows rfl
theorem d_MTo_grows_22 : decode MTo_grows.2.2.1 22 = .ok (.aload_n 3, 1) := lkT_ok tk_MTo_grows rfl
theorem d_MTo_grows_23 : decode MTo_grows.2.2.1 23 = .ok (.invokevirtual 131, 3) := lkT_ok tk_MTo_grows rfl
theorem d_MTo_grows_26 : decode MTo_grows.2.2.1 26 = .ok (.iload_n 2, 1) := lkT_ok tk_MTo_grows rfl
theorem d_MTo_grows_27 : decode MTo_grows.2.2.1 27 = .ok (.imul, 1) := lkT_ok tk_MTo_grows rfl
theorem d_MTo_grows_28 : decode MTo_grows.2.2.1 28 = .ok (.istore 4, 2) := lkT_ok tk_MTo_grows rfl
theorem d_MTo_grows_30 : decode MTo_grows.2.2.1 30 = .ok (.iload 4, 2) := lkT_ok tk_MTo_grows rfl
theorem d_MTo_grows_32 : decode MTo_grows.2.2.1 32 = .ok (.ifCond .ne 7, 3) := lkT_ok tk_MTo_grows rfl
theorem d_MTo_grows_35 : decode MTo_grows.2.2.1 35 = .ok (.iconst 0, 1) := lkT_ok tk_MTo_grows rfl
theorem d_MTo_grows_36 : decode MTo_grows.2.2.1 36 = .ok (.goto 13, 3) := lkT_ok tk_MTo_grows rfl
theorem d_MTo_grows_39 : decode MTo_grows.2.2.1 39 = .ok (.iload 4, 2) := lkT_ok tk_MTo_grows rfl
theorem d_MTo_grows_41 : decode MTo_grows.2.2.1 41 = .ok (.ifCond .le 7, 3) := lkT_ok tk_MTo_grows rfl
theorem d_MTo_grows_44 : decode MTo_grows.2.2.1 44 = .ok (.iconst 1, 1) := lkT_ok tk_MTo_grows rfl
theorem d_MTo_grows_45 : decode MTo_grows.2.2.1 45 = .ok (.goto 4, 3) := lkT_ok tk_MTo_grows rfl
theorem d_MTo_grows_48 : decode MTo_grows.2.2.1 48 = .ok (.iconst 2, 1) := lkT_ok tk_MTo_grows rfl
theorem d_MTo_grows_49 : decode MTo_grows.2.2.1 49 = .ok (.ireturn, 1) := lkT_ok tk_MTo_grows rfl
theorem r_MTo_grows_0 {l1 l2 l3 l4 : Value} {x : Nat} : Rr X d MTo_grows 0 [.ref x, l1, l2, l3, l4] st h = Rr X d MTo_grows 1 [.ref x, l1, l2, l3, l4] (.ref x :: st) h := Rr_nx d_MTo_grows_0 rfl
theorem r_MTo_grows_1 {l0 l2 l3 l4 : Value} {x : Int32} : Rr X d MTo_grows 1 [l0, .int x, l2, l3, l4] st h = Rr X d MTo_grows 2 [l0, .int x, l2, l3, l4] (.int x :: st) h := Rr_nx d_MTo_grows_1 rfl
theorem r_MTo_grows_2 {y0 : Int32} {a : Nat} (hO : qO a 9 = true) (hc : ckS st = true) : Rr X (d + 1) MTo_grows 2 L (.int y0 :: .ref a :: st) (Wd mu la ro et) = (Rr X d MTo_stoneAt 0 [.ref a, .int y0] [] (Wd mu la ro et)).bind fun q => Rr X (d + 1) MTo_grows 5 L (psh q.1 st) q.2 := R_iv (av := [.int y0]) d_MTo_grows_2 fc_9_100 hO (ckS_le hc) rfl (Nat.le_of_ble_eq_true rfl) (Nat.le_of_ble_eq_true rfl)
theorem r_MTo_grows_5 {l0 l1 l2 l3 l4 : Value} {x : Nat} : Rr X d MTo_grows 5 [l0, l1, l2, l3, l4] (.ref x :: st) h = Rr X d MTo_grows 6 (sL [l0, l1, l2, l3, l4] 3 (.ref x)) st h := Rr_nx d_MTo_grows_5 rfl
theorem r_MTo_grows_5n {l0 l1 l2 l3 l4 : Value} : Rr X d MTo_grows 5 [l0, l1, l2, l3, l4] (.null :: st) h = Rr X d MTo_grows 6 (sL [l0, l1, l2, l3, l4] 3 .null) st h := Rr_nx d_MTo_grows_5 rfl
theorem r_MTo_grows_6 {l0 l1 l2 l4 : Value} {x : Nat} : Rr X d MTo_grows 6 [l0, l1, l2, .ref x, l4] st h = Rr X d MTo_grows 7 [l0, l1, l2, .ref x, l4] (.ref x :: st) h := Rr_nx d_MTo_grows_6 rfl
theorem r_MTo_grows_6n {l0 l1 l2 l4 : Value} : Rr X d MTo_grows 6 [l0, l1, l2, .null, l4] st h = Rr X d MTo_grows 7 [l0, l1, l2, .null, l4] (.null :: st) h := Rr_nx d_MTo_grows_6 rfl
theorem r_MTo_grows_7 {x : Nat} : Rr X d MTo_grows 7 L (.ref x :: st) h = Rr X d MTo_grows 10 L st h := R_nul1 d_MTo_grows_7
theorem r_MTo_grows_7n : Rr X d MTo_grows 7 L (.null :: st) h = Rr X d MTo_grows 20 L st h := R_nul0 d_MTo_grows_7 (by decide)
theorem r_MTo_grows_10 {l0 l1 l3 l4 : Value} {x : Int32} : Rr X d MTo_grows 10 [l0, l1, .int x, l3, l4] st h = Rr X d MTo_grows 11 [l0, l1, .int x, l3, l4] (.int x :: st) h := Rr_nx d_MTo_grows_10 rfl
theorem r_MTo_grows_11 : Rr X d MTo_grows 11 L st h = Rr X d MTo_grows 12 L (.int (1) :: st) h := Rr_nx d_MTo_grows_11 rfl
theorem r_MTo_grows_12 {x y : Int32} : Rr X d MTo_grows 12 L (.int y :: .int x :: st) h = if x = y then Rr X d MTo_grows 22 L st h else Rr X d MTo_grows 15 L st h := R_ic_eq d_MTo_grows_12 (by decide)
theorem r_MTo_grows_15 {l0 l1 l3 l4 : Value} {x : Int32} : Rr X d MTo_grows 15 [l0, l1, .int x, l3, l4] st h = Rr X d MTo_grows 16 [l0, l1, .int x, l3, l4] (.int x :: st) h := Rr_nx d_MTo_grows_15 rfl
theorem r_MTo_grows_16 : Rr X d MTo_grows 16 L st h = Rr X d MTo_grows 17 L (.int (-1) :: st) h := Rr_nx d_MTo_grows_16 rfl
theorem r_MTo_grows_17 {x y : Int32} : Rr X d MTo_grows 17 L (.int y :: .int x :: st) h = if x = y then Rr X d MTo_grows 22 L st h else Rr X d MTo_grows 20 L st h := R_ic_eq d_MTo_grows_17 (by decide)
theorem r_MTo_grows_20 : Rr X d MTo_grows 20 L st h = Rr X d MTo_grows 21 L (.int (-1) :: st) h := Rr_nx d_MTo_grows_20 rfl
theorem r_MTo_grows_21 {x : Int32} : Rr X d MTo_grows 21 L [.int x] h = some (some (.int x), h) := R_ir d_MTo_grows_21 rfl
theorem r_MTo_grows_22 {l0 l1 l2 l4 : Value} {x : Nat} : Rr X d MTo_grows 22 [l0, l1, l2, .ref x, l4] st h = Rr X d MTo_grows 23 [l0, l1, l2, .ref x, l4] (.ref x :: st) h := Rr_nx d_MTo_grows_22 rfl
theorem r_MTo_grows_22n {l0 l1 l2 l4 : Value} : Rr X d MTo_grows 22 [l0, l1, l2, .null, l4] st h = Rr X d MTo_grows 23 [l0, l1, l2, .null, l4] (.null :: st) h := Rr_nx d_MTo_grows_22 rfl
theorem fc_9_131 : fC 9 131 = some (0, 7, 0, MSt_keen) := rfl
theorem r_MTo_grows_23 {a : Nat} (hO : qO a 7 = true) (hc : ckS st = true) : Rr X (d + 1) MTo_grows 23 L (.ref a :: st) (Wd mu la ro et) = (Rr X d MSt_keen 0 [.ref a] [] (Wd mu la ro et)).bind fun q => Rr X (d + 1) MTo_grows 26 L (psh q.1 st) q.2 := R_iv (av := []) d_MTo_grows_23 fc_9_131 hO (ckS_le hc) rfl (Nat.le_of_ble_eq_true rfl) (Nat.le_of_ble_eq_true rfl)
theorem r_MTo_grows_26 {l0 l1 l3 l4 : Value} {x : Int32} : Rr X d MTo_grows 26 [l0, l1, .int x, l3, l4] st h = Rr X d MTo_grows 27 [l0, l1, .int x, l3, l4] (.int x :: st) h := Rr_nx d_MTo_grows_26 rfl
theorem r_MTo_grows_27 {x y : Int32} : Rr X d MTo_grows 27 L (.int y :: .int x :: st) h = Rr X d MTo_grows 28 L (.int (x * y) :: st) h := Rr_nx d_MTo_grows_27 rfl
theorem r_MTo_grows_28 {l0 l1 l2 l3 l4 : Value} {x : Int32} : Rr X d MTo_grows 28 [l0, l1, l2, l3, l4] (.int x :: st) h = Rr X d MTo_grows 30 (sL [l0, l1, l2, l3, l4] 4 (.int x)) st h := Rr_nx d_MTo_grows_28 rfl
theorem r_MTo_grows_30 {l0 l1 l2 l3 : Value} {x : Int32} : Rr X d MTo_grows 30 [l0, l1, l2, l3, .int x] st h = Rr X d MTo_grows 32 [l0, l1, l2, l3, .int x] (.int x :: st) h := Rr_nx d_MTo_grows_30 rfl
theorem r_MTo_grows_32 {x : Int32} : Rr X d MTo_grows 32 L (.int x :: st) h = if ¬ x = 0 then Rr X d MTo_grows 39 L st h else Rr X d MTo_grows 35 L st h := R_if_ne d_MTo_grows_32 (by decide)
theorem r_MTo_grows_35 : Rr X d MTo_grows 35 L st h = Rr X d MTo_grows 36 L (.int (0) :: st) h := Rr_nx d_MTo_grows_35 rfl
theorem r_MTo_grows_36 : Rr X d MTo_grows 36 L st h = Rr X d MTo_grows 49 L st h := R_goto d_MTo_grows_36 (by decide)
theorem r_MTo_grows_39 {l0 l1 l2 l3 : Value} {x : Int32} : Rr X d MTo_grows 39 [l0, l1, l2, l3, .int x] st h = Rr X d MTo_grows 41 [l0, l1, l2, l3, .int x] (.int x :: st) h := Rr_nx d_MTo_grows_39 rfl
theorem r_MTo_grows_41 {x : Int32} : Rr X d MTo_grows 41 L (.int x :: st) h = if x ≤ 0 then Rr X d MTo_grows 48 L st h else Rr X d MTo_grows 44 L st h := R_if_le d_MTo_grows_41 (by decide)
theorem r_MTo_grows_44 : Rr X d MTo_grows 44 L st h = Rr X d MTo_grows 45 L (.int (1) :: st) h := Rr_nx d_MTo_grows_44 rfl
theorem r_MTo_grows_45 : Rr X d MTo_grows 45 L st h = Rr X d MTo_grows 49 L st h := R_goto d_MTo_grows_45 (by decide)
theorem r_MTo_grows_48 : Rr X d MTo_grows 48 L st h = Rr X d MTo_grows 49 L (.int (2) :: st) h := Rr_nx d_MTo_grows_48 rfl
theorem r_MTo_grows_49 {x : Int32} : Rr X d MTo_grows 49 L [.int x] h = some (some (.int x), h) := R_ir d_MTo_grows_49 rfl
theorem d_MSt_rate_0 : decode MSt_rate.2.2.1 0 = .ok (.iload_n 1, 1) := lkT_ok tk_MSt_rate rfl
theorem d_MSt_rate_1 : decode MSt_rate.2.2.1 1 = .ok (.ifCond .lt 21, 3) := lkT_ok tk_MSt_rate rfl
theorem d_MSt_rate_4 : decode MSt_rate.2.2.1 4 = .ok (.iload_n 1, 1) := lkT_ok tk_MSt_rate rfl
theorem d_MSt_rate_5 : decode MSt_rate.2.2.1 5 = .ok (.aload_n 0, 1) := lkT_ok tk_MSt_rate rfl
theorem d_MSt_rate_6 : decode MSt_rate.2.2.1 6 = .ok (.getfield 21, 3) := lkT_ok tk_MSt_rate rfl
theorem d_MSt_rate_9 : decode MSt_rate.2.2.1 9 = .ok (.arraylength, 1) := lkT_ok tk_MSt_rate rfl
theorem d_MSt_rate_10 : decode MSt_rate.2.2.1 10 = .ok (.if_icmp .ge 12, 3) := lkT_ok tk_MSt_rate rfl
theorem d_MSt_rate_13 : decode MSt_rate.2.2.1 13 = .ok (.aload_n 0, 1) := lkT_ok tk_MSt_rate rfl
theorem d_MSt_rate_14 : decode MSt_rate.2.2.1 14 = .ok (.getfield 21, 3) := lkT_ok tk_MSt_rate rfl
theorem d_MSt_rate_17 : decode MSt_rate.2.2.1 17 = .ok (.iload_n 1, 1) := lkT_ok tk_MSt_rate rfl
theorem d_MSt_rate_18 : decode MSt_rate.2.2.1 18 = .ok (.iaload, 1) := lkT_ok tk_MSt_rate rfl
theorem d_MSt_rate_19 : decode MSt_rate.2.2.1 19 = .ok (.goto 4, 3) := lkT_ok tk_MSt_rate rfl
theorem d_MSt_rate_22 : decode MSt_rate.2.2.1 22 = .ok (.iconst 0, 1) := lkT_ok tk_MSt_rate rfl
theorem d_MSt_rate_23 : decode MSt_rate.2.2.1 23 = .ok (.ireturn, 1) := lkT_ok tk_MSt_rate rfl
theorem r_MSt_rate_0 {l0 : Value} {x : Int32} : Rr X d MSt_rate 0 [l0, .int x] st h = Rr X d MSt_rate 1 [l0, .int x] (.int x :: st) h := Rr_nx d_MSt_rate_0 rfl
theorem r_MSt_rate_1 {x : Int32} : Rr X d MSt_rate 1 L (.int x :: st) h = if x < 0 then Rr X d MSt_rate 22 L st h else Rr X d MSt_rate 4 L st h := R_if_lt d_MSt_rate_1 (by decide)
theorem r_MSt_rate_4 {l0 : Value} {x : Int32} : Rr X d MSt_rate 4 [l0, .int x] st h = Rr X d MSt_rate 5 [l0, .int x] (.int x :: st) h := Rr_nx d_MSt_rate_4 rfl
theorem r_MSt_rate_5 {l1 : Value} {x : Nat} : Rr X d MSt_rate 5 [.ref x, l1] st h = Rr X d MSt_rate 6 [.ref x, l1] (.ref x :: st) h := Rr_nx d_MSt_rate_5 rfl
theorem r_MSt_rate_6 {a : Nat} (hq : (qR a 7 3).isSome = true) : Rr X d MSt_rate 6 L (.ref a :: st) (Wd mu la ro et) = Rr X d MSt_rate 9 L (.ref (qRd a 7 3) :: st) (Wd mu la ro et) := R_gfR d_MSt_rate_6 ff_7_21 hq
theorem r_MSt_rate_9 {a : Nat} (hq : (qL a).isSome = true) : Rr X d MSt_rate 9 L (.ref a :: st) (Wd mu la ro et) = Rr X d MSt_rate 10 L (.int (Int32.ofNat (qLd a)) :: st) (Wd mu la ro et) := R_lenW d_MSt_rate_9 hq
theorem r_MSt_rate_10 {x y : Int32} : Rr X d MSt_rate 10 L (.int y :: .int x :: st) h = if y ≤ x then Rr X d MSt_rate 22 L st h else Rr X d MSt_rate 13 L st h := R_ic_ge d_MSt_rate_10 (by decide)
theorem r_MSt_rate_13 {l1 : Value} {x : Nat} : Rr X d MSt_rate 13 [.ref x, l1] st h = Rr X d MSt_rate 14 [.ref x, l1] (.ref x :: st) h := Rr_nx d_MSt_rate_13 rfl
theorem r_MSt_rate_14 {a : Nat} (hq : (qR a 7 3).isSome = true) : Rr X d MSt_rate 14 L (.ref a :: st) (Wd mu la ro et) = Rr X d MSt_rate 17 L (.ref (qRd a 7 3) :: st) (Wd mu la ro et) := R_gfR d_MSt_rate_14 ff_7_21 hq
theorem r_MSt_rate_17 {l0 : Value} {x : Int32} : Rr X d MSt_rate 17 [l0, .int x] st h = Rr X d MSt_rate 18 [l0, .int x] (.int x :: st) h := Rr_nx d_MSt_rate_17 rfl
theorem r_MSt_rate_18 {a : Nat} {j : Int32} (hq : (qA a 0).isSome = true) : Rr X d MSt_rate 18 L (.int j :: .ref a :: st) (Wd mu la ro et) = if j < 0 ∨ qAd a 0 ≤ j.toNatClampNeg then none else Rr X d MSt_rate 19 L (.int (mu a j.toNatClampNeg) :: st) (Wd mu la ro et) := R_ialW d_MSt_rate_18 hq
theorem r_MSt_rate_19 : Rr X d MSt_rate 19 L st h = Rr X d MSt_rate 23 L st h := R_goto d_MSt_rate_19 (by decide)
theorem r_MSt_rate_22 : Rr X d MSt_rate 22 L st h = Rr X d MSt_rate 23 L (.int (0) :: st) h := Rr_nx d_MSt_rate_22 rfl
theorem r_MSt_rate_23 {x : Int32} : Rr X d MSt_rate 23 L [.int x] h = some (some (.int x), h) := R_ir d_MSt_rate_23 rfl
theorem d_MSt_measure_0 : decode MSt_measure.2.2.1 0 = .ok (.iload_n 1, 1) := lkT_ok tk_MSt_measure rfl
theorem d_MSt_measure_1 : decode MSt_measure.2.2.1 1 = .ok (.tableswitch 114 0 5 #[39, 44, 49, 69, 89, 109], 39) := lkT_ok tk_MSt_measure rfl
theorem d_MSt_measure_40 : decode MSt_measure.2.2.1 40 = .ok (.aload_n 0, 1) := lkT_ok tk_MSt_measure rfl
theorem d_MSt_measure_41 : decode MSt_measure.2.2.1 41 = .ok (.getfield 24, 3) := lkT_ok tk_MSt_measure rfl
theorem d_MSt_measure_44 : decode MSt_measure.2.2.1 44 = .ok (.ireturn, 1) := lkT_ok tk_MSt_measure rfl
theorem d_MSt_measure_45 : decode MSt_measure.2.2.1 45 = .ok (.aload_n 0, 1) := lkT_ok tk_MSt_measure rfl
theorem d_MSt_measure_46 : decode MSt_measure.2.2.1 46 = .ok (.getfield 65, 3) := lkT_ok tk_MSt_measure rfl
theorem d_MSt_measure_49 : decode MSt_measure.2.2.1 49 = .ok (.ireturn, 1) := lkT_ok tk_MSt_measure rfl
theorem d_MSt_measure_50 : decode MSt_measure.2.2.1 50 = .ok (.aload_n 0, 1) := lkT_ok tk_MSt_measure rfl
theorem d_MSt_measure_51 : decode MSt_measure.2.2.1 51 = .ok (.getfield 65, 3) := lkT_ok tk_MSt_measure rfl
theorem d_MSt_measure_54 : decode MSt_measure.2.2.1 54 = .ok (.aload_n 0, 1) := lkT_ok tk_MSt_measure rfl
theorem d_MSt_measure_55 : decode MSt_measure.2.2.1 55 = .ok (.getfield 74, 3) := lkT_ok tk_MSt_measure rfl
theorem d_MSt_measure_58 : decode MSt_measure.2.2.1 58 = .ok (.imul, 1) := lkT_ok tk_MSt_measure rfl
theorem d_MSt_measure_59 : decode MSt_measure.2.2.1 59 = .ok (.aload_n 0, 1) := lkT_ok tk_MSt_measure rfl
theorem d_MSt_measure_60 : decode MSt_measure.2.2.1 60 = .ok (.getfield 68, 3) := lkT_ok tk_MSt_measure rfl
theorem d_MSt_measure_63 : decode MSt_measure.2.2.1 63 = .ok (.aload_n 0, 1) := lkT_ok tk_MSt_measure rfl
theorem d_MSt_measure_64 : decode MSt_measure.2.2.1 64 = .ok (.getfield 68, 3) := lkT_ok tk_MSt_measure rfl
theorem d_MSt_measure_67 : decode MSt_measure.2.2.1 67 = .ok (.imul, 1) := lkT_ok tk_MSt_measure rfl
theorem d_MSt_measure_68 : decode MSt_measure.2.2.1 68 = .ok (.isub, 1) := lkT_ok tk_MSt_measure rfl
theorem d_MSt_measure_69 : decode MSt_measure.2.2.1 69 = .ok (.ireturn, 1) := lkT_ok tk_MSt_measure rfl
theorem d_MSt_measure_70 : decode MSt_measure.2.2.1 70 = .ok (.aload_n 0, 1) := lkT_ok tk_MSt_measure rfl
theorem d_MSt_measure_71 : decode MSt_measure.2.2.1 71 = .ok (.getfield 65, 3) := lkT_ok tk_MSt_measure rfl
theorem d_MSt_measure_74 : decode MSt_measure.2.2.1 74 = .ok (.aload_n 0, 1) := lkT_ok tk_MSt_measure rfl
theorem d_MSt_measure_75 : decode MSt_measure.2.2.1 75 = .ok (.getfield 77, 3) := lkT_ok tk_MSt_measure rfl
theorem d_MSt_measure_78 : decode MSt_measure.2.2.1 78 = .ok (.imul, 1) := lkT_ok tk_MSt_measure rfl
theorem d_MSt_measure_79 : decode MSt_measure.2.2.1 79 = .ok (.aload_n 0, 1) := lkT_ok tk_MSt_measure rfl
theorem d_MSt_measure_80 : decode MSt_measure.2.2.1 80 = .ok (.getfield 71, 3) := lkT_ok tk_MSt_measure rfl
theorem d_MSt_measure_83 : decode MSt_measure.2.2.1 83 = .ok (.aload_n 0, 1) := lkT_ok tk_MSt_measure rfl
theorem d_MSt_measure_84 : decode MSt_measure.2.2.1 84 = .ok (.getfield 71, 3) := lkT_ok tk_MSt_measure rfl
theorem d_MSt_measure_87 : decode MSt_measure.2.2.1 87 = .ok (.imul, 1) := lkT_ok tk_MSt_measure rfl
theorem d_MSt_measure_88 : decode MSt_measure.2.2.1 88 = .ok (.isub, 1) := lkT_ok tk_MSt_measure rfl
theorem d_MSt_measure_89 : decode MSt_measure.2.2.1 89 = .ok (.ireturn, 1) := lkT_ok tk_MSt_measure rfl
theorem d_MSt_measure_90 : decode MSt_measure.2.2.1 90 = .ok (.aload_n 0, 1) := lkT_ok tk_MSt_measure rfl
theorem d_MSt_measure_91 : decode MSt_measure.2.2.1 91 = .ok (.getfield 65, 3) := lkT_ok tk_MSt_measure rfl
theorem d_MSt_measure_94 : decode MSt_measure.2.2.1 94 = .ok (.aload_n 0, 1) := lkT_ok tk_MSt_measure rfl
theorem d_MSt_measure_95 : decode MSt_measure.2.2.1 95 = .ok (.getfield 80, 3) := lkT_ok tk_MSt_measure rfl
theorem d_MSt_measure_98 : decode MSt_measure.2.2.1 98 = .ok (.imul, 1) := lkT_ok tk_MSt_measure rfl
theorem d_MSt_measure_99 : decode MSt_measure.2.2.1 99 = .ok (.aload_n 0, 1) := lkT_ok tk_MSt_measure rfl
theorem d_MSt_measure_100 : decode MSt_measure.2.2.1 100 = .ok (.getfield 68, 3) := lkT_ok tk_MSt_measure rfl
theorem d_MSt_measure_103 : decode MSt_measure.2.2.1 103 = .ok (.aload_n 0, 1) := lkT_ok tk_MSt_measure rfl
theorem d_MSt_measure_104 : decode MSt_measure.2.2.1 104 = .ok (.getfield 71, 3) := lkT_ok tk_MSt_measure rfl
theorem d_MSt_measure_107 : decode MSt_measure.2.2.1 107 = .ok (.imul, 1) := lkT_ok tk_MSt_measure rfl
theorem d_MSt_measure_108 : decode MSt_measure.2.2.1 108 = .ok (.isub, 1) := lkT_ok tk_MSt_measure rfl
theorem d_MSt_measure_109 : decode MSt_measure.2.2.1 109 = .ok (.ireturn, 1) := lkT_ok tk_MSt_measure rfl
theorem d_MSt_measure_110 : decode MSt_measure.2.2.1 110 = .ok (.aload_n 0, 1) := lkT_ok tk_MSt_measure rfl
theorem d_MSt_measure_111 : decode MSt_measure.2.2.1 111 = .ok (.invokevirtual 99, 3) := lkT_ok tk_MSt_measure rfl
theorem d_MSt_measure_114 : decode MSt_measure.2.2.1 114 = .ok (.ireturn, 1) := lkT_ok tk_MSt_measure rfl
theorem d_MSt_measure_115 : decode MSt_measure.2.2.1 115 = .ok (.aload_n 0, 1) := lkT_ok tk_MSt_measure rfl
theorem d_MSt_measure_116 : decode MSt_measure.2.2.1 116 = .ok (.iload_n 1, 1) := lkT_ok tk_MSt_measure rfl
theorem d_MSt_measure_117 : decode MSt_measure.2.2.1 117 = .ok (.bipush 6, 2) := lkT_ok tk_MSt_measure rfl
theorem d_MSt_measure_119 : decode MSt_measure.2.2.1 119 = .ok (.isub, 1) := lkT_ok tk_MSt_measure rfl
theorem d_MSt_measure_120 : decode MSt_measure.2.2.1 120 = .ok (.invokevirtual 103, 3) := lkT_ok tk_MSt_measure rfl
theorem d_MSt_measure_123 : decode MSt_measure.2.2.1 123 = .ok (.ireturn, 1) := lkT_ok tk_MSt_measure rfl
theorem r_MSt_measure_0 {l0 : Value} {x : Int32} : Rr X d MSt_measure 0 [l0, .int x] st h = Rr X d MSt_measure 1 [l0, .int x] (.int x :: st) h := Rr_nx d_MSt_measure_0 rfl
theorem r_MSt_measure_1_0 : Rr X d MSt_measure 1 L (.int (0) :: st) h = Rr X d MSt_measure 40 L st h := R_tab (off := 39) d_MSt_measure_1 (by decide) (by decide) (by decide)
theorem r_MSt_measure_1_1 : Rr X d MSt_measure 1 L (.int (1) :: st) h = Rr X d MSt_measure 45 L st h := R_tab (off := 44) d_MSt_measure_1 (by decide) (by decide) (by decide)
theorem r_MSt_measure_1_2 : Rr X d MSt_measure 1 L (.int (2) :: st) h = Rr X d MSt_measure 50 L st h := R_tab (off := 49) d_MSt_measure_1 (by decide) (by decide) (by decide)
theorem r_MSt_measure_1_3 : Rr X d MSt_measure 1 L (.int (3) :: st) h = Rr X d MSt_measure 70 L st h := R_tab (off := 69) d_MSt_measure_1 (by decide) (by decide) (by decide)
theorem r_MSt_measure_1_4 : Rr X d MSt_measure 1 L (.int (4) :: st) h = Rr X d MSt_measure 90 L st h := R_tab (off := 89) d_MSt_measure_1 (by decide) (by decide) (by decide)
theorem r_MSt_measure_1_5 : Rr X d MSt_measure 1 L (.int (5) :: st) h = Rr X d MSt_measure 110 L st h := R_tab (off := 109) d_MSt_measure_1 (by decide) (by decide) (by decide)
theorem r_MSt_measure_1D {x : Int32} (hx : x.toInt < 0 ∨ 5 < x.toInt) : Rr X d MSt_measure 1 L (.int x :: st) h = Rr X d MSt_measure 115 L st h := R_tabD d_MSt_measure_1 hx (by decide)
theorem r_MSt_measure_40 {l1 : Value} {x : Nat} : Rr X d MSt_measure 40 [.ref x, l1] st h = Rr X d MSt_measure 41 [.ref x, l1] (.ref x :: st) h := Rr_nx d_MSt_measure_40 rfl
theorem r_MSt_measure_41 {a : Nat} (hq : qI a 7 4 = true) : Rr X d MSt_measure 41 L (.ref a :: st) (Wd mu la ro et) = Rr X d MSt_measure 44 L (.int (mu a 4) :: st) (Wd mu la ro et) := R_gfI d_MSt_measure_41 ff_7_24 hq
theorem r_MSt_measure_44 {x : Int32} : Rr X d MSt_measure 44 L [.int x] h = some (some (.int x), h) := R_ir d_MSt_measure_44 rfl
theorem r_MSt_measure_45 {l1 : Value} {x : Nat} : Rr X d MSt_measure 45 [.ref x, l1] st h = Rr X d MSt_measure 46 [.ref x, l1] (.ref x :: st) h := Rr_nx d_MSt_measure_45 rfl
theorem r_MSt_measure_46 {a : Nat} (hq : qI a 7 5 = true) : Rr X d MSt_measure 46 L (.ref a :: st) (Wd mu la ro et) = Rr X d MSt_measure 49 L (.int (mu a 5) :: st) (Wd mu la ro et) := R_gfI d_MSt_measure_46 ff_7_65 hq
theorem r_MSt_measure_49 {x : Int32} : Rr X d MSt_measure 49 L [.int x] h = some (some (.int x), h) := R_ir d_MSt_measure_49 rfl
theorem r_MSt_measure_50 {l1 : Value} {x : Nat} : Rr X d MSt_measure 50 [.ref x, l1] st h = Rr X d MSt_measure 51 [.ref x, l1] (.ref x :: st) h := Rr_nx d_MSt_measure_50 rfl
theorem r_MSt_measure_51 {a : Nat} (hq : qI a 7 5 = true) : Rr X d MSt_measure 51 L (.ref a :: st) (Wd mu la ro et) = Rr X d MSt_measure 54 L (.int (mu a 5) :: st) (Wd mu la ro et) := R_gfI d_MSt_measure_51 ff_7_65 hq
theorem r_MSt_measure_54 {l1 : Value} {x : Nat} : Rr X d MSt_measure 54 [.ref x, l1] st h = Rr X d MSt_measure 55 [.ref x, l1] (.ref x :: st) h := Rr_nx d_MSt_measure_54 rfl
theorem r_MSt_measure_55 {a : Nat} (hq : qI a 7 8 = true) : Rr X d MSt_measure 55 L (.ref a :: st) (Wd mu la ro et) = Rr X d MSt_measure 58 L (.int (mu a 8) :: st) (Wd mu la ro et) := R_gfI d_MSt_measure_55 ff_7_74 hq
theorem r_MSt_measure_58 {x y : Int32} : Rr X d MSt_measure 58 L (.int y :: .int x :: st) h = Rr X d MSt_measure 59 L (.int (x * y) :: st) h := Rr_nx d_MSt_measure_58 rfl
theorem r_MSt_measure_59 {l1 : Value} {x : Nat} : Rr X d MSt_measure 59 [.ref x, l1] st h = Rr X d MSt_measure 60 [.ref x, l1] (.ref x :: st) h := Rr_nx d_MSt_measure_59 rfl
theorem r_MSt_measure_60 {a : Nat} (hq : qI a 7 6 = true) : Rr X d MSt_measure 60 L (.ref a :: st) (Wd mu la ro et) = Rr X d MSt_measure 63 L (.int (mu a 6) :: st) (Wd mu la ro et) := R_gfI d_MSt_measure_60 ff_7_68 hq
theorem r_MSt_measure_63 {l1 : Value} {x : Nat} : Rr X d MSt_measure 63 [.ref x, l1] st h = Rr X d MSt_measure 64 [.ref x, l1] (.ref x :: st) h := Rr_nx d_MSt_measure_63 rfl
theorem r_MSt_measure_64 {a : Nat} (hq : qI a 7 6 = true) : Rr X d MSt_measure 64 L (.ref a :: st) (Wd mu la ro et) = Rr X d MSt_measure 67 L (.int (mu a 6) :: st) (Wd mu la ro et) := R_gfI d_MSt_measure_64 ff_7_68 hq
theorem r_MSt_measure_67 {x y : Int32} : Rr X d MSt_measure 67 L (.int y :: .int x :: st) h = Rr X d MSt_measure 68 L (.int (x * y) :: st) h := Rr_nx d_MSt_measure_67 rfl
theorem r_MSt_measure_68 {x y : Int32} : Rr X d MSt_measure 68 L (.int y :: .int x :: st) h = Rr X d MSt_measure 69 L (.int (x - y) :: st) h := Rr_nx d_MSt_measure_68 rfl
theorem r_MSt_measure_69 {x : Int32} : Rr X d MSt_measure 69 L [.int x] h = some (some (.int x), h) := R_ir d_MSt_measure_69 rfl
theorem r_MSt_measure_70 {l1 : Value} {x : Nat} : Rr X d MSt_measure 70 [.ref x, l1] st h = Rr X d MSt_measure 71 [.ref x, l1] (.ref x :: st) h := Rr_nx d_MSt_measure_70 rfl
theorem r_MSt_measure_71 {a : Nat} (hq : qI a 7 5 = true) : Rr X d MSt_measure 71 L (.ref a :: st) (Wd mu la ro et) = Rr X d MSt_measure 74 L (.int (mu a 5) :: st) (Wd mu la ro et) := R_gfI d_MSt_measure_71 ff_7_65 hq
theorem r_MSt_measure_74 {l1 : Value} {x : Nat} : Rr X d MSt_measure 74 [.ref x, l1] st h = Rr X d MSt_measure 75 [.ref x, l1] (.ref x :: st) h := Rr_nx d_MSt_measure_74 rfl
theorem r_MSt_measure_75 {a : Nat} (hq : qI a 7 9 = true) : Rr X d MSt_measure 75 L (.ref a :: st) (Wd mu la ro et) = Rr X d MSt_measure 78 L (.int (mu a 9) :: st) (Wd mu la ro et) := R_gfI d_MSt_measure_75 ff_7_77 hq
theorem r_MSt_measure_78 {x y : Int32} : Rr X d MSt_measure 78 L (.int y :: .int x :: st) h = Rr X d MSt_measure 79 L (.int (x * y) :: st) h := Rr_nx d_MSt_measure_78 rfl
theorem r_MSt_measure_79 {l1 : Value} {x : Nat} : Rr X d MSt_measure 79 [.ref x, l1] st h = Rr X d MSt_measure 80 [.ref x, l1] (.ref x :: st) h := Rr_nx d_MSt_measure_79 rfl
theorem r_MSt_measure_80 {a : Nat} (hq : qI a 7 7 = true) : Rr X d MSt_measure 80 L (.ref a :: st) (Wd mu la ro et) = Rr X d MSt_measure 83 L (.int (mu a 7) :: st) (Wd mu la ro et) := R_gfI d_MSt_measure_80 ff_7_71 hq
theorem r_MSt_measure_83 {l1 : Value} {x : Nat} : Rr X d MSt_measure 83 [.ref x, l1] st h = Rr X d MSt_measure 84 [.ref x, l1] (.ref x :: st) h := Rr_nx d_MSt_measure_83 rfl
theorem r_MSt_measure_84 {a : Nat} (hq : qI a 7 7 = true) : Rr X d MSt_measure 84 L (.ref a :: st) (Wd mu la ro et) = Rr X d MSt_measure 87 L (.int (mu a 7) :: st) (Wd mu la ro et) := R_gfI d_MSt_measure_84 ff_7_71 hq
theorem r_MSt_measure_87 {x y : Int32} : Rr X d MSt_measure 87 L (.int y :: .int x :: st) h = Rr X d MSt_measure 88 L (.int (x * y) :: st) h := Rr_nx d_MSt_measure_87 rfl
theorem r_MSt_measure_88 {x y : Int32} : Rr X d MSt_measure 88 L (.int y :: .int x :: st) h = Rr X d MSt_measure 89 L (.int (x - y) :: st) h := Rr_nx d_MSt_measure_88 rfl
theorem r_MSt_measure_89 {x : Int32} : Rr X d MSt_measure 89 L [.int x] h = some (some (.int x), h) := R_ir d_MSt_measure_89 rfl
theorem r_MSt_measure_90 {l1 : Value} {x : Nat} : Rr X d MSt_measure 90 [.ref x, l1] st h = Rr X d MSt_measure 91 [.ref x, l1] (.ref x :: st) h := Rr_nx d_MSt_measure_90 rfl
theorem r_MSt_measure_91 {a : Nat} (hq : qI a 7 5 = true) : Rr X d MSt_measure 91 L (.ref a :: st) (Wd mu la ro et) = Rr X d MSt_measure 94 L (.int (mu a 5) :: st) (Wd mu la ro et) := R_gfI d_MSt_measure_91 ff_7_65 hq
theorem r_MSt_measure_94 {l1 : Value} {x : Nat} : Rr X d MSt_measure 94 [.ref x, l1] st h = Rr X d MSt_measure 95 [.ref x, l1] (.ref x :: st) h := Rr_nx d_MSt_measure_94 rfl
theorem r_MSt_measure_95 {a : Nat} (hq : qI a 7 10 = true) : Rr X d MSt_measure 95 L (.ref a :: st) (Wd mu la ro et) = Rr X d MSt_measure 98 L (.int (mu a 10) :: st) (Wd mu la ro et) := R_gfI d_MSt_measure_95 ff_7_80 hq
theorem r_MSt_measure_98 {x y : Int32} : Rr X d MSt_measure 98 L (.int y :: .int x :: st) h = Rr X d MSt_measure 99 L (.int (x * y) :: st) h := Rr_nx d_MSt_measure_98 rfl
theorem r_MSt_measure_99 {l1 : Value} {x : Nat} : Rr X d MSt_measure 99 [.ref x, l1] st h = Rr X d MSt_measure 100 [.ref x, l1] (.ref x :: st) h := Rr_nx d_MSt_measure_99 rfl
theorem r_MSt_measure_100 {a : Nat} (hq : qI a 7 6 = true) : Rr X d MSt_measure 100 L (.ref a :: st) (Wd mu la ro et) = Rr X d MSt_measure 103 L (.int (mu a 6) :: st) (Wd mu la ro et) := R_gfI d_MSt_measure_100 ff_7_68 hq
theorem r_MSt_measure_103 {l1 : Value} {x : Nat} : Rr X d MSt_measure 103 [.ref x, l1] st h = Rr X d MSt_measure 104 [.ref x, l1] (.ref x :: st) h := Rr_nx d_MSt_measure_103 rfl
theorem r_MSt_measure_104 {a : Nat} (hq : qI a 7 7 = true) : Rr X d MSt_measure 104 L (.ref a :: st) (Wd mu la ro et) = Rr X d MSt_measure 107 L (.int (mu a 7) :: st) (Wd mu la ro et) := R_gfI d_MSt_measure_104 ff_7_71 hq
theorem r_MSt_measure_107 {x y : Int32} : Rr X d MSt_measure 107 L (.int y :: .int x :: st) h = Rr X d MSt_measure 108 L (.int (x * y) :: st) h := Rr_nx d_MSt_measure_107 rfl
theorem r_MSt_measure_108 {x y : Int32} : Rr X d MSt_measure 108 L (.int y :: .int x :: st) h = Rr X d MSt_measure 109 L (.int (x - y) :: st) h := Rr_nx d_MSt_measure_108 rfl
theorem r_MSt_measure_109 {x : Int32} : Rr X d MSt_measure 109 L [.int x] h = some (some (.int x), h) := R_ir d_MSt_measure_109 rfl
theorem r_MSt_measure_110 {l1 : Value} {x : Nat} : Rr X d MSt_measure 110 [.ref x, l1] st h = Rr X d MSt_measure 111 [.ref x, l1] (.ref x :: st) h := Rr_nx d_MSt_measure_110 rfl
theorem fc_7_99 : fC 7 99 = some (0, 7, 0, MSt_keen) := rfl
theorem r_MSt_measure_111 {a : Nat} (hO : qO a 7 = true) (hc : ckS st = true) : Rr X (d + 1) MSt_measure 111 L (.ref a :: st) (Wd mu la ro et) = (Rr X d MSt_keen 0 [.ref a] [] (Wd mu la ro et)).bind fun q => Rr X (d + 1) MSt_measure 114 L (psh q.1 st) q.2 := R_iv (av := []) d_MSt_measure_111 fc_7_99 hO (ckS_le hc) rfl (Nat.le_of_ble_eq_true rfl) (Nat.le_of_ble_eq_true rfl)
theorem r_MSt_measure_114 {x : Int32} : Rr X d MSt_measure 114 L [.int x] h = some (some (.int x), h) := R_ir d_MSt_measure_114 rfl
theorem r_MSt_measure_115 {l1 : Value} {x : Nat} : Rr X d MSt_measure 115 [.ref x, l1] st h = Rr X d MSt_measure 116 [.ref x, l1] (.ref x :: st) h := Rr_nx d_MSt_measure_115 rfl
theorem r_MSt_measure_116 {l0 : Value} {x : Int32} : Rr X d MSt_measure 116 [l0, .int x] st h = Rr X d MSt_measure 117 [l0, .int x] (.int x :: st) h := Rr_nx d_MSt_measure_116 rfl
theorem r_MSt_measure_117 : Rr X d MSt_measure 117 L st h = Rr X d MSt_measure 119 L (.int (6) :: st) h := Rr_nx d_MSt_measure_117 rfl
theorem r_MSt_measure_119 {x y : Int32} : Rr X d MSt_measure 119 L (.int y :: .int x :: st) h = Rr X d MSt_measure 120 L (.int (x - y) :: st) h := Rr_nx d_MSt_measure_119 rfl
theorem fc_7_103 : fC 7 103 = some (0, 7, 1, MSt_rate) := rfl
theorem r_MSt_measure_120 {y0 : Int32} {a : Nat} (hO : qO a 7 = true) (hc : ckS st = true) : Rr X (d + 1) MSt_measure 120 L (.int y0 :: .ref a :: st) (Wd mu la ro et) = (Rr X d MSt_rate 0 [.ref a, .int y0] [] (Wd mu la ro et)).bind fun q => Rr X (d + 1) MSt_measure 123 L (psh q.1 st) q.2 := R_iv (av := [.int y0]) d_MSt_measure_120 fc_7_103 hO (ckS_le hc) rfl (Nat.le_of_ble_eq_true rfl) (Nat.le_of_ble_eq_true rfl)
theorem r_MSt_measure_123 {x : Int32} : Rr X d MSt_measure 123 L [.int x] h = some (some (.int x), h) := R_ir d_MSt_measure_123 rfl
theorem d_MSt_lumpPart_0 : decode MSt_lumpPart.2.2.1 0 = .ok (.iload_n 1, 1) := lkT_ok tk_MSt_lumpPart rfl
theorem d_MSt_lumpPart_1 : decode MSt_lumpPart.2.2.1 1 = .ok (.ifCond .lt 9, 3) := lkT_ok tk_MSt_lumpPart rfl
theorem d_MSt_lumpPart_4 : decode MSt_lumpPart.2.2.1 4 = .ok (.iload_n 1, 1) := lkT_ok tk_MSt_lumpPart rfl
theorem d_MSt_lumpPart_5 : decode MSt_lumpPart.2.2.1 5 = .ok (.bipush 12, 2) := lkT_ok tk_MSt_lumpPart rfl
theorem d_MSt_lumpPart_7 : decode MSt_lumpPart.2.2.1 7 = .ok (.if_icmp .lt 6, 3) := lkT_ok tk_MSt_lumpPart rfl
theorem d_MSt_lumpPart_10 : decode MSt_lumpPart.2.2.1 10 = .ok (.ldc 106, 2) := lkT_ok tk_MSt_lumpPart rfl
theorem d_MSt_lumpPart_12 : decode MSt_lumpPart.2.2.1 12 = .ok (.ireturn, 1) := lkT_ok tk_MSt_lumpPart rfl
theorem d_MSt_lumpPart_13 : decode MSt_lumpPart.2.2.1 13 = .ok (.iload_n 2, 1) := lkT_ok tk_MSt_lumpPart rfl
theorem d_MSt_lumpPart_14 : decode MSt_lumpPart.2.2.1 14 = .ok (.ifCond .ne 12, 3) := lkT_ok tk_MSt_lumpPart rfl
theorem d_MSt_lumpPart_17 : decode MSt_lumpPart.2.2.1 17 = .ok (.aload_n 0, 1) := lkT_ok tk_MSt_lumpPart rfl
theorem d_MSt_lumpPart_18 : decode MSt_lumpPart.2.2.1 18 = .ok (.getfield 11, 3) := lkT_ok tk_MSt_lumpPart rfl
theorem d_MSt_lumpPart_21 : decode MSt_lumpPart.2.2.1 21 = .ok (.iload_n 1, 1) := lkT_ok tk_MSt_lumpPart rfl
theorem d_MSt_lumpPart_22 : decode MSt_lumpPart.2.2.1 22 = .ok (.iaload, 1) := lkT_ok tk_MSt_lumpPart rfl
theorem d_MSt_lumpPart_23 : decode MSt_lumpPart.2.2.1 23 = .ok (.goto 23, 3) := lkT_ok tk_MSt_lumpPart rfl
theorem d_MSt_lumpPart_26 : decode MSt_lumpPart.2.2.1 26 = .ok (.iload_n 2, 1) := lkT_ok tk_MSt_lumpPart rfl
theorem d_MSt_lumpPart_27 : decode MSt_lumpPart.2.2.1 27 = .ok (.iconst 1, 1) := lkT_ok tk_MSt_lumpPart rfl
theorem d_MSt_lumpPart_28 : decode MSt_lumpPart.2.2.1 28 = .ok (.if_icmp .ne 12, 3) := lkT_ok tk_MSt_lumpPart rfl
theorem d_MSt_lumpPart_31 : decode MSt_lumpPart.2.2.1 31 = .ok (.aload_n 0, 1) := lkT_ok tk_MSt_lumpPart rfl
theorem d_MSt_lumpPart_32 : decode MSt_lumpPart.2.2.1 32 = .ok (.getfield 15, 3) := lkT_ok tk_MSt_lumpPart rfl
theorem d_MSt_lumpPart_35 : decode MSt_lumpPart.2.2.1 35 = .ok (.iload_n 1, 1) := lkT_ok tk_MSt_lumpPart rfl
theorem d_MSt_lumpPart_36 : decode MSt_lumpPart.2.2.1 36 = .ok (.iaload, 1) := lkT_ok tk_MSt_lumpPart rfl
theorem d_MSt_lumpPart_37 : decode MSt_lumpPart.2.2.1 37 = .ok (.goto 9, 3) := lkT_ok tk_MSt_lumpPart rfl
theorem d_MSt_lumpPart_40 : decode MSt_lumpPart.2.2.1 40 = .ok (.aload_n 0, 1) := lkT_ok tk_MSt_lumpPart rfl
theorem d_MSt_lumpPart_41 : decode MSt_lumpPart.2.2.1 41 = .ok (.getfield 18, 3) := lkT_ok tk_MSt_lumpPart rfl
theorem d_MSt_lumpPart_44 : decode MSt_lumpPart.2.2.1 44 = .ok (.iload_n 1, 1) := lkT_ok tk_MSt_lumpPart rfl
theorem d_MSt_lumpPart_45 : decode MSt_lumpPart.2.2.1 45 = .ok (.iaload, 1) := lkT_ok tk_MSt_lumpPart rfl
theorem d_MSt_lumpPart_46 : decode MSt_lumpPart.2.2.1 46 = .ok (.ireturn, 1) := lkT_ok tk_MSt_lumpPart rfl
theorem r_MSt_lumpPart_0 {l0 l2 : Value} {x : Int32} : Rr X d MSt_lumpPart 0 [l0, .int x, l2] st h = Rr X d MSt_lumpPart 1 [l0, .int x, l2] (.int x :: st) h := Rr_nx d_MSt_lumpPart_0 rfl
theorem r_MSt_lumpPart_1 {x : Int32} : Rr X d MSt_lumpPart 1 L (.int x :: st) h = if x < 0 then Rr X d MSt_lumpPart 10 L st h else Rr X d MSt_lumpPart 4 L st h := R_if_lt d_MSt_lumpPart_1 (by decide)
theorem r_MSt_lumpPart_4 {l0 l2 : Value} {x : Int32} : Rr X d MSt_lumpPart 4 [l0, .int x, l2] st h = Rr X d MSt_lumpPart 5 [l0, .int x, l2] (.int x :: st) h := Rr_nx d_MSt_lumpPart_4 rfl
theorem r_MSt_lumpPart_5 : Rr X d MSt_lumpPart 5 L st h = Rr X d MSt_lumpPart 7 L (.int (12) :: st) h := Rr_nx d_MSt_lumpPart_5 rfl
theorem r_MSt_lumpPart_7 {x y : Int32} : Rr X d MSt_lumpPart 7 L (.int y :: .int x :: st) h = if x < y then Rr X d MSt_lumpPart 13 L st h else Rr X d MSt_lumpPart 10 L st h := R_ic_lt d_MSt_lumpPart_7 (by decide)
theorem r_MSt_lumpPart_10 : Rr X d MSt_lumpPart 10 L st h = Rr X d MSt_lumpPart 12 L (.int (-2000000000) :: st) h := Rr_nx d_MSt_lumpPart_10 rfl
theorem r_MSt_lumpPart_12 {x : Int32} : Rr X d MSt_lumpPart 12 L [.int x] h = some (some (.int x), h) := R_ir d_MSt_lumpPart_12 rfl
theorem r_MSt_lumpPart_13 {l0 l1 : Value} {x : Int32} : Rr X d MSt_lumpPart 13 [l0, l1, .int x] st h = Rr X d MSt_lumpPart 14 [l0, l1, .int x] (.int x :: st) h := Rr_nx d_MSt_lumpPart_13 rfl
theorem r_MSt_lumpPart_14 {x : Int32} : Rr X d MSt_lumpPart 14 L (.int x :: st) h = if ¬ x = 0 then Rr X d MSt_lumpPart 26 L st h else Rr X d MSt_lumpPart 17 L st h := R_if_ne d_MSt_lumpPart_14 (by decide)
theorem r_MSt_lumpPart_17 {l1 l2 : Value} {x : Nat} : Rr X d MSt_lumpPart 17 [.ref x, l1, l2] st h = Rr X d MSt_lumpPart 18 [.ref x, l1, l2] (.ref x :: st) h := Rr_nx d_MSt_lumpPart_17 rfl
theorem r_MSt_lumpPart_18 {a : Nat} (hq : (qR a 7 0).isSome = true) : Rr X d MSt_lumpPart 18 L (.ref a :: st) (Wd mu la ro et) = Rr X d MSt_lumpPart 21 L (.ref (qRd a 7 0) :: st) (Wd mu la ro et) := R_gfR d_MSt_lumpPart_18 ff_7_11 hq
theorem r_MSt_lumpPart_21 {l0 l2 : Value} {x : Int32} : Rr X d MSt_lumpPart 21 [l0, .int x, l2] st h = Rr X d MSt_lumpPart 22 [l0, .int x, l2] (.int x :: st) h := Rr_nx d_MSt_lumpPart_21 rfl
theorem r_MSt_lumpPart_22 {a : Nat} {j : Int32} (hq : (qA a 0).isSome = true) : Rr X d MSt_lumpPart 22 L (.int j :: .ref a :: st) (Wd mu la ro et) = if j < 0 ∨ qAd a 0 ≤ j.toNatClampNeg then none else Rr X d MSt_lumpPart 23 L (.int (mu a j.toNatClampNeg) :: st) (Wd mu la ro et) := R_ialW d_MSt_lumpPart_22 hq
theorem r_MSt_lumpPart_23 : Rr X d MSt_lumpPart 23 L st h = Rr X d MSt_lumpPart 46 L st h := R_goto d_MSt_lumpPart_23 (by decide)
theorem r_MSt_lumpPart_26 {l0 l1 : Value} {x : Int32} : Rr X d MSt_lumpPart 26 [l0, l1, .int x] st h = Rr X d MSt_lumpPart 27 [l0, l1, .int x] (.int x :: st) h := Rr_nx d_MSt_lumpPart_26 rfl
theorem r_MSt_lumpPart_27 : Rr X d MSt_lumpPart 27 L st h = Rr X d MSt_lumpPart 28 L (.int (1) :: st) h := Rr_nx d_MSt_lumpPart_27 rfl
theorem r_MSt_lumpPart_28 {x y : Int32} : Rr X d MSt_lumpPart 28 L (.int y :: .int x :: st) h = if ¬ x = y then Rr X d MSt_lumpPart 40 L st h else Rr X d MSt_lumpPart 31 L st h := R_ic_ne d_MSt_lumpPart_28 (by decide)
theorem r_MSt_lumpPart_31 {l1 l2 : Value} {x : Nat} : Rr X d MSt_lumpPart 31 [.ref x, l1, l2] st h = Rr X d MSt_lumpPart 32 [.ref x, l1, l2] (.ref x :: st) h := Rr_nx d_MSt_lumpPart_31 rfl
theorem r_MSt_lumpPart_32 {a : Nat} (hq : (qR a 7 1).isSome = true) : Rr X d MSt_lumpPart 32 L (.ref a :: st) (Wd mu la ro et) = Rr X d MSt_lumpPart 35 L (.ref (qRd a 7 1) :: st) (Wd mu la ro et) := R_gfR d_MSt_lumpPart_32 ff_7_15 hq
theorem r_MSt_lumpPart_35 {l0 l2 : Value} {x : Int32} : Rr X d MSt_lumpPart 35 [l0, .int x, l2] st h = Rr X d MSt_lumpPart 36 [l0, .int x, l2] (.int x :: st) h := Rr_nx d_MSt_lumpPart_35 rfl
theorem r_MSt_lumpPart_36 {a : Nat} {j : Int32} (hq : (qA a 0).isSome = true) : Rr X d MSt_lumpPart 36 L (.int j :: .ref a :: st) (Wd mu la ro et) = if j < 0 ∨ qAd a 0 ≤ j.toNatClampNeg then none else Rr X d MSt_lumpPart 37 L (.int (mu a j.toNatClampNeg) :: st) (Wd mu la ro et) := R_ialW d_MSt_lumpPart_36 hq
theorem r_MSt_lumpPart_37 : Rr X d MSt_lumpPart 37 L st h = Rr X d MSt_lumpPart 46 L st h := R_goto d_MSt_lumpPart_37 (by decide)
theorem r_MSt_lumpPart_40 {l1 l2 : Value} {x : Nat} : Rr X d MSt_lumpPart 40 [.ref x, l1, l2] st h = Rr X d MSt_lumpPart 41 [.ref x, l1, l2] (.ref x :: st) h := Rr_nx d_MSt_lumpPart_40 rfl
theorem r_MSt_lumpPart_41 {a : Nat} (hq : (qR a 7 2).isSome = true) : Rr X d MSt_lumpPart 41 L (.ref a :: st) (Wd mu la ro et) = Rr X d MSt_lumpPart 44 L (.ref (qRd a 7 2) :: st) (Wd mu la ro et) := R_gfR d_MSt_lumpPart_41 ff_7_18 hq
theorem r_MSt_lumpPart_44 {l0 l2 : Value} {x : Int32} : Rr X d MSt_lumpPart 44 [l0, .int x, l2] st h = Rr X d MSt_lumpPart 45 [l0, .int x, l2] (.int x :: st) h := Rr_nx d_MSt_lumpPart_44 rfl
theorem r_MSt_lumpPart_45 {a : Nat} {j : Int32} (hq : (qA a 0).isSome = true) : Rr X d MSt_lumpPart 45 L (.int j :: .ref a :: st) (Wd mu la ro et) = if j < 0 ∨ qAd a 0 ≤ j.toNatClampNeg then none else Rr X d MSt_lumpPart 46 L (.int (mu a j.toNatClampNeg) :: st) (Wd mu la ro et) := R_ialW d_MSt_lumpPart_45 hq
theorem r_MSt_lumpPart_46 {x : Int32} : Rr X d MSt_lumpPart 46 L [.int x] h = some (some (.int x), h) := R_ir d_MSt_lumpPart_46 rfl
theorem d_MSt_keen_0 : decode MSt_keen.2.2.1 0 = .ok (.aload_n 0, 1) := lkT_ok tk_MSt_keen rfl
theorem d_MSt_keen_1 : decode MSt_keen.2.2.1 1 = .ok (.iconst 0, 1) := lkT_ok tk_MSt_keen rfl
theorem d_MSt_keen_2 : decode MSt_keen.2.2.1 2 = .ok (.iconst 0, 1) := lkT_ok tk_MSt_keen rfl
theorem d_MSt_keen_3 : decode MSt_keen.2.2.1 3 = .ok (.iconst 0, 1) := lkT_ok tk_MSt_keen rfl
theorem d_MSt_keen_4 : decode MSt_keen.2.2.1 4 = .ok (.invokevirtual 83, 3) := lkT_ok tk_MSt_keen rfl
theorem d_MSt_keen_7 : decode MSt_keen.2.2.1 7 = .ok (.ireturn, 1) := lkT_ok tk_MSt_keen rfl
theorem r_MSt_keen_0 {x : Nat} : Rr X d MSt_keen 0 [.ref x] st h = Rr X d MSt_keen 1 [.ref x] (.ref x :: st) h := Rr_nx d_MSt_keen_0 rfl
theorem r_MSt_keen_1 : Rr X d MSt_keen 1 L st h = Rr X d MSt_keen 2 L (.int (0) :: st) h := Rr_nx d_MSt_keen_1 rfl
theorem r_MSt_keen_2 : Rr X d MSt_keen 2 L st h = Rr X d MSt_keen 3 L (.int (0) :: st) h := Rr_nx d_MSt_keen_2 rfl
theorem r_MSt_keen_3 : Rr X d MSt_keen 3 L st h = Rr X d MSt_keen 4 L (.int (0) :: st) h := Rr_nx d_MSt_keen_3 rfl
theorem fc_7_83 : fC 7 83 = some (0, 7, 3, MSt_keenWith) := rfl
theorem r_MSt_keen_4 {y0 : Int32} {y1 : Int32} {y2 : Int32} {a : Nat} (hO : qO a 7 = true) (hc : ckS st = true) : Rr X (d + 1) MSt_keen 4 L (.int y2 :: .int y1 :: .int y0 :: .ref a :: st) (Wd mu la ro et) = (Rr X d MSt_keenWith 0 [.ref a, .int y0, .int y1, .int y2, mkU, mkU, mkU, mkU, mkU] [] (Wd mu la ro et)).bind fun q => Rr X (d + 1) MSt_keen 7 L (psh q.1 st) q.2 := R_iv (av := [.int y2, .int y1, .int y0]) d_MSt_keen_4 fc_7_83 hO (ckS_le hc) rfl (Nat.le_of_ble_eq_true rfl) (Nat.le_of_ble_eq_true rfl)
theorem r_MSt_keen_7 {x : Int32} : Rr X d MSt_keen 7 L [.int x] h = some (some (.int x), h) := R_ir d_MSt_keen_7 rfl
theorem d_MSt_keenWith_0 : decode MSt_keenWith.2.2.1 0 = .ok (.aload_n 0, 1) := lkT_ok tk_MSt_keenWith rfl
theorem d_MSt_keenWith_1 : decode MSt_keenWith.2.2.1 1 = .ok (.getfield 65, 3) := lkT_ok tk_MSt_keenWith rfl
theorem d_MSt_keenWith_4 : decode MSt_keenWith.2.2.1 4 = .ok (.iconst 2, 1) := lkT_ok tk_MSt_keenWith rfl
theorem d_MSt_keenWith_5 : decode MSt_keenWith.2.2.1 5 = .ok (.iload_n 1, 1) := lkT_ok tk_MSt_keenWith rfl
theorem d_MSt_keenWith_6 : decode MSt_keenWith.2.2.1 6 = .ok (.imul, 1) := lkT_ok tk_MSt_keenWith rfl
theorem d_MSt_keenWith_7 : decode MSt_keenWith.2.2.1 7 = .ok (.iadd, 1) := lkT_ok tk_MSt_keenWith rfl
theorem d_MSt_keenWith_8 : decode MSt_keenWith.2.2.1 8 = .ok (.istore 4, 2) := lkT_ok tk_MSt_keenWith rfl
theorem d_MSt_keenWith_10 : decode MSt_keenWith.2.2.1 10 = .ok (.iload 4, 2) := lkT_ok tk_MSt_keenWith rfl
theorem d_MSt_keenWith_12 : decode MSt_keenWith.2.2.1 12 = .ok (.aload_n 0, 1) := lkT_ok tk_MSt_keenWith rfl
theorem d_MSt_keenWith_13 : decode MSt_keenWith.2.2.1 13 = .ok (.getfield 74, 3) := lkT_ok tk_MSt_keenWith rfl
theorem d_MSt_keenWith_16 : decode MSt_keenWith.2.2.1 16 = .ok (.iconst 2, 1) := lkT_ok tk_MSt_keenWith rfl
theorem d_MSt_keenWith_17 : decode MSt_keenWith.2.2.1 17 = .ok (.iload_n 1, 1) := lkT_ok tk_MSt_keenWith rfl
theorem d_MSt_keenWith_18 : decode MSt_keenWith.2.2.1 18 = .ok (.imul, 1) := lkT_ok tk_MSt_keenWith rfl
theorem d_MSt_keenWith_19 : decode MSt_keenWith.2.2.1 19 = .ok (.iload_n 2, 1) := lkT_ok tk_MSt_keenWith rfl
theorem d_MSt_keenWith_20 : decode MSt_keenWith.2.2.1 20 = .ok (.imul, 1) := lkT_ok tk_MSt_keenWith rfl
theorem d_MSt_keenWith_21 : decode MSt_keenWith.2.2.1 21 = .ok (.iload_n 2, 1) := lkT_ok tk_MSt_keenWith rfl
theorem d_MSt_keenWith_22 : decode MSt_keenWith.2.2.1 22 = .ok (.imul, 1) := lkT_ok tk_MSt_keenWith rfl
theorem d_MSt_keenWith_23 : decode MSt_keenWith.2.2.1 23 = .ok (.iadd, 1) := lkT_ok tk_MSt_keenWith rfl
theorem d_MSt_keenWith_24 : decode MSt_keenWith.2.2.1 24 = .ok (.imul, 1) := lkT_ok tk_MSt_keenWith rfl
theorem d_MSt_keenWith_25 : decode MSt_keenWith.2.2.1 25 = .ok (.aload_n 0, 1) := lkT_ok tk_MSt_keenWith rfl
theorem d_MSt_keenWith_26 : decode MSt_keenWith.2.2.1 26 = .ok (.getfield 68, 3) := lkT_ok tk_MSt_keenWith rfl
theorem d_MSt_keenWith_29 : decode MSt_keenWith.2.2.1 29 = .ok (.aload_n 0, 1) := lkT_ok tk_MSt_keenWith rfl
theorem d_MSt_keenWith_30 : decode MSt_keenWith.2.2.1 30 = .ok (.getfield 68, 3) := lkT_ok tk_MSt_keenWith rfl
theorem d_MSt_keenWith_33 : decode MSt_keenWith.2.2.1 33 = .ok (.imul, 1) := lkT_ok tk_MSt_keenWith rfl
theorem d_MSt_keenWith_34 : decode MSt_keenWith.2.2.1 34 = .ok (.isub, 1) := lkT_ok tk_MSt_keenWith rfl
theorem d_MSt_keenWith_35 : decode MSt_keenWith.2.2.1 35 = .ok (.istore 5, 2) := lkT_ok tk_MSt_keenWith rfl
theorem d_MSt_keenWith_37 : decode MSt_keenWith.2.2.1 37 = .ok (.iload 4, 2) := lkT_ok tk_MSt_keenWith rfl
theorem d_MSt_keenWith_39 : decode MSt_keenWith.2.2.1 39 = .ok (.aload_n 0, 1) := lkT_ok tk_MSt_keenWith rfl
theorem d_MSt_keenWith_40 : decode MSt_keenWith.2.2.1 40 = .ok (.getfield 77, 3) := lkT_ok tk_MSt_keenWith rfl
theorem d_MSt_keenWith_43 : decode MSt_keenWith.2.2.1 43 = .ok (.iconst 2, 1) := lkT_ok tk_MSt_keenWith rfl
theorem d_MSt_keenWith_44 : decode MSt_keenWith.2.2.1 44 = .ok (.iload_n 1, 1) := lkT_ok tk_MSt_keenWith rfl
theorem d_MSt_keenWith_45 : decode MSt_keenWith.2.2.1 45 = .ok (.imul, 1) := lkT_ok tk_MSt_keenWith rfl
theorem d_MSt_keenWith_46 : decode MSt_keenWith.2.2.1 46 = .ok (.iload_n 3, 1) := lkT_ok tk_MSt_keenWith rfl
theorem d_MSt_keenWith_47 : decode MSt_keenWith.2.2.1 47 = .ok (.imul, 1) := lkT_ok tk_MSt_keenWith rfl
theorem d_MSt_keenWith_48 : decode MSt_keenWith.2.2.1 48 = .ok (.iload_n 3, 1) := lkT_ok tk_MSt_keenWith rfl
theorem d_MSt_keenWith_49 : decode MSt_keenWith.2.2.1 49 = .ok (.imul, 1) := lkT_ok tk_MSt_keenWith rfl
theorem d_MSt_keenWith_50 : decode MSt_keenWith.2.2.1 50 = .ok (.iadd, 1) := lkT_ok tk_MSt_keenWith rfl
theorem d_MSt_keenWith_51 : decode MSt_keenWith.2.2.1 51 = .ok (.imul, 1) := lkT_ok tk_MSt_keenWith rfl
theorem d_MSt_keenWith_52 : decode MSt_keenWith.2.2.1 52 = .ok (.aload_n 0, 1) := lkT_ok tk_MSt_keenWith rfl
theorem d_MSt_keenWith_53 : decode MSt_keenWith.2.2.1 53 = .ok (.getfield 71, 3) := lkT_ok tk_MSt_keenWith rfl
theorem d_MSt_keenWith_56 : decode MSt_keenWith.2.2.1 56 = .ok (.aload_n 0, 1) := lkT_ok tk_MSt_keenWith rfl
theorem d_MSt_keenWith_57 : decode MSt_keenWith.2.2.1 57 = .ok (.getfield 71, 3) := lkT_ok tk_MSt_keenWith rfl
theorem d_MSt_keenWith_60 : decode MSt_keenWith.2.2.1 60 = .ok (.imul, 1) := lkT_ok tk_MSt_keenWith rfl
theorem d_MSt_keenWith_61 : decode MSt_keenWith.2.2.1 61 = .ok (.isub, 1) := lkT_ok tk_MSt_keenWith rfl
theorem d_MSt_keenWith_62 : decode MSt_keenWith.2.2.1 62 = .ok (.istore 6, 2) := lkT_ok tk_MSt_keenWith rfl
theorem d_MSt_keenWith_64 : decode MSt_keenWith.2.2.1 64 = .ok (.iload 4, 2) := lkT_ok tk_MSt_keenWith rfl
theorem d_MSt_keenWith_66 : decode MSt_keenWith.2.2.1 66 = .ok (.aload_n 0, 1) := lkT_ok tk_MSt_keenWith rfl
theorem d_MSt_keenWith_67 : decode MSt_keenWith.2.2.1 67 = .ok (.getfield 80, 3) := lkT_ok tk_MSt_keenWith rfl
theorem d_MSt_keenWith_70 : decode MSt_keenWith.2.2.1 70 = .ok (.iconst 2, 1) := lkT_ok tk_MSt_keenWith rfl
theorem d_MSt_keenWith_71 : decode MSt_keenWith.2.2.1 71 = .ok (.iload_n 1, 1) := lkT_ok tk_MSt_keenWith rfl
theorem d_MSt_keenWith_72 : decode MSt_keenWith.2.2.1 72 = .ok (.imul, 1) := lkT_ok tk_MSt_keenWith rfl
theorem d_MSt_keenWith_73 : decode MSt_keenWith.2.2.1 73 = .ok (.iload_n 2, 1) := lkT_ok tk_MSt_keenWith rfl
theorem d_MSt_keenWith_74 : decode MSt_keenWith.2.2.1 74 = .ok (.imul, 1) := lkT_ok tk_MSt_keenWith rfl
theorem d_MSt_keenWith_75 : decode MSt_keenWith.2.2.1 75 = .ok (.iload_n 3, 1) := lkT_ok tk_MSt_keenWith rfl
theorem d_MSt_keenWith_76 : decode MSt_keenWith.2.2.1 76 = .ok (.imul, 1) := lkT_ok tk_MSt_keenWith rfl
theorem d_MSt_keenWith_77 : decode MSt_keenWith.2.2.1 77 = .ok (.iadd, 1) := lkT_ok tk_MSt_keenWith rfl
theorem d_MSt_keenWith_78 : decode MSt_keenWith.2.2.1 78 = .ok (.imul, 1) := lkT_ok tk_MSt_keenWith rfl
theorem d_MSt_keenWith_79 : decode MSt_keenWith.2.2.1 79 = .ok (.aload_n 0, 1) := lkT_ok tk_MSt_keenWith rfl
theorem d_MSt_keenWith_80 : decode MSt_keenWith.2.2.1 80 = .ok (.getfield 68, 3) := lkT_ok tk_MSt_keenWith rfl
theorem d_MSt_keenWith_83 : decode MSt_keenWith.2.2.1 83 = .ok (.aload_n 0, 1) := lkT_ok tk_MSt_keenWith rfl
theorem d_MSt_keenWith_84 : decode MSt_keenWith.2.2.1 84 = .ok (.getfield 71, 3) := lkT_ok tk_MSt_keenWith rfl
theorem d_MSt_keenWith_87 : decode MSt_keenWith.2.2.1 87 = .ok (.imul, 1) := lkT_ok tk_MSt_keenWith rfl
theorem d_MSt_keenWith_88 : decode MSt_keenWith.2.2.1 88 = .ok (.isub, 1) := lkT_ok tk_MSt_keenWith rfl
theorem d_MSt_keenWith_89 : decode MSt_keenWith.2.2.1 89 = .ok (.istore 7, 2) := lkT_ok tk_MSt_keenWith rfl
theorem d_MSt_keenWith_91 : decode MSt_keenWith.2.2.1 91 = .ok (.bipush 18, 2) := lkT_ok tk_MSt_keenWith rfl
theorem d_MSt_keenWith_93 : decode MSt_keenWith.2.2.1 93 = .ok (.iload 7, 2) := lkT_ok tk_MSt_keenWith rfl
theorem d_MSt_keenWith_95 : decode MSt_keenWith.2.2.1 95 = .ok (.imul, 1) := lkT_ok tk_MSt_keenWith rfl
theorem d_MSt_keenWith_96 : decode MSt_keenWith.2.2.1 96 = .ok (.iload 5, 2) := lkT_ok tk_MSt_keenWith rfl
theorem d_MSt_keenWith_98 : decode MSt_keenWith.2.2.1 98 = .ok (.iload 6, 2) := lkT_ok tk_MSt_keenWith rfl
theorem d_MSt_keenWith_100 : decode MSt_keenWith.2.2.1 100 = .ok (.isub, 1) := lkT_ok tk_MSt_keenWith rfl
theorem d_MSt_keenWith_101 : decode MSt_keenWith.2.2.1 101 = .ok (.invokestatic 87, 3) := lkT_ok tk_MSt_keenWith rfl
theorem d_MSt_keenWith_104 : decode MSt_keenWith.2.2.1 104 = .ok (.iconst 1, 1) := lkT_ok tk_MSt_keenWith rfl
theorem d_MSt_keenWith_105 : decode MSt_keenWith.2.2.1 105 = .ok (.iadd, 1) := lkT_ok tk_MSt_keenWith rfl
theorem d_MSt_keenWith_106 : decode MSt_keenWith.2.2.1 106 = .ok (.idiv, 1) := lkT_ok tk_MSt_keenWith rfl
theorem d_MSt_keenWith_107 : decode MSt_keenWith.2.2.1 107 = .ok (.istore 8, 2) := lkT_ok tk_MSt_keenWith rfl
theorem d_MSt_keenWith_109 : decode MSt_keenWith.2.2.1 109 = .ok (.bipush (-9), 2) := lkT_ok tk_MSt_keenWith rfl
theorem d_MSt_keenWith_111 : decode MSt_keenWith.2.2.1 111 = .ok (.bipush 9, 2) := lkT_ok tk_MSt_keenWith rfl
theorem d_MSt_keenWith_113 : decode MSt_keenWith.2.2.1 113 = .ok (.iload 8, 2) := lkT_ok tk_MSt_keenWith rfl
theorem d_MSt_keenWith_115 : decode MSt_keenWith.2.2.1 115 = .ok (.invokestatic 92, 3) := lkT_ok tk_MSt_keenWith rfl
theorem d_MSt_keenWith_118 : decode MSt_keenWith.2.2.1 118 = .ok (.invokestatic 96, 3) := lkT_ok tk_MSt_keenWith rfl
theorem d_MSt_keenWith_121 : decode MSt_keenWith.2.2.1 121 = .ok (.ireturn, 1) := lkT_ok tk_MSt_keenWith rfl
theorem r_MSt_keenWith_0 {l1 l2 l3 l4 l5 l6 l7 l8 : Value} {x : Nat} : Rr X d MSt_keenWith 0 [.ref x, l1, l2, l3, l4, l5, l6, l7, l8] st h = Rr X d MSt_keenWith 1 [.ref x, l1, l2, l3, l4, l5, l6, l7, l8] (.ref x :: st) h := Rr_nx d_MSt_keenWith_0 rfl
theorem r_MSt_keenWith_1 {a : Nat} (hq : qI a 7 5 = true) : Rr X d MSt_keenWith 1 L (.ref a :: st) (Wd mu la ro et) = Rr X d MSt_keenWith 4 L (.int (mu a 5) :: st) (Wd mu la ro et) := R_gfI d_MSt_keenWith_1 ff_7_65 hq
theorem r_MSt_keenWith_4 : Rr X d MSt_keenWith 4 L st h = Rr X d MSt_keenWith 5 L (.int (2) :: st) h := Rr_nx d_MSt_keenWith_4 rfl
theorem r_MSt_keenWith_5 {l0 l2 l3 l4 l5 l6 l7 l8 : Value} {x : Int32} : Rr X d MSt_keenWith 5 [l0, .int x, l2, l3, l4, l5, l6, l7, l8] st h = Rr X d MSt_keenWith 6 [l0, .int x, l2, l3, l4, l5, l6, l7, l8] (.int x :: st) h := Rr_nx d_MSt_keenWith_5 rfl
theorem r_MSt_keenWith_6 {x y : Int32} : Rr X d MSt_keenWith 6 L (.int y :: .int x :: st) h = Rr X d MSt_keenWith 7 L (.int (x * y) :: st) h := Rr_nx d_MSt_keenWith_6 rfl
theorem r_MSt_keenWith_7 {x y : Int32} : Rr X d MSt_keenWith 7 L (.int y :: .int x :: st) h = Rr X d MSt_keenWith 8 L (.int (x + y) :: st) h := Rr_nx d_MSt_keenWith_7 rfl
theorem r_MSt_keenWith_8 {l0 l1 l2 l3 l4 l5 l6 l7 l8 : Value} {x : Int32} : Rr X d MSt_keenWith 8 [l0, l1, l2, l3, l4, l5, l6, l7, l8] (.int x :: st) h = Rr X d MSt_keenWith 10 (sL [l0, l1, l2, l3, l4, l5, l6, l7, l8] 4 (.int x)) st h := Rr_nx d_MSt_keenWith_8 rfl
theorem r_MSt_keenWith_10 {l0 l1 l2 l3 l5 l6 l7 l8 : Value} {x : Int32} : Rr X d MSt_keenWith 10 [l0, l1, l2, l3, .int x, l5, l6, l7, l8] st h = Rr X d MSt_keenWith 12 [l0, l1, l2, l3, .int x, l5, l6, l7, l8] (.int x :: st) h := Rr_nx d_MSt_keenWith_10 rfl
theorem r_MSt_keenWith_12 {l1 l2 l3 l4 l5 l6 l7 l8 : Value} {x : Nat} : Rr X d MSt_keenWith 12 [.ref x, l1, l2, l3, l4, l5, l6, l7, l8] st h = Rr X d MSt_keenWith 13 [.ref x, l1, l2, l3, l4, l5, l6, l7, l8] (.ref x :: st) h := Rr_nx d_MSt_keenWith_12 rfl
theorem r_MSt_keenWith_13 {a : Nat} (hq : qI a 7 8 = true) : Rr X d MSt_keenWith 13 L (.ref a :: st) (Wd mu la ro et) = Rr X d MSt_keenWith 16 L (.int (mu a 8) :: st) (Wd mu la ro et) := R_gfI d_MSt_keenWith_13 ff_7_74 hq
theorem r_MSt_keenWith_16 : Rr X d MSt_keenWith 16 L st h = Rr X d MSt_keenWith 17 L (.int (2) :: st) h := Rr_nx d_MSt_keenWith_16 rfl
theorem r_MSt_keenWith_17 {l0 l2 l3 l4 l5 l6 l7 l8 : Value} {x : Int32} : Rr X d MSt_keenWith 17 [l0, .int x, l2, l3, l4, l5, l6, l7, l8] st h = Rr X d MSt_keenWith 18 [l0, .int x, l2, l3, l4, l5, l6, l7, l8] (.int x :: st) h := Rr_nx d_MSt_keenWith_17 rfl
theorem r_MSt_keenWith_18 {x y : Int32} : Rr X d MSt_keenWith 18 L (.int y :: .int x :: st) h = Rr X d MSt_keenWith 19 L (.int (x * y) :: st) h := Rr_nx d_MSt_keenWith_18 rfl
theorem r_MSt_keenWith_19 {l0 l1 l3 l4 l5 l6 l7 l8 : Value} {x : Int32} : Rr X d MSt_keenWith 19 [l0, l1, .int x, l3, l4, l5, l6, l7, l8] st h = Rr X d MSt_keenWith 20 [l0, l1, .int x, l3, l4, l5, l6, l7, l8] (.int x :: st) h := Rr_nx d_MSt_keenWith_19 rfl
theorem r_MSt_keenWith_20 {x y : Int32} : Rr X d MSt_keenWith 20 L (.int y :: .int x :: st) h = Rr X d MSt_keenWith 21 L (.int (x * y) :: st) h := Rr_nx d_MSt_keenWith_20 rfl
theorem r_MSt_keenWith_21 {l0 l1 l3 l4 l5 l6 l7 l8 : Value} {x : Int32} : Rr X d MSt_keenWith 21 [l0, l1, .int x, l3, l4, l5, l6, l7, l8] st h = Rr X d MSt_keenWith 22 [l0, l1, .int x, l3, l4, l5, l6, l7, l8] (.int x :: st) h := Rr_nx d_MSt_keenWith_21 rfl
theorem r_MSt_keenWith_22 {x y : Int32} : Rr X d MSt_keenWith 22 L (.int y :: .int x :: st) h = Rr X d MSt_keenWith 23 L (.int (x * y) :: st) h := Rr_nx d_MSt_keenWith_22 rfl
theorem r_MSt_keenWith_23 {x y : Int32} : Rr X d MSt_keenWith 23 L (.int y :: .int x :: st) h = Rr X d MSt_keenWith 24 L (.int (x + y) :: st) h := Rr_nx d_MSt_keenWith_23 rfl
theorem r_MSt_keenWith_24 {x y : Int32} : Rr X d MSt_keenWith 24 L (.int y :: .int x :: st) h = Rr X d MSt_keenWith 25 L (.int (x * y) :: st) h := Rr_nx d_MSt_keenWith_24 rfl
theorem r_MSt_keenWith_25 {l1 l2 l3 l4 l5 l6 l7 l8 : Value} {x : Nat} : Rr X d MSt_keenWith 25 [.ref x, l1, l2, l3, l4, l5, l6, l7, l8] st h = Rr X d MSt_keenWith 26 [.ref x, l1, l2, l3, l4, l5, l6, l7, l8] (.ref x :: st) h := Rr_nx d_MSt_keenWith_25 rfl
theorem r_MSt_keenWith_26 {a : Nat} (hq : qI a 7 6 = true) : Rr X d MSt_keenWith 26 L (.ref a :: st) (Wd mu la ro et) = Rr X d MSt_keenWith 29 L (.int (mu a 6) :: st) (Wd mu la ro et) := R_gfI d_MSt_keenWith_26 ff_7_68 hq
theorem r_MSt_keenWith_29 {l1 l2 l3 l4 l5 l6 l7 l8 : Value} {x : Nat} : Rr X d MSt_keenWith 29 [.ref x, l1, l2, l3, l4, l5, l6, l7, l8] st h = Rr X d MSt_keenWith 30 [.ref x, l1, l2, l3, l4, l5, l6, l7, l8] (.ref x :: st) h := Rr_nx d_MSt_keenWith_29 rfl
theorem r_MSt_keenWith_30 {a : Nat} (hq : qI a 7 6 = true) : Rr X d MSt_keenWith 30 L (.ref a :: st) (Wd mu la ro et) = Rr X d MSt_keenWith 33 L (.int (mu a 6) :: st) (Wd mu la ro et) := R_gfI d_MSt_keenWith_30 ff_7_68 hq
theorem r_MSt_keenWith_33 {x y : Int32} : Rr X d MSt_keenWith 33 L (.int y :: .int x :: st) h = Rr X d MSt_keenWith 34 L (.int (x * y) :: st) h := Rr_nx d_MSt_keenWith_33 rfl
theorem r_MSt_keenWith_34 {x y : Int32} : Rr X d MSt_keenWith 34 L (.int y :: .int x :: st) h = Rr X d MSt_keenWith 35 L (.int (x - y) :: st) h := Rr_nx d_MSt_keenWith_34 rfl
theorem r_MSt_keenWith_35 {l0 l1 l2 l3 l4 l5 l6 l7 l8 : Value} {x : Int32} : Rr X d MSt_keenWith 35 [l0, l1, l2, l3, l4, l5, l6, l7, l8] (.int x :: st) h = Rr X d MSt_keenWith 37 (sL [l0, l1, l2, l3, l4, l5, l6, l7, l8] 5 (.int x)) st h := Rr_nx d_MSt_keenWith_35 rfl
theorem r_MSt_keenWith_37 {l0 l1 l2 l3 l5 l6 l7 l8 : Value} {x : Int32} : Rr X d MSt_keenWith 37 [l0, l1, l2, l3, .int x, l5, l6, l7, l8] st h = Rr X d MSt_keenWith 39 [l0, l1, l2, l3, .int x, l5, l6, l7, l8] (.int x :: st) h := Rr_nx d_MSt_keenWith_37 rfl
theorem r_MSt_keenWith_39 {l1 l2 l3 l4 l5 l6 l7 l8 : Value} {x : Nat} : Rr X d MSt_keenWith 39 [.ref x, l1, l2, l3, l4, l5, l6, l7, l8] st h = Rr X d MSt_keenWith 40 [.ref x, l1, l2, l3, l4, l5, l6, l7, l8] (.ref x :: st) h := Rr_nx d_MSt_keenWith_39 rfl
theorem r_MSt_keenWith_40 {a : Nat} (hq : qI a 7 9 = true) : Rr X d MSt_keenWith 40 L (.ref a :: st) (Wd mu la ro et) = Rr X d MSt_keenWith 43 L (.int (mu a 9) :: st) (Wd mu la ro et) := R_gfI d_MSt_keenWith_40 ff_7_77 hq
theorem r_MSt_keenWith_43 : Rr X d MSt_keenWith 43 L st h = Rr X d MSt_keenWith 44 L (.int (2) :: st) h := Rr_nx d_MSt_keenWith_43 rfl
theorem r_MSt_keenWith_44 {l0 l2 l3 l4 l5 l6 l7 l8 : Value} {x : Int32} : Rr X d MSt_keenWith 44 [l0, .int x, l2, l3, l4, l5, l6, l7, l8] st h = Rr X d MSt_keenWith 45 [l0, .int x, l2, l3, l4, l5, l6, l7, l8] (.int x :: st) h := Rr_nx d_MSt_keenWith_44 rfl
theorem r_MSt_keenWith_45 {x y : Int32} : Rr X d MSt_keenWith 45 L (.int y :: .int x :: st) h = Rr X d MSt_keenWith 46 L (.int (x * y) :: st) h := Rr_nx d_MSt_keenWith_45 rfl
theorem r_MSt_keenWith_46 {l0 l1 l2 l4 l5 l6 l7 l8 : Value} {x : Int32} : Rr X d MSt_keenWith 46 [l0, l1, l2, .int x, l4, l5, l6, l7, l8] st h = Rr X d MSt_keenWith 47 [l0, l1, l2, .int x, l4, l5, l6, l7, l8] (.int x :: st) h := Rr_nx d_MSt_keenWith_46 rfl
theorem r_MSt_keenWith_47 {x y : Int32} : Rr X d MSt_keenWith 47 L (.int y :: .int x :: st) h = Rr X d MSt_keenWith 48 L (.int (x * y) :: st) h := Rr_nx d_MSt_keenWith_47 rfl
theorem r_MSt_keenWith_48 {l0 l1 l2 l4 l5 l6 l7 l8 : Value} {x : Int32} : Rr X d MSt_keenWith 48 [l0, l1, l2, .int x, l4, l5, l6, l7, l8] st h = Rr X d MSt_keenWith 49 [l0, l1, l2, .int x, l4, l5, l6, l7, l8] (.int x :: st) h := Rr_nx d_MSt_keenWith_48 rfl
theorem r_MSt_keenWith_49 {x y : Int32} : Rr X d MSt_keenWith 49 L (.int y :: .int x :: st) h = Rr X d MSt_keenWith 50 L (.int (x * y) :: st) h := Rr_nx d_MSt_keenWith_49 rfl
theorem r_MSt_keenWith_50 {x y : Int32} : Rr X d MSt_keenWith 50 L (.int y :: .int x :: st) h = Rr X d MSt_keenWith 51 L (.int (x + y) :: st) h := Rr_nx d_MSt_keenWith_50 rfl
theorem r_MSt_keenWith_51 {x y : Int32} : Rr X d MSt_keenWith 51 L (.int y :: .int x :: st) h = Rr X d MSt_keenWith 52 L (.int (x * y) :: st) h := Rr_nx d_MSt_keenWith_51 rfl
theorem r_MSt_keenWith_52 {l1 l2 l3 l4 l5 l6 l7 l8 : Value} {x : Nat} : Rr X d MSt_keenWith 52 [.ref x, l1, l2, l3, l4, l5, l6, l7, l8] st h = Rr X d MSt_keenWith 53 [.ref x, l1, l2, l3, l4, l5, l6, l7, l8] (.ref x :: st) h := Rr_nx d_MSt_keenWith_52 rfl
theorem r_MSt_keenWith_53 {a : Nat} (hq : qI a 7 7 = true) : Rr X d MSt_keenWith 53 L (.ref a :: st) (Wd mu la ro et) = Rr X d MSt_keenWith 56 L (.int (mu a 7) :: st) (Wd mu la ro et) := R_gfI d_MSt_keenWith_53 ff_7_71 hq
theorem r_MSt_keenWith_56 {l1 l2 l3 l4 l5 l6 l7 l8 : Value} {x : Nat} : Rr X d MSt_keenWith 56 [.ref x, l1, l2, l3, l4, l5, l6, l7, l8] st h = Rr X d MSt_keenWith 57 [.ref x, l1, l2, l3, l4, l5, l6, l7, l8] (.ref x :: st) h := Rr_nx d_MSt_keenWith_56 rfl
theorem r_MSt_keenWith_57 {a : Nat} (hq : qI a 7 7 = true) : Rr X d MSt_keenWith 57 L (.ref a :: st) (Wd mu la ro et) = Rr X d MSt_keenWith 60 L (.int (mu a 7) :: st) (Wd mu la ro et) := R_gfI d_MSt_keenWith_57 ff_7_71 hq
theorem r_MSt_keenWith_60 {x y : Int32} : Rr X d MSt_keenWith 60 L (.int y :: .int x :: st) h = Rr X d MSt_keenWith 61 L (.int (x * y) :: st) h := Rr_nx d_MSt_keenWith_60 rfl
theorem r_MSt_keenWith_61 {x y : Int32} : Rr X d MSt_keenWith 61 L (.int y :: .int x :: st) h = Rr X d MSt_keenWith 62 L (.int (x - y) :: st) h := Rr_nx d_MSt_keenWith_61 rfl
theorem r_MSt_keenWith_62 {l0 l1 l2 l3 l4 l5 l6 l7 l8 : Value} {x : Int32} : Rr X d MSt_keenWith 62 [l0, l1, l2, l3, l4, l5, l6, l7, l8] (.int x :: st) h = Rr X d MSt_keenWith 64 (sL [l0, l1, l2, l3, l4, l5, l6, l7, l8] 6 (.int x)) st h := Rr_nx d_MSt_keenWith_62 rfl
theorem r_MSt_keenWith_64 {l0 l1 l2 l3 l5 l6 l7 l8 : Value} {x : Int32} : Rr X d MSt_keenWith 64 [l0, l1, l2, l3, .int x, l5, l6, l7, l8] st h = Rr X d MSt_keenWith 66 [l0, l1, l2, l3, .int x, l5, l6, l7, l8] (.int x :: st) h := Rr_nx d_MSt_keenWith_64 rfl
theorem r_MSt_keenWith_66 {l1 l2 l3 l4 l5 l6 l7 l8 : Value} {x : Nat} : Rr X d MSt_keenWith 66 [.ref x, l1, l2, l3, l4, l5, l6, l7, l8] st h = Rr X d MSt_keenWith 67 [.ref x, l1, l2, l3, l4, l5, l6, l7, l8] (.ref x :: st) h := Rr_nx d_MSt_keenWith_66 rfl
theorem r_MSt_keenWith_67 {a : Nat} (hq : qI a 7 10 = true) : Rr X d MSt_keenWith 67 L (.ref a :: st) (Wd mu la ro et) = Rr X d MSt_keenWith 70 L (.int (mu a 10) :: st) (Wd mu la ro et) := R_gfI d_MSt_keenWith_67 ff_7_80 hq
theorem r_MSt_keenWith_70 : Rr X d MSt_keenWith 70 L st h = Rr X d MSt_keenWith 71 L (.int (2) :: st) h := Rr_nx d_MSt_keenWith_70 rfl
theorem r_MSt_keenWith_71 {l0 l2 l3 l4 l5 l6 l7 l8 : Value} {x : Int32} : Rr X d MSt_keenWith 71 [l0, .int x, l2, l3, l4, l5, l6, l7, l8] st h = Rr X d MSt_keenWith 72 [l0, .int x, l2, l3, l4, l5, l6, l7, l8] (.int x :: st) h := Rr_nx d_MSt_keenWith_71 rfl
theorem r_MSt_keenWith_72 {x y : Int32} : Rr X d MSt_keenWith 72 L (.int y :: .int x :: st) h = Rr X d MSt_keenWith 73 L (.int (x * y) :: st) h := Rr_nx d_MSt_keenWith_72 rfl
theorem r_MSt_keenWith_73 {l0 l1 l3 l4 l5 l6 l7 l8 : Value} {x : Int32} : Rr X d MSt_keenWith 73 [l0, l1, .int x, l3, l4, l5, l6, l7, l8] st h = Rr X d MSt_keenWith 74 [l0, l1, .int x, l3, l4, l5, l6, l7, l8] (.int x :: st) h := Rr_nx d_MSt_keenWith_73 rfl
theorem r_MSt_keenWith_74 {x y : Int32} : Rr X d MSt_keenWith 74 L (.int y :: .int x :: st) h = Rr X d MSt_keenWith 75 L (.int (x * y) :: st) h := Rr_nx d_MSt_keenWith_74 rfl
theorem r_MSt_keenWith_75 {l0 l1 l2 l4 l5 l6 l7 l8 : Value} {x : Int32} : Rr X d MSt_keenWith 75 [l0, l1, l2, .int x, l4, l5, l6, l7, l8] st h = Rr X d MSt_keenWith 76 [l0, l1, l2, .int x, l4, l5, l6, l7, l8] (.int x :: st) h := Rr_nx d_MSt_keenWith_75 rfl
theorem r_MSt_keenWith_76 {x y : Int32} : Rr X d MSt_keenWith 76 L (.int y :: .int x :: st) h = Rr X d MSt_keenWith 77 L (.int (x * y) :: st) h := Rr_nx d_MSt_keenWith_76 rfl
theorem r_MSt_keenWith_77 {x y : Int32} : Rr X d MSt_keenWith 77 L (.int y :: .int x :: st) h = Rr X d MSt_keenWith 78 L (.int (x + y) :: st) h := Rr_nx d_MSt_keenWith_77 rfl
theorem r_MSt_keenWith_78 {x y : Int32} : Rr X d MSt_keenWith 78 L (.int y :: .int x :: st) h = Rr X d MSt_keenWith 79 L (.int (x * y) :: st) h := Rr_nx d_MSt_keenWith_78 rfl
theorem r_MSt_keenWith_79 {l1 l2 l3 l4 l5 l6 l7 l8 : Value} {x : Nat} : Rr X d MSt_keenWith 79 [.ref x, l1, l2, l3, l4, l5, l6, l7, l8] st h = Rr X d MSt_keenWith 80 [.ref x, l1, l2, l3, l4, l5, l6, l7, l8] (.ref x :: st) h := Rr_nx d_MSt_keenWith_79 rfl
theorem r_MSt_keenWith_80 {a : Nat} (hq : qI a 7 6 = true) : Rr X d MSt_keenWith 80 L (.ref a :: st) (Wd mu la ro et) = Rr X d MSt_keenWith 83 L (.int (mu a 6) :: st) (Wd mu la ro et) := R_gfI d_MSt_keenWith_80 ff_7_68 hq
theorem r_MSt_keenWith_83 {l1 l2 l3 l4 l5 l6 l7 l8 : Value} {x : Nat} : Rr X d MSt_keenWith 83 [.ref x, l1, l2, l3, l4, l5, l6, l7, l8] st h = Rr X d MSt_keenWith 84 [.ref x, l1, l2, l3, l4, l5, l6, l7, l8] (.ref x :: st) h := Rr_nx d_MSt_keenWith_83 rfl
theorem r_MSt_keenWith_84 {a : Nat} (hq : qI a 7 7 = true) : Rr X d MSt_keenWith 84 L (.ref a :: st) (Wd mu la ro et) = Rr X d MSt_keenWith 87 L (.int (mu a 7) :: st) (Wd mu la ro et) := R_gfI d_MSt_keenWith_84 ff_7_71 hq
theorem r_MSt_keenWith_87 {x y : Int32} : Rr X d MSt_keenWith 87 L (.int y :: .int x :: st) h = Rr X d MSt_keenWith 88 L (.int (x * y) :: st) h := Rr_nx d_MSt_keenWith_87 rfl
theorem r_MSt_keenWith_88 {x y : Int32} : Rr X d MSt_keenWith 88 L (.int y :: .int x :: st) h = Rr X d MSt_keenWith 89 L (.int (x - y) :: st) h := Rr_nx d_MSt_keenWith_88 rfl
theorem r_MSt_keenWith_89 {l0 l1 l2 l3 l4 l5 l6 l7 l8 : Value} {x : Int32} : Rr X d MSt_keenWith 89 [l0, l1, l2, l3, l4, l5, l6, l7, l8] (.int x :: st) h = Rr X d MSt_keenWith 91 (sL [l0, l1, l2, l3, l4, l5, l6, l7, l8] 7 (.int x)) st h := Rr_nx d_MSt_keenWith_89 rfl
theorem r_MSt_keenWith_91 : Rr X d MSt_keenWith 91 L st h = Rr X d MSt_keenWith 93 L (.int (18) :: st) h := Rr_nx d_MSt_keenWith_91 rfl
theorem r_MSt_keenWith_93 {l0 l1 l2 l3 l4 l5 l6 l8 : Value} {x : Int32} : Rr X d MSt_keenWith 93 [l0, l1, l2, l3, l4, l5, l6, .int x, l8] st h = Rr X d MSt_keenWith 95 [l0, l1, l2, l3, l4, l5, l6, .int x, l8] (.int x :: st) h := Rr_nx d_MSt_keenWith_93 rfl
theorem r_MSt_keenWith_95 {x y : Int32} : Rr X d MSt_keenWith 95 L (.int y :: .int x :: st) h = Rr X d MSt_keenWith 96 L (.int (x * y) :: st) h := Rr_nx d_MSt_keenWith_95 rfl
theorem r_MSt_keenWith_96 {l0 l1 l2 l3 l4 l6 l7 l8 : Value} {x : Int32} : Rr X d MSt_keenWith 96 [l0, l1, l2, l3, l4, .int x, l6, l7, l8] st h = Rr X d MSt_keenWith 98 [l0, l1, l2, l3, l4, .int x, l6, l7, l8] (.int x :: st) h := Rr_nx d_MSt_keenWith_96 rfl
theorem r_MSt_keenWith_98 {l0 l1 l2 l3 l4 l5 l7 l8 : Value} {x : Int32} : Rr X d MSt_keenWith 98 [l0, l1, l2, l3, l4, l5, .int x, l7, l8] st h = Rr X d MSt_keenWith 100 [l0, l1, l2, l3, l4, l5, .int x, l7, l8] (.int x :: st) h := Rr_nx d_MSt_keenWith_98 rfl
theorem r_MSt_keenWith_100 {x y : Int32} : Rr X d MSt_keenWith 100 L (.int y :: .int x :: st) h = Rr X d MSt_keenWith 101 L (.int (x - y) :: st) h := Rr_nx d_MSt_keenWith_100 rfl
theorem fc_7_87 : fC 7 87 = some (8, 0, 0, mI 0) := rfl
theorem r_MSt_keenWith_101 {x : Int32} (hc : ckS st = true) : Rr X (d + 1) MSt_keenWith 101 L (.int x :: st) h = Rr X (d + 1) MSt_keenWith 104 L (.int (if 0 ≤ x then x else 0 - x) :: st) h := R_abs d_MSt_keenWith_101 fc_7_87 (ckS_le hc)
theorem r_MSt_keenWith_104 : Rr X d MSt_keenWith 104 L st h = Rr X d MSt_keenWith 105 L (.int (1) :: st) h := Rr_nx d_MSt_keenWith_104 rfl
theorem r_MSt_keenWith_105 {x y : Int32} : Rr X d MSt_keenWith 105 L (.int y :: .int x :: st) h = Rr X d MSt_keenWith 106 L (.int (x + y) :: st) h := Rr_nx d_MSt_keenWith_105 rfl
theorem r_MSt_keenWith_106 {x y : Int32} : Rr X d MSt_keenWith 106 L (.int y :: .int x :: st) h = if y = 0 then none else Rr X d MSt_keenWith 107 L (.int (x / y) :: st) h := R_dv d_MSt_keenWith_106
theorem r_MSt_keenWith_107 {l0 l1 l2 l3 l4 l5 l6 l7 l8 : Value} {x : Int32} : Rr X d MSt_keenWith 107 [l0, l1, l2, l3, l4, l5, l6, l7, l8] (.int x :: st) h = Rr X d MSt_keenWith 109 (sL [l0, l1, l2, l3, l4, l5, l6, l7, l8] 8 (.int x)) st h := Rr_nx d_MSt_keenWith_107 rfl
theorem r_MSt_keenWith_109 : Rr X d MSt_keenWith 109 L st h = Rr X d MSt_keenWith 111 L (.int (-9) :: st) h := Rr_nx d_MSt_keenWith_109 rfl
theorem r_MSt_keenWith_111 : Rr X d MSt_keenWith 111 L st h = Rr X d MSt_keenWith 113 L (.int (9) :: st) h := Rr_nx d_MSt_keenWith_111 rfl
theorem r_MSt_keenWith_113 {l0 l1 l2 l3 l4 l5 l6 l7 : Value} {x : Int32} : Rr X d MSt_keenWith 113 [l0, l1, l2, l3, l4, l5, l6, l7, .int x] st h = Rr X d MSt_keenWith 115 [l0, l1, l2, l3, l4, l5, l6, l7, .int x] (.int x :: st) h := Rr_nx d_MSt_keenWith_113 rfl
theorem fc_7_92 : fC 7 92 = some (7, 0, 0, mI 0) := rfl
theorem r_MSt_keenWith_115 {x y : Int32} (hc : ckS st = true) : Rr X (d + 1) MSt_keenWith 115 L (.int y :: .int x :: st) h = Rr X (d + 1) MSt_keenWith 118 L (.int (if y < x then y else x) :: st) h := R_min d_MSt_keenWith_115 fc_7_92 (ckS_le hc)
theorem fc_7_96 : fC 7 96 = some (6, 0, 0, mI 0) := rfl
theorem r_MSt_keenWith_118 {x y : Int32} (hc : ckS st = true) : Rr X (d + 1) MSt_keenWith 118 L (.int y :: .int x :: st) h = Rr X (d + 1) MSt_keenWith 121 L (.int (if x < y then y else x) :: st) h := R_max d_MSt_keenWith_118 fc_7_96 (ckS_le hc)
theorem r_MSt_keenWith_121 {x : Int32} : Rr X d MSt_keenWith 121 L [.int x] h = some (some (.int x), h) := R_ir d_MSt_keenWith_121 rfl
theorem d_MRm_of_0 : decode MRm_of.2.2.1 0 = .ok (.aload_n 0, 1) := lkT_ok tk_MRm_of rfl
theorem d_MRm_of_1 : decode MRm_of.2.2.1 1 = .ok (.iload_n 1, 1) := lkT_ok tk_MRm_of rfl
theorem d_MRm_of_2 : decode MRm_of.2.2.1 2 = .ok (.invokevirtual 173, 3) := lkT_ok tk_MRm_of rfl
theorem d_MRm_of_5 : decode MRm_of.2.2.1 5 = .ok (.ifCond .ne 6, 3) := lkT_ok tk_MRm_of rfl
theorem d_MRm_of_8 : decode MRm_of.2.2.1 8 = .ok (.ldc 176, 2) := lkT_ok tk_MRm_of rfl
theorem d_MRm_of_10 : decode MRm_of.2.2.1 10 = .ok (.ireturn, 1) := lkT_ok tk_MRm_of rfl
theorem d_MRm_of_11 : decode MRm_of.2.2.1 11 = .ok (.iload_n 2, 1) := lkT_ok tk_MRm_of rfl
theorem d_MRm_of_12 : decode MRm_of.2.2.1 12 = .ok (.bipush 6, 2) := lkT_ok tk_MRm_of rfl
theorem d_MRm_of_14 : decode MRm_of.2.2.1 14 = .ok (.bipush 9, 2) := lkT_ok tk_MRm_of rfl
theorem d_MRm_of_16 : decode MRm_of.2.2.1 16 = .ok (.invokestatic 107, 3) := lkT_ok tk_MRm_of rfl
theorem d_MRm_of_19 : decode MRm_of.2.2.1 19 = .ok (.ifCond .eq 17, 3) := lkT_ok tk_MRm_of rfl
theorem d_MRm_of_22 : decode MRm_of.2.2.1 22 = .ok (.aload_n 0, 1) := lkT_ok tk_MRm_of rfl
theorem d_MRm_of_23 : decode MRm_of.2.2.1 23 = .ok (.getfield 26, 3) := lkT_ok tk_MRm_of rfl
theorem d_MRm_of_26 : decode MRm_of.2.2.1 26 = .ok (.iconst 4, 1) := lkT_ok tk_MRm_of rfl
theorem d_MRm_of_27 : decode MRm_of.2.2.1 27 = .ok (.iload_n 1, 1) := lkT_ok tk_MRm_of rfl
theorem d_MRm_of_28 : decode MRm_of.2.2.1 28 = .ok (.imul, 1) := lkT_ok tk_MRm_of rfl
theorem d_MRm_of_29 : decode MRm_of.2.2.1 29 = .ok (.iload_n 2, 1) := lkT_ok tk_MRm_of rfl
theorem d_MRm_of_30 : decode MRm_of.2.2.1 30 = .ok (.iadd, 1) := lkT_ok tk_MRm_of rfl
theorem d_MRm_of_31 : decode MRm_of.2.2.1 31 = .ok (.bipush 6, 2) := lkT_ok tk_MRm_of rfl
theorem d_MRm_of_33 : decode MRm_of.2.2.1 33 = .ok (.isub, 1) := lkT_ok tk_MRm_of rfl
theorem d_MRm_of_34 : decode MRm_of.2.2.1 34 = .ok (.iaload, 1) := lkT_ok tk_MRm_of rfl
theorem d_MRm_of_35 : decode MRm_of.2.2.1 35 = .ok (.ireturn, 1) := lkT_ok tk_MRm_of rfl
theorem d_MRm_of_36 : decode MRm_of.2.2.1 36 = .ok (.iload_n 2, 1) := lkT_ok tk_MRm_of rfl
theorem d_MRm_of_37 : decode MRm_of.2.2.1 37 = .ok (.tableswitch 78 0 5 #[39, 46, 54, 60, 66, 72], 39) := lkT_ok tk_MRm_of rfl
theorem d_MRm_of_76 : decode MRm_of.2.2.1 76 = .ok (.aload_n 0, 1) := lkT_ok tk_MRm_of rfl
theorem d_MRm_of_77 : decode MRm_of.2.2.1 77 = .ok (.getfield 13, 3) := lkT_ok tk_MRm_of rfl
theorem d_MRm_of_80 : decode MRm_of.2.2.1 80 = .ok (.iload_n 1, 1) := lkT_ok tk_MRm_of rfl
theorem d_MRm_of_81 : decode MRm_of.2.2.1 81 = .ok (.iaload, 1) := lkT_ok tk_MRm_of rfl
theorem d_MRm_of_82 : decode MRm_of.2.2.1 82 = .ok (.ireturn, 1) := lkT_ok tk_MRm_of rfl
theorem d_MRm_of_83 : decode MRm_of.2.2.1 83 = .ok (.aload_n 0, 1) := lkT_ok tk_MRm_of rfl
theorem d_MRm_of_84 : decode MRm_of.2.2.1 84 = .ok (.iload_n 1, 1) := lkT_ok tk_MRm_of rfl
theorem d_MRm_of_85 : decode MRm_of.2.2.1 85 = .ok (.iconst 0, 1) := lkT_ok tk_MRm_of rfl
theorem d_MRm_of_86 : decode MRm_of.2.2.1 86 = .ok (.iconst 0, 1) := lkT_ok tk_MRm_of rfl
theorem d_MRm_of_87 : decode MRm_of.2.2.1 87 = .ok (.invokevirtual 154, 3) := lkT_ok tk_MRm_of rfl
theorem d_MRm_of_90 : decode MRm_of.2.2.1 90 = .ok (.ireturn, 1) := lkT_ok tk_MRm_of rfl
theorem d_MRm_of_91 : decode MRm_of.2.2.1 91 = .ok (.aload_n 0, 1) := lkT_ok tk_MRm_of rfl
theorem d_MRm_of_92 : decode MRm_of.2.2.1 92 = .ok (.iload_n 1, 1) := lkT_ok tk_MRm_of rfl
theorem d_MRm_of_93 : decode MRm_of.2.2.1 93 = .ok (.invokevirtual 161, 3) := lkT_ok tk_MRm_of rfl
theorem d_MRm_of_96 : decode MRm_of.2.2.1 96 = .ok (.ireturn, 1) := lkT_ok tk_MRm_of rfl
theorem d_MRm_of_97 : decode MRm_of.2.2.1 97 = .ok (.aload_n 0, 1) := lkT_ok tk_MRm_of rfl
theorem d_MRm_of_98 : decode MRm_of.2.2.1 98 = .ok (.iload_n 1, 1) := lkT_ok tk_MRm_of rfl
theorem d_MRm_of_99 : decode MRm_of.2.2.1 99 = .ok (.invokevirtual 164, 3) := lkT_ok tk_MRm_of rfl
theorem d_MRm_of_102 : decode MRm_of.2.2.1 102 = .ok (.ireturn, 1) := lkT_ok tk_MRm_of rfl
theorem d_MRm_of_103 : decode MRm_of.2.2.1 103 = .ok (.aload_n 0, 1) := lkT_ok tk_MRm_of rfl
theorem d_MRm_of_104 : decode MRm_of.2.2.1 104 = .ok (.iload_n 1, 1) := lkT_ok tk_MRm_of rfl
theorem d_MRm_of_105 : decode MRm_of.2.2.1 105 = .ok (.invokevirtual 158, 3) := lkT_ok tk_MRm_of rfl
theorem d_MRm_of_108 : decode MRm_of.2.2.1 108 = .ok (.ireturn, 1) := lkT_ok tk_MRm_of rfl
theorem d_MRm_of_109 : decode MRm_of.2.2.1 109 = .ok (.aload_n 0, 1) := lkT_ok tk_MRm_of rfl
theorem d_MRm_of_110 : decode MRm_of.2.2.1 110 = .ok (.iload_n 1, 1) := lkT_ok tk_MRm_of rfl
theorem d_MRm_of_111 : decode MRm_of.2.2.1 111 = .ok (.invokevirtual 177, 3) := lkT_ok tk_MRm_of rfl
theorem d_MRm_of_114 : decode MRm_of.2.2.1 114 = .ok (.ireturn, 1) := lkT_ok tk_MRm_of rfl
theorem d_MRm_of_115 : decode MRm_of.2.2.1 115 = .ok (.ldc 176, 2) := lkT_ok tk_MRm_of rfl
theorem d_MRm_of_117 : decode MRm_of.2.2.1 117 = .ok (.ireturn, 1) := lkT_ok tk_MRm_of rfl
theorem r_MRm_of_0 {l1 l2 : Value} {x : Nat} : Rr X d MRm_of 0 [.ref x, l1, l2] st h = Rr X d MRm_of 1 [.ref x, l1, l2] (.ref x :: st) h := Rr_nx d_MRm_of_0 rfl
theorem r_MRm_of_1 {l0 l2 : Value} {x : Int32} : Rr X d MRm_of 1 [l0, .int x, l2] st h = Rr X d MRm_of 2 [l0, .int x, l2] (.int x :: st) h := Rr_nx d_MRm_of_1 rfl
theorem r_MRm_of_2 {y0 : Int32} {a : Nat} (hO : qO a 10 = true) (hc : ckS st = true) : Rr X (d + 1) MRm_of 2 L (.int y0 :: .ref a :: st) (Wd mu la ro et) = (Rr X d MRm_isStone 0 [.ref a, .int y0] [] (Wd mu la ro et)).bind fun q => Rr X (d + 1) MRm_of 5 L (psh q.1 st) q.2 := R_iv (av := [.int y0]) d_MRm_of_2 fc_10_173 hO (ckS_le hc) rfl (Nat.le_of_ble_eq_true rfl) (Nat.le_of_ble_eq_true rfl)
theorem r_MRm_of_5 {x : Int32} : Rr X d MRm_of 5 L (.int x :: st) h = if ¬ x = 0 then Rr X d MRm_of 11 L st h else Rr X d MRm_of 8 L st h := R_if_ne d_MRm_of_5 (by decide)
theorem r_MRm_of_8 : Rr X d MRm_of 8 L st h = Rr X d MRm_of 10 L (.int (-2000000000) :: st) h := Rr_nx d_MRm_of_8 rfl
theorem r_MRm_of_10 {x : Int32} : Rr X d MRm_of 10 L [.int x] h = some (some (.int x), h) := R_ir d_MRm_of_10 rfl
theorem r_MRm_of_11 {l0 l1 : Value} {x : Int32} : Rr X d MRm_of 11 [l0, l1, .int x] st h = Rr X d MRm_of 12 [l0, l1, .int x] (.int x :: st) h := Rr_nx d_MRm_of_11 rfl
theorem r_MRm_of_12 : Rr X d MRm_of 12 L st h = Rr X d MRm_of 14 L (.int (6) :: st) h := Rr_nx d_MRm_of_12 rfl
theorem r_MRm_of_14 : Rr X d MRm_of 14 L st h = Rr X d MRm_of 16 L (.int (9) :: st) h := Rr_nx d_MRm_of_14 rfl
theorem r_MRm_of_16 {y0 : Int32} {y1 : Int32} {y2 : Int32} (hc : ckS st = true) : Rr X (d + 1) MRm_of 16 L (.int y2 :: .int y1 :: .int y0 :: st) h = (Rr X d MRm_in 0 [.int y0, .int y1, .int y2] [] h).bind fun q => Rr X (d + 1) MRm_of 19 L (psh q.1 st) q.2 := R_is (av := [.int y2, .int y1, .int y0]) d_MRm_of_16 (Or.inl fc_10_107) (ckS_le hc) rfl (Nat.le_of_ble_eq_true rfl) (Nat.le_of_ble_eq_true rfl)
theorem r_MRm_of_19 {x : Int32} : Rr X d MRm_of 19 L (.int x :: st) h = if x = 0 then Rr X d MRm_of 36 L st h else Rr X d MRm_of 22 L st h := R_if_eq d_MRm_of_19 (by decide)
theorem r_MRm_of_22 {l1 l2 : Value} {x : Nat} : Rr X d MRm_of 22 [.ref x, l1, l2] st h = Rr X d MRm_of 23 [.ref x, l1, l2] (.ref x :: st) h := Rr_nx d_MRm_of_22 rfl
theorem r_MRm_of_23 {a : Nat} (hq : (qR a 10 8).isSome = true) : Rr X d MRm_of 23 L (.ref a :: st) (Wd mu la ro et) = Rr X d MRm_of 26 L (.ref (qRd a 10 8) :: st) (Wd mu la ro et) := R_gfR d_MRm_of_23 ff_10_26 hq
theorem r_MRm_of_26 : Rr X d MRm_of 26 L st h = Rr X d MRm_of 27 L (.int (4) :: st) h := Rr_nx d_MRm_of_26 rfl
theorem r_MRm_of_27 {l0 l2 : Value} {x : Int32} : Rr X d MRm_of 27 [l0, .int x, l2] st h = Rr X d MRm_of 28 [l0, .int x, l2] (.int x :: st) h := Rr_nx d_MRm_of_27 rfl
theorem r_MRm_of_28 {x y : Int32} : Rr X d MRm_of 28 L (.int y :: .int x :: st) h = Rr X d MRm_of 29 L (.int (x * y) :: st) h := Rr_nx d_MRm_of_28 rfl
theorem r_MRm_of_29 {l0 l1 : Value} {x : Int32} : Rr X d MRm_of 29 [l0, l1, .int x] st h = Rr X d MRm_of 30 [l0, l1, .int x] (.int x :: st) h := Rr_nx d_MRm_of_29 rfl
theorem r_MRm_of_30 {x y : Int32} : Rr X d MRm_of 30 L (.int y :: .int x :: st) h = Rr X d MRm_of 31 L (.int (x + y) :: st) h := Rr_nx d_MRm_of_30 rfl
theorem r_MRm_of_31 : Rr X d MRm_of 31 L st h = Rr X d MRm_of 33 L (.int (6) :: st) h := Rr_nx d_MRm_of_31 rfl
theorem r_MRm_of_33 {x y : Int32} : Rr X d MRm_of 33 L (.int y :: .int x :: st) h = Rr X d MRm_of 34 L (.int (x - y) :: st) h := Rr_nx d_MRm_of_33 rfl
theorem r_MRm_of_34 {a : Nat} {j : Int32} (hq : (qA a 0).isSome = true) : Rr X d MRm_of 34 L (.int j :: .ref a :: st) (Wd mu la ro et) = if j < 0 ∨ qAd a 0 ≤ j.toNatClampNeg then none else Rr X d MRm_of 35 L (.int (mu a j.toNatClampNeg) :: st) (Wd mu la ro et) := R_ialW d_MRm_of_34 hq
theorem r_MRm_of_35 {x : Int32} : Rr X d MRm_of 35 L [.int x] h = some (some (.int x), h) := R_ir d_MRm_of_35 rfl
theorem r_MRm_of_36 {l0 l1 : Value} {x : Int32} : Rr X d MRm_of 36 [l0, l1, .int x] st h = Rr X d MRm_of 37 [l0, l1, .int x] (.int x :: st) h := Rr_nx d_MRm_of_36 rfl
theorem r_MRm_of_37_0 : Rr X d MRm_of 37 L (.int (0) :: st) h = Rr X d MRm_of 76 L st h := R_tab (off := 39) d_MRm_of_37 (by decide) (by decide) (by decide)
theorem r_MRm_of_37_1 : Rr X d MRm_of 37 L (.int (1) :: st) h = Rr X d MRm_of 83 L st h := R_tab (off := 46) d_MRm_of_37 (by decide) (by decide) (by decide)
theorem r_MRm_of_37_2 : Rr X d MRm_of 37 L (.int (2) :: st) h = Rr X d MRm_of 91 L st h := R_tab (off := 54) d_MRm_of_37 (by decide) (by decide) (by decide)
theorem r_MRm_of_37_3 : Rr X d MRm_of 37 L (.int (3) :: st) h = Rr X d MRm_of 97 L st h := R_tab (off := 60) d_MRm_of_37 (by decide) (by decide) (by decide)
theorem r_MRm_of_37_4 : Rr X d MRm_of 37 L (.int (4) :: st) h = Rr X d MRm_of 103 L st h := R_tab (off := 66) d_MRm_of_37 (by decide) (by decide) (by decide)
theorem r_MRm_of_37_5 : Rr X d MRm_of 37 L (.int (5) :: st) h = Rr X d MRm_of 109 L st h := R_tab (off := 72) d_MRm_of_37 (by decide) (by decide) (by decide)
theorem r_MRm_of_37D {x : Int32} (hx : x.toInt < 0 ∨ 5 < x.toInt) : Rr X d MRm_of 37 L (.int x :: st) h = Rr X d MRm_of 115 L st h := R_tabD d_MRm_of_37 hx (by decide)
theorem r_MRm_of_76 {l1 l2 : Value} {x : Nat} : Rr X d MRm_of 76 [.ref x, l1, l2] st h = Rr X d MRm_of 77 [.ref x, l1, l2] (.ref x :: st) h := Rr_nx d_MRm_of_76 rfl
theorem r_MRm_of_77 {a : Nat} (hq : (qR a 10 4).isSome = true) : Rr X d MRm_of 77 L (.ref a :: st) (Wd mu la ro et) = Rr X d MRm_of 80 L (.ref (qRd a 10 4) :: st) (Wd mu la ro et) := R_gfR d_MRm_of_77 ff_10_13 hq
theorem r_MRm_of_80 {l0 l2 : Value} {x : Int32} : Rr X d MRm_of 80 [l0, .int x, l2] st h = Rr X d MRm_of 81 [l0, .int x, l2] (.int x :: st) h := Rr_nx d_MRm_of_80 rfl
theorem r_MRm_of_81 {a : Nat} {j : Int32} (hq : (qA a 0).isSome = true) : Rr X d MRm_of 81 L (.int j :: .ref a :: st) (Wd mu la ro et) = if j < 0 ∨ qAd a 0 ≤ j.toNatClampNeg then none else Rr X d MRm_of 82 L (.int (mu a j.toNatClampNeg) :: st) (Wd mu la ro et) := R_ialW d_MRm_of_81 hq
theorem r_MRm_of_82 {x : Int32} : Rr X d MRm_of 82 L [.int x] h = some (some (.int x), h) := R_ir d_MRm_of_82 rfl
theorem r_MRm_of_83 {l1 l2 : Value} {x : Nat} : Rr X d MRm_of 83 [.ref x, l1, l2] st h = Rr X d MRm_of 84 [.ref x, l1, l2] (.ref x :: st) h := Rr_nx d_MRm_of_83 rfl
theorem r_MRm_of_84 {l0 l2 : Value} {x : Int32} : Rr X d MRm_of 84 [l0, .int x, l2] st h = Rr X d MRm_of 85 [l0, .int x, l2] (.int x :: st) h := Rr_nx d_MRm_of_84 rfl
theorem r_MRm_of_85 : Rr X d MRm_of 85 L st h = Rr X d MRm_of 86 L (.int (0) :: st) h := Rr_nx d_MRm_of_85 rfl
theorem r_MRm_of_86 : Rr X d MRm_of 86 L st h = Rr X d MRm_of 87 L (.int (0) :: st) h := Rr_nx d_MRm_of_86 rfl
theorem fc_10_154 : fC 10 154 = some (0, 10, 3, MRm_sumOf) := rfl
theorem r_MRm_of_87 {y0 : Int32} {y1 : Int32} {y2 : Int32} {a : Nat} (hO : qO a 10 = true) (hc : ckS st = true) : Rr X (d + 1) MRm_of 87 L (.int y2 :: .int y1 :: .int y0 :: .ref a :: st) (Wd mu la ro et) = (Rr X d MRm_sumOf 0 [.ref a, .int y0, .int y1, .int y2, mkU, mkU, mkU, mkU, mkU] [] (Wd mu la ro et)).bind fun q => Rr X (d + 1) MRm_of 90 L (psh q.1 st) q.2 := R_iv (av := [.int y2, .int y1, .int y0]) d_MRm_of_87 fc_10_154 hO (ckS_le hc) rfl (Nat.le_of_ble_eq_true rfl) (Nat.le_of_ble_eq_true rfl)
theorem r_MRm_of_90 {x : Int32} : Rr X d MRm_of 90 L [.int x] h = some (some (.int x), h) := R_ir d_MRm_of_90 rfl
theorem r_MRm_of_91 {l1 l2 : Value} {x : Nat} : Rr X d MRm_of 91 [.ref x, l1, l2] st h = Rr X d MRm_of 92 [.ref x, l1, l2] (.ref x :: st) h := Rr_nx d_MRm_of_91 rfl
theorem r_MRm_of_92 {l0 l2 : Value} {x : Int32} : Rr X d MRm_of 92 [l0, .int x, l2] st h = Rr X d MRm_of 93 [l0, .int x, l2] (.int x :: st) h := Rr_nx d_MRm_of_92 rfl
theorem fc_10_161 : fC 10 161 = some (0, 10, 1, MRm_wideX) := rfl
theorem r_MRm_of_93 {y0 : Int32} {a : Nat} (hO : qO a 10 = true) (hc : ckS st = true) : Rr X (d + 1) MRm_of 93 L (.int y0 :: .ref a :: st) (Wd mu la ro et) = (Rr X d MRm_wideX 0 [.ref a, .int y0] [] (Wd mu la ro et)).bind fun q => Rr X (d + 1) MRm_of 96 L (psh q.1 st) q.2 := R_iv (av := [.int y0]) d_MRm_of_93 fc_10_161 hO (ckS_le hc) rfl (Nat.le_of_ble_eq_true rfl) (Nat.le_of_ble_eq_true rfl)
theorem r_MRm_of_96 {x : Int32} : Rr X d MRm_of 96 L [.int x] h = some (some (.int x), h) := R_ir d_MRm_of_96 rfl
theorem r_MRm_of_97 {l1 l2 : Value} {x : Nat} : Rr X d MRm_of 97 [.ref x, l1, l2] st h = Rr X d MRm_of 98 [.ref x, l1, l2] (.ref x :: st) h := Rr_nx d_MRm_of_97 rfl
theorem r_MRm_of_98 {l0 l2 : Value} {x : Int32} : Rr X d MRm_of 98 [l0, .int x, l2] st h = Rr X d MRm_of 99 [l0, .int x, l2] (.int x :: st) h := Rr_nx d_MRm_of_98 rfl
theorem fc_10_164 : fC 10 164 = some (0, 10, 1, MRm_wideY) := rfl
theorem r_MRm_of_99 {y0 : Int32} {a : Nat} (hO : qO a 10 = true) (hc : ckS st = true) : Rr X (d + 1) MRm_of 99 L (.int y0 :: .ref a :: st) (Wd mu la ro et) = (Rr X d MRm_wideY 0 [.ref a, .int y0] [] (Wd mu la ro et)).bind fun q => Rr X (d + 1) MRm_of 102 L (psh q.1 st) q.2 := R_iv (av := [.int y0]) d_MRm_of_99 fc_10_164 hO (ckS_le hc) rfl (Nat.le_of_ble_eq_true rfl) (Nat.le_of_ble_eq_true rfl)
theorem r_MRm_of_102 {x : Int32} : Rr X d MRm_of 102 L [.int x] h = some (some (.int x), h) := R_ir d_MRm_of_102 rfl
theorem r_MRm_of_103 {l1 l2 : Value} {x : Nat} : Rr X d MRm_of 103 [.ref x, l1, l2] st h = Rr X d MRm_of 104 [.ref x, l1, l2] (.ref x :: st) h := Rr_nx d_MRm_of_103 rfl
theorem r_MRm_of_104 {l0 l2 : Value} {x : Int32} : Rr X d MRm_of 104 [l0, .int x, l2] st h = Rr X d MRm_of 105 [l0, .int x, l2] (.int x :: st) h := Rr_nx d_MRm_of_104 rfl
theorem fc_10_158 : fC 10 158 = some (0, 10, 1, MRm_slant) := rfl
theorem r_MRm_of_105 {y0 : Int32} {a : Nat} (hO : qO a 10 = true) (hc : ckS st = true) : Rr X (d + 1) MRm_of 105 L (.int y0 :: .ref a :: st) (Wd mu la ro et) = (Rr X d MRm_slant 0 [.ref a, .int y0] [] (Wd mu la ro et)).bind fun q => Rr X (d + 1) MRm_of 108 L (psh q.1 st) q.2 := R_iv (av := [.int y0]) d_MRm_of_105 fc_10_158 hO (ckS_le hc) rfl (Nat.le_of_ble_eq_true rfl) (Nat.le_of_ble_eq_true rfl)
theorem r_MRm_of_108 {x : Int32} : Rr X d MRm_of 108 L [.int x] h = some (some (.int x), h) := R_ir d_MRm_of_108 rfl
theorem r_MRm_of_109 {l1 l2 : Value} {x : Nat} : Rr X d MRm_of 109 [.ref x, l1, l2] st h = Rr X d MRm_of 110 [.ref x, l1, l2] (.ref x :: st) h := Rr_nx d_MRm_of_109 rfl
theorem r_MRm_of_110 {l0 l2 : Value} {x : Int32} : Rr X d MRm_of 110 [l0, .int x, l2] st h = Rr X d MRm_of 111 [l0, .int x, l2] (.int x :: st) h := Rr_nx d_MRm_of_110 rfl
theorem fc_10_177 : fC 10 177 = some (0, 10, 1, MRm_keenOf) := rfl
theorem r_MRm_of_111 {y0 : Int32} {a : Nat} (hO : qO a 10 = true) (hc : ckS st = true) : Rr X (d + 1) MRm_of 111 L (.int y0 :: .ref a :: st) (Wd mu la ro et) = (Rr X d MRm_keenOf 0 [.ref a, .int y0] [] (Wd mu la ro et)).bind fun q => Rr X (d + 1) MRm_of 114 L (psh q.1 st) q.2 := R_iv (av := [.int y0]) d_MRm_of_111 fc_10_177 hO (ckS_le hc) rfl (Nat.le_of_ble_eq_true rfl) (Nat.le_of_ble_eq_true rfl)
theorem r_MRm_of_114 {x : Int32} : Rr X d MRm_of 114 L [.int x] h = some (some (.int x), h) := R_ir d_MRm_of_114 rfl
theorem r_MRm_of_115 : Rr X d MRm_of 115 L st h = Rr X d MRm_of 117 L (.int (-2000000000) :: st) h := Rr_nx d_MRm_of_115 rfl
theorem r_MRm_of_117 {x : Int32} : Rr X d MRm_of 117 L [.int x] h = some (some (.int x), h) := R_ir d_MRm_of_117 rfl
theorem d_MRm_lump_0 : decode MRm_lump.2.2.1 0 = .ok (.aload_n 0, 1) := lkT_ok tk_MRm_lump rfl
theorem d_MRm_lump_1 : decode MRm_lump.2.2.1 1 = .ok (.iload_n 1, 1) := lkT_ok tk_MRm_lump rfl
theorem d_MRm_lump_2 : decode MRm_lump.2.2.1 2 = .ok (.invokevirtual 173, 3) := lkT_ok tk_MRm_lump rfl
theorem d_MRm_lump_5 : decode MRm_lump.2.2.1 5 = .ok (.ifCond .eq 28, 3) := lkT_ok tk_MRm_lump rfl
theorem d_MRm_lump_8 : decode MRm_lump.2.2.1 8 = .ok (.iload_n 2, 1) := lkT_ok tk_MRm_lump rfl
theorem d_MRm_lump_9 : decode MRm_lump.2.2.1 9 = .ok (.iconst 0, 1) := lkT_ok tk_MRm_lump rfl
theorem d_MRm_lump_10 : decode MRm_lump.2.2.1 10 = .ok (.aload_n 0, 1) := lkT_ok tk_MRm_lump rfl
theorem d_MRm_lump_11 : decode MRm_lump.2.2.1 11 = .ok (.getfield 13, 3) := lkT_ok tk_MRm_lump rfl
theorem d_MRm_lump_14 : decode MRm_lump.2.2.1 14 = .ok (.iload_n 1, 1) := lkT_ok tk_MRm_lump rfl
theorem d_MRm_lump_15 : decode MRm_lump.2.2.1 15 = .ok (.iaload, 1) := lkT_ok tk_MRm_lump rfl
theorem d_MRm_lump_16 : decode MRm_lump.2.2.1 16 = .ok (.iconst 1, 1) := lkT_ok tk_MRm_lump rfl
theorem d_MRm_lump_17 : decode MRm_lump.2.2.1 17 = .ok (.isub, 1) := lkT_ok tk_MRm_lump rfl
theorem d_MRm_lump_18 : decode MRm_lump.2.2.1 18 = .ok (.invokestatic 107, 3) := lkT_ok tk_MRm_lump rfl
theorem d_MRm_lump_21 : decode MRm_lump.2.2.1 21 = .ok (.ifCond .eq 12, 3) := lkT_ok tk_MRm_lump rfl
theorem d_MRm_lump_24 : decode MRm_lump.2.2.1 24 = .ok (.iload_n 3, 1) := lkT_ok tk_MRm_lump rfl
theorem d_MRm_lump_25 : decode MRm_lump.2.2.1 25 = .ok (.iconst 0, 1) := lkT_ok tk_MRm_lump rfl
theorem d_MRm_lump_26 : decode MRm_lump.2.2.1 26 = .ok (.iconst 2, 1) := lkT_ok tk_MRm_lump rfl
theorem d_MRm_lump_27 : decode MRm_lump.2.2.1 27 = .ok (.invokestatic 107, 3) := lkT_ok tk_MRm_lump rfl
theorem d_MRm_lump_30 : decode MRm_lump.2.2.1 30 = .ok (.ifCond .ne 6, 3) := lkT_ok tk_MRm_lump rfl
theorem d_MRm_lump_33 : decode MRm_lump.2.2.1 33 = .ok (.ldc 176, 2) := lkT_ok tk_MRm_lump rfl
theorem d_MRm_lump_35 : decode MRm_lump.2.2.1 35 = .ok (.ireturn, 1) := lkT_ok tk_MRm_lump rfl
theorem d_MRm_lump_36 : decode MRm_lump.2.2.1 36 = .ok (.bipush 12, 2) := lkT_ok tk_MRm_lump rfl
theorem d_MRm_lump_38 : decode MRm_lump.2.2.1 38 = .ok (.iload_n 1, 1) := lkT_ok tk_MRm_lump rfl
theorem d_MRm_lump_39 : decode MRm_lump.2.2.1 39 = .ok (.imul, 1) := lkT_ok tk_MRm_lump rfl
theorem d_MRm_lump_40 : decode MRm_lump.2.2.1 40 = .ok (.iload_n 2, 1) := lkT_ok tk_MRm_lump rfl
theorem d_MRm_lump_41 : decode MRm_lump.2.2.1 41 = .ok (.iadd, 1) := lkT_ok tk_MRm_lump rfl
theorem d_MRm_lump_42 : decode MRm_lump.2.2.1 42 = .ok (.istore 4, 2) := lkT_ok tk_MRm_lump rfl
theorem d_MRm_lump_44 : decode MRm_lump.2.2.1 44 = .ok (.iload_n 3, 1) := lkT_ok tk_MRm_lump rfl
theorem d_MRm_lump_45 : decode MRm_lump.2.2.1 45 = .ok (.ifCond .ne 13, 3) := lkT_ok tk_MRm_lump rfl
theorem d_MRm_lump_48 : decode MRm_lump.2.2.1 48 = .ok (.aload_n 0, 1) := lkT_ok tk_MRm_lump rfl
theorem d_MRm_lump_49 : decode MRm_lump.2.2.1 49 = .ok (.getfield 17, 3) := lkT_ok tk_MRm_lump rfl
theorem d_MRm_lump_52 : decode MRm_lump.2.2.1 52 = .ok (.iload 4, 2) := lkT_ok tk_MRm_lump rfl
theorem d_MRm_lump_54 : decode MRm_lump.2.2.1 54 = .ok (.iaload, 1) := lkT_ok tk_MRm_lump rfl
theorem d_MRm_lump_55 : decode MRm_lump.2.2.1 55 = .ok (.goto 25, 3) := lkT_ok tk_MRm_lump rfl
theorem d_MRm_lump_58 : decode MRm_lump.2.2.1 58 = .ok (.iload_n 3, 1) := lkT_ok tk_MRm_lump rfl
theorem d_MRm_lump_59 : decode MRm_lump.2.2.1 59 = .ok (.iconst 1, 1) := lkT_ok tk_MRm_lump rfl
theorem d_MRm_lump_60 : decode MRm_lump.2.2.1 60 = .ok (.if_icmp .ne 13, 3) := lkT_ok tk_MRm_lump rfl
theorem d_MRm_lump_63 : decode MRm_lump.2.2.1 63 = .ok (.aload_n 0, 1) := lkT_ok tk_MRm_lump rfl
theorem d_MRm_lump_64 : decode MRm_lump.2.2.1 64 = .ok (.getfield 20, 3) := lkT_ok tk_MRm_lump rfl
theorem d_MRm_lump_67 : decode MRm_lump.2.2.1 67 = .ok (.iload 4, 2) := lkT_ok tk_MRm_lump rfl
theorem d_MRm_lump_69 : decode MRm_lump.2.2.1 69 = .ok (.iaload, 1) := lkT_ok tk_MRm_lump rfl
theorem d_MRm_lump_70 : decode MRm_lump.2.2.1 70 = .ok (.goto 10, 3) := lkT_ok tk_MRm_lump rfl
theorem d_MRm_lump_73 : decode MRm_lump.2.2.1 73 = .ok (.aload_n 0, 1) := lkT_ok tk_MRm_lump rfl
theorem d_MRm_lump_74 : decode MRm_lump.2.2.1 74 = .ok (.getfield 23, 3) := lkT_ok tk_MRm_lump rfl
theorem d_MRm_lump_77 : decode MRm_lump.2.2.1 77 = .ok (.iload 4, 2) := lkT_ok tk_MRm_lump rfl
theorem d_MRm_lump_79 : decode MRm_lump.2.2.1 79 = .ok (.iaload, 1) := lkT_ok tk_MRm_lump rfl
theorem d_MRm_lump_80 : decode MRm_lump.2.2.1 80 = .ok (.ireturn, 1) := lkT_ok tk_MRm_lump rfl
theorem r_MRm_lump_0 {l1 l2 l3 l4 : Value} {x : Nat} : Rr X d MRm_lump 0 [.ref x, l1, l2, l3, l4] st h = Rr X d MRm_lump 1 [.ref x, l1, l2, l3, l4] (.ref x :: st) h := Rr_nx d_MRm_lump_0 rfl
theorem r_MRm_lump_1 {l0 l2 l3 l4 : Value} {x : Int32} : Rr X d MRm_lump 1 [l0, .int x, l2, l3, l4] st h = Rr X d MRm_lump 2 [l0, .int x, l2, l3, l4] (.int x :: st) h := Rr_nx d_MRm_lump_1 rfl
theorem r_MRm_lump_2 {y0 : Int32} {a : Nat} (hO : qO a 10 = true) (hc : ckS st = true) : Rr X (d + 1) MRm_lump 2 L (.int y0 :: .ref a :: st) (Wd mu la ro et) = (Rr X d MRm_isStone 0 [.ref a, .int y0] [] (Wd mu la ro et)).bind fun q => Rr X (d + 1) MRm_lump 5 L (psh q.1 st) q.2 := R_iv (av := [.int y0]) d_MRm_lump_2 fc_10_173 hO (ckS_le hc) rfl (Nat.le_of_ble_eq_true rfl) (Nat.le_of_ble_eq_true rfl)
theorem r_MRm_lump_5 {x : Int32} : Rr X d MRm_lump 5 L (.int x :: st) h = if x = 0 then Rr X d MRm_lump 33 L st h else Rr X d MRm_lump 8 L st h := R_if_eq d_MRm_lump_5 (by decide)
theorem r_MRm_lump_8 {l0 l1 l3 l4 : Value} {x : Int32} : Rr X d MRm_lump 8 [l0, l1, .int x, l3, l4] st h = Rr X d MRm_lump 9 [l0, l1, .int x, l3, l4] (.int x :: st) h := Rr_nx d_MRm_lump_8 rfl
theorem r_MRm_lump_9 : Rr X d MRm_lump 9 L st h = Rr X d MRm_lump 10 L (.int (0) :: st) h := Rr_nx d_MRm_lump_9 rfl
theorem r_MRm_lump_10 {l1 l2 l3 l4 : Value} {x : Nat} : Rr X d MRm_lump 10 [.ref x, l1, l2, l3, l4] st h = Rr X d MRm_lump 11 [.ref x, l1, l2, l3, l4] (.ref x :: st) h := Rr_nx d_MRm_lump_10 rfl
theorem r_MRm_lump_11 {a : Nat} (hq : (qR a 10 4).isSome = true) : Rr X d MRm_lump 11 L (.ref a :: st) (Wd mu la ro et) = Rr X d MRm_lump 14 L (.ref (qRd a 10 4) :: st) (Wd mu la ro et) := R_gfR d_MRm_lump_11 ff_10_13 hq
theorem r_MRm_lump_14 {l0 l2 l3 l4 : Value} {x : Int32} : Rr X d MRm_lump 14 [l0, .int x, l2, l3, l4] st h = Rr X d MRm_lump 15 [l0, .int x, l2, l3, l4] (.int x :: st) h := Rr_nx d_MRm_lump_14 rfl
theorem r_MRm_lump_15 {a : Nat} {j : Int32} (hq : (qA a 0).isSome = true) : Rr X d MRm_lump 15 L (.int j :: .ref a :: st) (Wd mu la ro et) = if j < 0 ∨ qAd a 0 ≤ j.toNatClampNeg then none else Rr X d MRm_lump 16 L (.int (mu a j.toNatClampNeg) :: st) (Wd mu la ro et) := R_ialW d_MRm_lump_15 hq
theorem r_MRm_lump_16 : Rr X d MRm_lump 16 L st h = Rr X d MRm_lump 17 L (.int (1) :: st) h := Rr_nx d_MRm_lump_16 rfl
theorem r_MRm_lump_17 {x y : Int32} : Rr X d MRm_lump 17 L (.int y :: .int x :: st) h = Rr X d MRm_lump 18 L (.int (x - y) :: st) h := Rr_nx d_MRm_lump_17 rfl
theorem r_MRm_lump_18 {y0 : Int32} {y1 : Int32} {y2 : Int32} (hc : ckS st = true) : Rr X (d + 1) MRm_lump 18 L (.int y2 :: .int y1 :: .int y0 :: st) h = (Rr X d MRm_in 0 [.int y0, .int y1, .int y2] [] h).bind fun q => Rr X (d + 1) MRm_lump 21 L (psh q.1 st) q.2 := R_is (av := [.int y2, .int y1, .int y0]) d_MRm_lump_18 (Or.inl fc_10_107) (ckS_le hc) rfl (Nat.le_of_ble_eq_true rfl) (Nat.le_of_ble_eq_true rfl)
theorem r_MRm_lump_21 {x : Int32} : Rr X d MRm_lump 21 L (.int x :: st) h = if x = 0 then Rr X d MRm_lump 33 L st h else Rr X d MRm_lump 24 L st h := R_if_eq d_MRm_lump_21 (by decide)
theorem r_MRm_lump_24 {l0 l1 l2 l4 : Value} {x : Int32} : Rr X d MRm_lump 24 [l0, l1, l2, .int x, l4] st h = Rr X d MRm_lump 25 [l0, l1, l2, .int x, l4] (.int x :: st) h := Rr_nx d_MRm_lump_24 rfl
theorem r_MRm_lump_25 : Rr X d MRm_lump 25 L st h = Rr X d MRm_lump 26 L (.int (0) :: st) h := Rr_nx d_MRm_lump_25 rfl
theorem r_MRm_lump_26 : Rr X d MRm_lump 26 L st h = Rr X d MRm_lump 27 L (.int (2) :: st) h := Rr_nx d_MRm_lump_26 rfl
theorem r_MRm_lump_27 {y0 : Int32} {y1 : Int32} {y2 : Int32} (hc : ckS st = true) : Rr X (d + 1) MRm_lump 27 L (.int y2 :: .int y1 :: .int y0 :: st) h = (Rr X d MRm_in 0 [.int y0, .int y1, .int y2] [] h).bind fun q => Rr X (d + 1) MRm_lump 30 L (psh q.1 st) q.2 := R_is (av := [.int y2, .int y1, .int y0]) d_MRm_lump_27 (Or.inl fc_10_107) (ckS_le hc) rfl (Nat.le_of_ble_eq_true rfl) (Nat.le_of_ble_eq_true rfl)
theorem r_MRm_lump_30 {x : Int32} : Rr X d MRm_lump 30 L (.int x :: st) h = if ¬ x = 0 then Rr X d MRm_lump 36 L st h else Rr X d MRm_lump 33 L st h := R_if_ne d_MRm_lump_30 (by decide)
theorem r_MRm_lump_33 : Rr X d MRm_lump 33 L st h = Rr X d MRm_lump 35 L (.int (-2000000000) :: st) h := Rr_nx d_MRm_lump_33 rfl
theorem r_MRm_lump_35 {x : Int32} : Rr X d MRm_lump 35 L [.int x] h = some (some (.int x), h) := R_ir d_MRm_lump_35 rfl
theorem r_MRm_lump_36 : Rr X d MRm_lump 36 L st h = Rr X d MRm_lump 38 L (.int (12) :: st) h := Rr_nx d_MRm_lump_36 rfl
theorem r_MRm_lump_38 {l0 l2 l3 l4 : Value} {x : Int32} : Rr X d MRm_lump 38 [l0, .int x, l2, l3, l4] st h = Rr X d MRm_lump 39 [l0, .int x, l2, l3, l4] (.int x :: st) h := Rr_nx d_MRm_lump_38 rfl
theorem r_MRm_lump_39 {x y : Int32} : Rr X d MRm_lump 39 L (.int y :: .int x :: st) h = Rr X d MRm_lump 40 L (.int (x * y) :: st) h := Rr_nx d_MRm_lump_39 rfl
theorem r_MRm_lump_40 {l0 l1 l3 l4 : Value} {x : Int32} : Rr X d MRm_lump 40 [l0, l1, .int x, l3, l4] st h = Rr X d MRm_lump 41 [l0, l1, .int x, l3, l4] (.int x :: st) h := Rr_nx d_MRm_lump_40 rfl
theorem r_MRm_lump_41 {x y : Int32} : Rr X d MRm_lump 41 L (.int y :: .int x :: st) h = Rr X d MRm_lump 42 L (.int (x + y) :: st) h := Rr_nx d_MRm_lump_41 rfl
theorem r_MRm_lump_42 {l0 l1 l2 l3 l4 : Value} {x : Int32} : Rr X d MRm_lump 42 [l0, l1, l2, l3, l4] (.int x :: st) h = Rr X d MRm_lump 44 (sL [l0, l1, l2, l3, l4] 4 (.int x)) st h := Rr_nx d_MRm_lump_42 rfl
theorem r_MRm_lump_44 {l0 l1 l2 l4 : Value} {x : Int32} : Rr X d MRm_lump 44 [l0, l1, l2, .int x, l4] st h = Rr X d MRm_lump 45 [l0, l1, l2, .int x, l4] (.int x :: st) h := Rr_nx d_MRm_lump_44 rfl
theorem r_MRm_lump_45 {x : Int32} : Rr X d MRm_lump 45 L (.int x :: st) h = if ¬ x = 0 then Rr X d MRm_lump 58 L st h else Rr X d MRm_lump 48 L st h := R_if_ne d_MRm_lump_45 (by decide)
theorem r_MRm_lump_48 {l1 l2 l3 l4 : Value} {x : Nat} : Rr X d MRm_lump 48 [.ref x, l1, l2, l3, l4] st h = Rr X d MRm_lump 49 [.ref x, l1, l2, l3, l4] (.ref x :: st) h := Rr_nx d_MRm_lump_48 rfl
theorem r_MRm_lump_49 {a : Nat} (hq : (qR a 10 5).isSome = true) : Rr X d MRm_lump 49 L (.ref a :: st) (Wd mu la ro et) = Rr X d MRm_lump 52 L (.ref (qRd a 10 5) :: st) (Wd mu la ro et) := R_gfR d_MRm_lump_49 ff_10_17 hq
theorem r_MRm_lump_52 {l0 l1 l2 l3 : Value} {x : Int32} : Rr X d MRm_lump 52 [l0, l1, l2, l3, .int x] st h = Rr X d MRm_lump 54 [l0, l1, l2, l3, .int x] (.int x :: st) h := Rr_nx d_MRm_lump_52 rfl
theorem r_MRm_lump_54 {a : Nat} {j : Int32} (hq : (qA a 0).isSome = true) : Rr X d MRm_lump 54 L (.int j :: .ref a :: st) (Wd mu la ro et) = if j < 0 ∨ qAd a 0 ≤ j.toNatClampNeg then none else Rr X d MRm_lump 55 L (.int (mu a j.toNatClampNeg) :: st) (Wd mu la ro et) := R_ialW d_MRm_lump_54 hq
theorem r_MRm_lump_55 : Rr X d MRm_lump 55 L st h = Rr X d MRm_lump 80 L st h := R_goto d_MRm_lump_55 (by decide)
theorem r_MRm_lump_58 {l0 l1 l2 l4 : Value} {x : Int32} : Rr X d MRm_lump 58 [l0, l1, l2, .int x, l4] st h = Rr X d MRm_lump 59 [l0, l1, l2, .int x, l4] (.int x :: st) h := Rr_nx d_MRm_lump_58 rfl
theorem r_MRm_lump_59 : Rr X d MRm_lump 59 L st h = Rr X d MRm_lump 60 L (.int (1) :: st) h := Rr_nx d_MRm_lump_59 rfl
theorem r_MRm_lump_60 {x y : Int32} : Rr X d MRm_lump 60 L (.int y :: .int x :: st) h = if ¬ x = y then Rr X d MRm_lump 73 L st h else Rr X d MRm_lump 63 L st h := R_ic_ne d_MRm_lump_60 (by decide)
theorem r_MRm_lump_63 {l1 l2 l3 l4 : Value} {x : Nat} : Rr X d MRm_lump 63 [.ref x, l1, l2, l3, l4] st h = Rr X d MRm_lump 64 [.ref x, l1, l2, l3, l4] (.ref x :: st) h := Rr_nx d_MRm_lump_63 rfl
theorem r_MRm_lump_64 {a : Nat} (hq : (qR a 10 6).isSome = true) : Rr X d MRm_lump 64 L (.ref a :: st) (Wd mu la ro et) = Rr X d MRm_lump 67 L (.ref (qRd a 10 6) :: st) (Wd mu la ro et) := R_gfR d_MRm_lump_64 ff_10_20 hq
theorem r_MRm_lump_67 {l0 l1 l2 l3 : Value} {x : Int32} : Rr X d MRm_lump 67 [l0, l1, l2, l3, .int x] st h = Rr X d MRm_lump 69 [l0, l1, l2, l3, .int x] (.int x :: st) h := Rr_nx d_MRm_lump_67 rfl
theorem r_MRm_lump_69 {a : Nat} {j : Int32} (hq : (qA a 0).isSome = true) : Rr X d MRm_lump 69 L (.int j :: .ref a :: st) (Wd mu la ro et) = if j < 0 ∨ qAd a 0 ≤ j.toNatClampNeg then none else Rr X d MRm_lump 70 L (.int (mu a j.toNatClampNeg) :: st) (Wd mu la ro et) := R_ialW d_MRm_lump_69 hq
theorem r_MRm_lump_70 : Rr X d MRm_lump 70 L st h = Rr X d MRm_lump 80 L st h := R_goto d_MRm_lump_70 (by decide)
theorem r_MRm_lump_73 {l1 l2 l3 l4 : Value} {x : Nat} : Rr X d MRm_lump 73 [.ref x, l1, l2, l3, l4] st h = Rr X d MRm_lump 74 [.ref x, l1, l2, l3, l4] (.ref x :: st) h := Rr_nx d_MRm_lump_73 rfl
theorem r_MRm_lump_74 {a : Nat} (hq : (qR a 10 7).isSome = true) : Rr X d MRm_lump 74 L (.ref a :: st) (Wd mu la ro et) = Rr X d MRm_lump 77 L (.ref (qRd a 10 7) :: st) (Wd mu la ro et) := R_gfR d_MRm_lump_74 ff_10_23 hq
theorem r_MRm_lump_77 {l0 l1 l2 l3 : Value} {x : Int32} : Rr X d MRm_lump 77 [l0, l1, l2, l3, .int x] st h = Rr X d MRm_lump 79 [l0, l1, l2, l3, .int x] (.int x :: st) h := Rr_nx d_MRm_lump_77 rfl
theorem r_MRm_lump_79 {a : Nat} {j : Int32} (hq : (qA a 0).isSome = true) : Rr X d MRm_lump 79 L (.int j :: .ref a :: st) (Wd mu la ro et) = if j < 0 ∨ qAd a 0 ≤ j.toNatClampNeg then none else Rr X d MRm_lump 80 L (.int (mu a j.toNatClampNeg) :: st) (Wd mu la ro et) := R_ialW d_MRm_lump_79 hq
theorem r_MRm_lump_80 {x : Int32} : Rr X d MRm_lump 80 L [.int x] h = some (some (.int x), h) := R_ir d_MRm_lump_80 rfl
theorem d_MRm_grows_0 : decode MRm_grows.2.2.1 0 = .ok (.aload_n 0, 1) := lkT_ok tk_MRm_grows rfl
theorem d_MRm_grows_1 : decode MRm_grows.2.2.1 1 = .ok (.iload_n 1, 1) := lkT_ok tk_MRm_grows rfl
theorem d_MRm_grows_2 : decode MRm_grows.2.2.1 2 = .ok (.invokevirtual 173, 3) := lkT_ok tk_MRm_grows rfl
theorem d_MRm_grows_5 : decode MRm_grows.2.2.1 5 = .ok (.ifCond .eq 13, 3) := lkT_ok tk_MRm_grows rfl
theorem d_MRm_grows_8 : decode MRm_grows.2.2.1 8 = .ok (.iload_n 2, 1) := lkT_ok tk_MRm_grows rfl
theorem d_MRm_grows_9 : decode MRm_grows.2.2.1 9 = .ok (.iconst 1, 1) := lkT_ok tk_MRm_grows rfl
theorem d_MRm_grows_10 : decode MRm_grows.2.2.1 10 = .ok (.if_icmp .eq 10, 3) := lkT_ok tk_MRm_grows rfl
theorem d_MRm_grows_13 : decode MRm_grows.2.2.1 13 = .ok (.iload_n 2, 1) := lkT_ok tk_MRm_grows rfl
theorem d_MRm_grows_14 : decode MRm_grows.2.2.1 14 = .ok (.iconst (-1), 1) := lkT_ok tk_MRm_grows rfl
theorem d_MRm_grows_15 : decode MRm_grows.2.2.1 15 = .ok (.if_icmp .eq 5, 3) := lkT_ok tk_MRm_grows rfl
theorem d_MRm_grows_18 : decode MRm_grows.2.2.1 18 = .ok (.iconst (-1), 1) := lkT_ok tk_MRm_grows rfl
theorem d_MRm_grows_19 : decode MRm_grows.2.2.1 19 = .ok (.ireturn, 1) := lkT_ok tk_MRm_grows rfl
theorem d_MRm_grows_20 : decode MRm_grows.2.2.1 20 = .ok (.aload_n 0, 1) := lkT_ok tk_MRm_grows rfl
theorem d_MRm_grows_21 : decode MRm_grows.2.2.1 21 = .ok (.iload_n 1, 1) := lkT_ok tk_MRm_grows rfl
theorem d_MRm_grows_22 : decode MRm_grows.2.2.1 22 = .ok (.invokevirtual 177, 3) := lkT_ok tk_MRm_grows rfl
theorem d_MRm_grows_25 : decode MRm_grows.2.2.1 25 = .ok (.iload_n 2, 1) := lkT_ok tk_MRm_grows rfl
theorem d_MRm_grows_26 : decode MRm_grows.2.2.1 26 = .ok (.imul, 1) := lkT_ok tk_MRm_grows rfl
theorem d_MRm_grows_27 : decode MRm_grows.2.2.1 27 = .ok (.istore_n 3, 1) := lkT_ok tk_MRm_grows rfl
theorem d_MRm_grows_28 : decode MRm_grows.2.2.1 28 = .ok (.iload_n 3, 1) := lkT_ok tk_MRm_grows rfl
theorem d_MRm_grows_29 : decode MRm_grows.2.2.1 29 = .ok (.ifCond .le 7, 3) := lkT_ok tk_MRm_grows rfl
theorem d_MRm_grows_32 : decode MRm_grows.2.2.1 32 = .ok (.iconst 1, 1) := lkT_ok tk_MRm_grows rfl
theorem d_MRm_grows_33 : decode MRm_grows.2.2.1 33 = .ok (.goto 12, 3) := lkT_ok tk_MRm_grows rfl
theorem d_MRm_grows_36 : decode MRm_grows.2.2.1 36 = .ok (.iload_n 3, 1) := lkT_ok tk_MRm_grows rfl
theorem d_MRm_grows_37 : decode MRm_grows.2.2.1 37 = .ok (.ifCond .ge 7, 3) := lkT_ok tk_MRm_grows rfl
theorem d_MRm_grows_40 : decode MRm_grows.2.2.1 40 = .ok (.iconst 2, 1) := lkT_ok tk_MRm_grows rfl
theorem d_MRm_grows_41 : decode MRm_grows.2.2.1 41 = .ok (.goto 4, 3) := lkT_ok tk_MRm_grows rfl
theorem d_MRm_grows_44 : decode MRm_grows.2.2.1 44 = .ok (.iconst 0, 1) := lkT_ok tk_MRm_grows rfl
theorem d_MRm_grows_45 : decode MRm_grows.2.2.1 45 = .ok (.ireturn, 1) := lkT_ok tk_MRm_grows rfl
theorem r_MRm_grows_0 {l1 l2 l3 : Value} {x : Nat} : Rr X d MRm_grows 0 [.ref x, l1, l2, l3] st h = Rr X d MRm_grows 1 [.ref x, l1, l2, l3] (.ref x :: st) h := Rr_nx d_MRm_grows_0 rfl
theorem r_MRm_grows_1 {l0 l2 l3 : Value} {x : Int32} : Rr X d MRm_grows 1 [l0, .int x, l2, l3] st h = Rr X d MRm_grows 2 [l0, .int x, l2, l3] (.int x :: st) h := Rr_nx d_MRm_grows_1 rfl
theorem r_MRm_grows_2 {y0 : Int32} {a : Nat} (hO : qO a 10 = true) (hc : ckS st = true) : Rr X (d + 1) MRm_grows 2 L (.int y0 :: .ref a :: st) (Wd mu la ro et) = (Rr X d MRm_isStone 0 [.ref a, .int y0] [] (Wd mu la ro et)).bind fun q => Rr X (d + 1) MRm_grows 5 L (psh q.1 st) q.2 := R_iv (av := [.int y0]) d_MRm_grows_2 fc_10_173 hO (ckS_le hc) rfl (Nat.le_of_ble_eq_true rfl) (Nat.le_of_ble_eq_true rfl)
theorem r_MRm_grows_5 {x : Int32} : Rr X d MRm_grows 5 L (.int x :: st) h = if x = 0 then Rr X d MRm_grows 18 L st h else Rr X d MRm_grows 8 L st h := R_if_eq d_MRm_grows_5 (by decide)
theorem r_MRm_grows_8 {l0 l1 l3 : Value} {x : Int32} : Rr X d MRm_grows 8 [l0, l1, .int x, l3] st h = Rr X d MRm_grows 9 [l0, l1, .int x, l3] (.int x :: st) h := Rr_nx d_MRm_grows_8 rfl
theorem r_MRm_grows_9 : Rr X d MRm_grows 9 L st h = Rr X d MRm_grows 10 L (.int (1) :: st) h := Rr_nx d_MRm_grows_9 rfl
theorem r_MRm_grows_10 {x y : Int32} : Rr X d MRm_grows 10 L (.int y :: .int x :: st) h = if x = y then Rr X d MRm_grows 20 L st h else Rr X d MRm_grows 13 L st h := R_ic_eq d_MRm_grows_10 (by decide)
theorem r_MRm_grows_13 {l0 l1 l3 : Value} {x : Int32} : Rr X d MRm_grows 13 [l0, l1, .int x, l3] st h = Rr X d MRm_grows 14 [l0, l1, .int x, l3] (.int x :: st) h := Rr_nx d_MRm_grows_13 rfl
theorem r_MRm_grows_14 : Rr X d MRm_grows 14 L st h = Rr X d MRm_grows 15 L (.int (-1) :: st) h := Rr_nx d_MRm_grows_14 rfl
theorem r_MRm_grows_15 {x y : Int32} : Rr X d MRm_grows 15 L (.int y :: .int x :: st) h = if x = y then Rr X d MRm_grows 20 L st h else Rr X d MRm_grows 18 L st h := R_ic_eq d_MRm_grows_15 (by decide)
theorem r_MRm_grows_18 : Rr X d MRm_grows 18 L st h = Rr X d MRm_grows 19 L (.int (-1) :: st) h := Rr_nx d_MRm_grows_18 rfl
theorem r_MRm_grows_19 {x : Int32} : Rr X d MRm_grows 19 L [.int x] h = some (some (.int x), h) := R_ir d_MRm_grows_19 rfl
theorem r_MRm_grows_20 {l1 l2 l3 : Value} {x : Nat} : Rr X d MRm_grows 20 [.ref x, l1, l2, l3] st h = Rr X d MRm_grows 21 [.ref x, l1, l2, l3] (.ref x :: st) h := Rr_nx d_MRm_grows_20 rfl
theorem r_MRm_grows_21 {l0 l2 l3 : Value} {x : Int32} : Rr X d MRm_grows 21 [l0, .int x, l2, l3] st h = Rr X d MRm_grows 22 [l0, .int x, l2, l3] (.int x :: st) h := Rr_nx d_MRm_grows_21 rfl
theorem r_MRm_grows_22 {y0 : Int32} {a : Nat} (hO : qO a 10 = true) (hc : ckS st = true) : Rr X (d + 1) MRm_grows 22 L (.int y0 :: .ref a :: st) (Wd mu la ro et) = (Rr X d MRm_keenOf 0 [.ref a, .int y0] [] (Wd mu la ro et)).bind fun q => Rr X (d + 1) MRm_grows 25 L (psh q.1 st) q.2 := R_iv (av := [.int y0]) d_MRm_grows_22 fc_10_177 hO (ckS_le hc) rfl (Nat.le_of_ble_eq_true rfl) (Nat.le_of_ble_eq_true rfl)
theorem r_MRm_grows_25 {l0 l1 l3 : Value} {x : Int32} : Rr X d MRm_grows 25 [l0, l1, .int x, l3] st h = Rr X d MRm_grows 26 [l0, l1, .int x, l3] (.int x :: st) h := Rr_nx d_MRm_grows_25 rfl
theorem r_MRm_grows_26 {x y : Int32} : Rr X d MRm_grows 26 L (.int y :: .int x :: st) h = Rr X d MRm_grows 27 L (.int (x * y) :: st) h := Rr_nx d_MRm_grows_26 rfl
theorem r_MRm_grows_27 {l0 l1 l2 l3 : Value} {x : Int32} : Rr X d MRm_grows 27 [l0, l1, l2, l3] (.int x :: st) h = Rr X d MRm_grows 28 (sL [l0, l1, l2, l3] 3 (.int x)) st h := Rr_nx d_MRm_grows_27 rfl
theorem r_MRm_grows_28 {l0 l1 l2 : Value} {x : Int32} : Rr X d MRm_grows 28 [l0, l1, l2, .int x] st h = Rr X d MRm_grows 29 [l0, l1, l2, .int x] (.int x :: st) h := Rr_nx d_MRm_grows_28 rfl
theorem r_MRm_grows_29 {x : Int32} : Rr X d MRm_grows 29 L (.int x :: st) h = if x ≤ 0 then Rr X d MRm_grows 36 L st h else Rr X d MRm_grows 32 L st h := R_if_le d_MRm_grows_29 (by decide)
theorem r_MRm_grows_32 : Rr X d MRm_grows 32 L st h = Rr X d MRm_grows 33 L (.int (1) :: st) h := Rr_nx d_MRm_grows_32 rfl
theorem r_MRm_grows_33 : Rr X d MRm_grows 33 L st h = Rr X d MRm_grows 45 L st h := R_goto d_MRm_grows_33 (by decide)
theorem r_MRm_grows_36 {l0 l1 l2 : Value} {x : Int32} : Rr X d MRm_grows 36 [l0, l1, l2, .int x] st h = Rr X d MRm_grows 37 [l0, l1, l2, .int x] (.int x :: st) h := Rr_nx d_MRm_grows_36 rfl
theorem r_MRm_grows_37 {x : Int32} : Rr X d MRm_grows 37 L (.int x :: st) h = if 0 ≤ x then Rr X d MRm_grows 44 L st h else Rr X d MRm_grows 40 L st h := R_if_ge d_MRm_grows_37 (by decide)
theorem r_MRm_grows_40 : Rr X d MRm_grows 40 L st h = Rr X d MRm_grows 41 L (.int (2) :: st) h := Rr_nx d_MRm_grows_40 rfl
theorem r_MRm_grows_41 : Rr X d MRm_grows 41 L st h = Rr X d MRm_grows 45 L st h := R_goto d_MRm_grows_41 (by decide)
theorem r_MRm_grows_44 : Rr X d MRm_grows 44 L st h = Rr X d MRm_grows 45 L (.int (0) :: st) h := Rr_nx d_MRm_grows_44 rfl
theorem r_MRm_grows_45 {x : Int32} : Rr X d MRm_grows 45 L [.int x] h = some (some (.int x), h) := R_ir d_MRm_grows_45 rfl
theorem d_MRm_sumOf_0 : decode MRm_sumOf.2.2.1 0 = .ok (.iconst 0, 1) := lkT_ok tk_MRm_sumOf rfl
theorem d_MRm_sumOf_1 : decode MRm_sumOf.2.2.1 1 = .ok (.istore 4, 2) := lkT_ok tk_MRm_sumOf rfl
theorem d_MRm_sumOf_3 : decode MRm_sumOf.2.2.1 3 = .ok (.iconst 0, 1) := lkT_ok tk_MRm_sumOf rfl
theorem d_MRm_sumOf_4 : decode MRm_sumOf.2.2.1 4 = .ok (.istore 5, 2) := lkT_ok tk_MRm_sumOf rfl
theorem d_MRm_sumOf_6 : decode MRm_sumOf.2.2.1 6 = .ok (.iload 5, 2) := lkT_ok tk_MRm_sumOf rfl
theorem d_MRm_sumOf_8 : decode MRm_sumOf.2.2.1 8 = .ok (.aload_n 0, 1) := lkT_ok tk_MRm_sumOf rfl
theorem d_MRm_sumOf_9 : decode MRm_sumOf.2.2.1 9 = .ok (.getfield 13, 3) := lkT_ok tk_MRm_sumOf rfl
theorem d_MRm_sumOf_12 : decode MRm_sumOf.2.2.1 12 = .ok (.iload_n 1, 1) := lkT_ok tk_MRm_sumOf rfl
theorem d_MRm_sumOf_13 : decode MRm_sumOf.2.2.1 13 = .ok (.iaload, 1) := lkT_ok tk_MRm_sumOf rfl
theorem d_MRm_sumOf_14 : decode MRm_sumOf.2.2.1 14 = .ok (.if_icmp .ge 88, 3) := lkT_ok tk_MRm_sumOf rfl
theorem d_MRm_sumOf_17 : decode MRm_sumOf.2.2.1 17 = .ok (.bipush 12, 2) := lkT_ok tk_MRm_sumOf rfl
theorem d_MRm_sumOf_19 : decode MRm_sumOf.2.2.1 19 = .ok (.iload_n 1, 1) := lkT_ok tk_MRm_sumOf rfl
theorem d_MRm_sumOf_20 : decode MRm_sumOf.2.2.1 20 = .ok (.imul, 1) := lkT_ok tk_MRm_sumOf rfl
theorem d_MRm_sumOf_21 : decode MRm_sumOf.2.2.1 21 = .ok (.iload 5, 2) := lkT_ok tk_MRm_sumOf rfl
theorem d_MRm_sumOf_23 : decode MRm_sumOf.2.2.1 23 = .ok (.iadd, 1) := lkT_ok tk_MRm_sumOf rfl
theorem d_MRm_sumOf_24 : decode MRm_sumOf.2.2.1 24 = .ok (.istore 6, 2) := lkT_ok tk_MRm_sumOf rfl
theorem d_MRm_sumOf_26 : decode MRm_sumOf.2.2.1 26 = .ok (.aload_n 0, 1) := lkT_ok tk_MRm_sumOf rfl
theorem d_MRm_sumOf_27 : decode MRm_sumOf.2.2.1 27 = .ok (.getfield 17, 3) := lkT_ok tk_MRm_sumOf rfl
theorem d_MRm_sumOf_30 : decode MRm_sumOf.2.2.1 30 = .ok (.iload 6, 2) := lkT_ok tk_MRm_sumOf rfl
theorem d_MRm_sumOf_32 : decode MRm_sumOf.2.2.1 32 = .ok (.iaload, 1) := lkT_ok tk_MRm_sumOf rfl
theorem d_MRm_sumOf_33 : decode MRm_sumOf.2.2.1 33 = .ok (.istore 7, 2) := lkT_ok tk_MRm_sumOf rfl
theorem d_MRm_sumOf_35 : decode MRm_sumOf.2.2.1 35 = .ok (.iconst 0, 1) := lkT_ok tk_MRm_sumOf rfl
theorem d_MRm_sumOf_36 : decode MRm_sumOf.2.2.1 36 = .ok (.istore 8, 2) := lkT_ok tk_MRm_sumOf rfl
theorem d_MRm_sumOf_38 : decode MRm_sumOf.2.2.1 38 = .ok (.iload 8, 2) := lkT_ok tk_MRm_sumOf rfl
theorem d_MRm_sumOf_40 : decode MRm_sumOf.2.2.1 40 = .ok (.iload_n 2, 1) := lkT_ok tk_MRm_sumOf rfl
theorem d_MRm_sumOf_41 : decode MRm_sumOf.2.2.1 41 = .ok (.if_icmp .ge 21, 3) := lkT_ok tk_MRm_sumOf rfl
theorem d_MRm_sumOf_44 : decode MRm_sumOf.2.2.1 44 = .ok (.iload 7, 2) := lkT_ok tk_MRm_sumOf rfl
theorem d_MRm_sumOf_46 : decode MRm_sumOf.2.2.1 46 = .ok (.aload_n 0, 1) := lkT_ok tk_MRm_sumOf rfl
theorem d_MRm_sumOf_47 : decode MRm_sumOf.2.2.1 47 = .ok (.getfield 20, 3) := lkT_ok tk_MRm_sumOf rfl
theorem d_MRm_sumOf_50 : decode MRm_sumOf.2.2.1 50 = .ok (.iload 6, 2) := lkT_ok tk_MRm_sumOf rfl
theorem d_MRm_sumOf_52 : decode MRm_sumOf.2.2.1 52 = .ok (.iaload, 1) := lkT_ok tk_MRm_sumOf rfl
theorem d_MRm_sumOf_53 : decode MRm_sumOf.2.2.1 53 = .ok (.imul, 1) := lkT_ok tk_MRm_sumOf rfl
theorem d_MRm_sumOf_54 : decode MRm_sumOf.2.2.1 54 = .ok (.istore 7, 2) := lkT_ok tk_MRm_sumOf rfl
theorem d_MRm_sumOf_56 : decode MRm_sumOf.2.2.1 56 = .ok (.iinc 8 1, 3) := lkT_ok tk_MRm_sumOf rfl
theorem d_MRm_sumOf_59 : decode MRm_sumOf.2.2.1 59 = .ok (.goto (-21), 3) := lkT_ok tk_MRm_sumOf rfl
theorem d_MRm_sumOf_62 : decode MRm_sumOf.2.2.1 62 = .ok (.iconst 0, 1) := lkT_ok tk_MRm_sumOf rfl
theorem d_MRm_sumOf_63 : decode MRm_sumOf.2.2.1 63 = .ok (.istore 8, 2) := lkT_ok tk_MRm_sumOf rfl
theorem d_MRm_sumOf_65 : decode MRm_sumOf.2.2.1 65 = .ok (.iload 8, 2) := lkT_ok tk_MRm_sumOf rfl
theorem d_MRm_sumOf_67 : decode MRm_sumOf.2.2.1 67 = .ok (.iload_n 3, 1) := lkT_ok tk_MRm_sumOf rfl
theorem d_MRm_sumOf_68 : decode MRm_sumOf.2.2.1 68 = .ok (.if_icmp .ge 21, 3) := lkT_ok tk_MRm_sumOf rfl
theorem d_MRm_sumOf_71 : decode MRm_sumOf.2.2.1 71 = .ok (.iload 7, 2) := lkT_ok tk_MRm_sumOf rfl
theorem d_MRm_sumOf_73 : decode MRm_sumOf.2.2.1 73 = .ok (.aload_n 0, 1) := lkT_ok tk_MRm_sumOf rfl
theorem d_MRm_sumOf_74 : decode MRm_sumOf.2.2.1 74 = .ok (.getfield 23, 3) := lkT_ok tk_MRm_sumOf rfl
theorem d_MRm_sumOf_77 : decode MRm_sumOf.2.2.1 77 = .ok (.iload 6, 2) := lkT_ok tk_MRm_sumOf rfl
theorem d_MRm_sumOf_79 : decode MRm_sumOf.2.2.1 79 = .ok (.iaload, 1) := lkT_ok tk_MRm_sumOf rfl
theorem d_MRm_sumOf_80 : decode MRm_sumOf.2.2.1 80 = .ok (.imul, 1) := lkT_ok tk_MRm_sumOf rfl
theorem d_MRm_sumOf_81 : decode MRm_sumOf.2.2.1 81 = .ok (.istore 7, 2) := lkT_ok tk_MRm_sumOf rfl
theorem d_MRm_sumOf_83 : decode MRm_sumOf.2.2.1 83 = .ok (.iinc 8 1, 3) := lkT_ok tk_MRm_sumOf rfl
theorem d_MRm_sumOf_86 : decode MRm_sumOf.2.2.1 86 = .ok (.goto (-21), 3) := lkT_ok tk_MRm_sumOf rfl
theorem d_MRm_sumOf_89 : decode MRm_sumOf.2.2.1 89 = .ok (.iload 4, 2) := lkT_ok tk_MRm_sumOf rfl
theorem d_MRm_sumOf_91 : decode MRm_sumOf.2.2.1 91 = .ok (.iload 7, 2) := lkT_ok tk_MRm_sumOf rfl
theorem d_MRm_sumOf_93 : decode MRm_sumOf.2.2.1 93 = .ok (.iadd, 1) := lkT_ok tk_MRm_sumOf rfl
theorem d_MRm_sumOf_94 : decode MRm_sumOf.2.2.1 94 = .ok (.istore 4, 2) := lkT_ok tk_MRm_sumOf rfl
theorem d_MRm_sumOf_96 : decode MRm_sumOf.2.2.1 96 = .ok (.iinc 5 1, 3) := lkT_ok tk_MRm_sumOf rfl
theorem d_MRm_sumOf_99 : decode MRm_sumOf.2.2.1 99 = .ok (.goto (-93), 3) := lkT_ok tk_MRm_sumOf rfl
theorem d_MRm_sumOf_102 : decode MRm_sumOf.2.2.1 102 = .ok (.aload_n 0, 1) := lkT_ok tk_MRm_sumOf rfl
theorem d_MRm_sumOf_103 : decode MRm_sumOf.2.2.1 103 = .ok (.getfield 145, 3) := lkT_ok tk_MRm_sumOf rfl
theorem d_MRm_sumOf_106 : decode MRm_sumOf.2.2.1 106 = .ok (.istore 5, 2) := lkT_ok tk_MRm_sumOf rfl
theorem d_MRm_sumOf_108 : decode MRm_sumOf.2.2.1 108 = .ok (.iconst 0, 1) := lkT_ok tk_MRm_sumOf rfl
theorem d_MRm_sumOf_109 : decode MRm_sumOf.2.2.1 109 = .ok (.istore 6, 2) := lkT_ok tk_MRm_sumOf rfl
theorem d_MRm_sumOf_111 : decode MRm_sumOf.2.2.1 111 = .ok (.iload 6, 2) := lkT_ok tk_MRm_sumOf rfl
theorem d_MRm_sumOf_113 : decode MRm_sumOf.2.2.1 113 = .ok (.iload_n 2, 1) := lkT_ok tk_MRm_sumOf rfl
theorem d_MRm_sumOf_114 : decode MRm_sumOf.2.2.1 114 = .ok (.if_icmp .ge 18, 3) := lkT_ok tk_MRm_sumOf rfl
theorem d_MRm_sumOf_117 : decode MRm_sumOf.2.2.1 117 = .ok (.iload 5, 2) := lkT_ok tk_MRm_sumOf rfl
theorem d_MRm_sumOf_119 : decode MRm_sumOf.2.2.1 119 = .ok (.aload_n 0, 1) := lkT_ok tk_MRm_sumOf rfl
theorem d_MRm_sumOf_120 : decode MRm_sumOf.2.2.1 120 = .ok (.getfield 148, 3) := lkT_ok tk_MRm_sumOf rfl
theorem d_MRm_sumOf_123 : decode MRm_sumOf.2.2.1 123 = .ok (.imul, 1) := lkT_ok tk_MRm_sumOf rfl
theorem d_MRm_sumOf_124 : decode MRm_sumOf.2.2.1 124 = .ok (.istore 5, 2) := lkT_ok tk_MRm_sumOf rfl
theorem d_MRm_sumOf_126 : decode MRm_sumOf.2.2.1 126 = .ok (.iinc 6 1, 3) := lkT_ok tk_MRm_sumOf rfl
theorem d_MRm_sumOf_129 : decode MRm_sumOf.2.2.1 129 = .ok (.goto (-18), 3) := lkT_ok tk_MRm_sumOf rfl
theorem d_MRm_sumOf_132 : decode MRm_sumOf.2.2.1 132 = .ok (.iconst 0, 1) := lkT_ok tk_MRm_sumOf rfl
theorem d_MRm_sumOf_133 : decode MRm_sumOf.2.2.1 133 = .ok (.istore 6, 2) := lkT_ok tk_MRm_sumOf rfl
theorem d_MRm_sumOf_135 : decode MRm_sumOf.2.2.1 135 = .ok (.iload 6, 2) := lkT_ok tk_MRm_sumOf rfl
theorem d_MRm_sumOf_137 : decode MRm_sumOf.2.2.1 137 = .ok (.iload_n 3, 1) := lkT_ok tk_MRm_sumOf rfl
theorem d_MRm_sumOf_138 : decode MRm_sumOf.2.2.1 138 = .ok (.if_icmp .ge 18, 3) := lkT_ok tk_MRm_sumOf rfl
theorem d_MRm_sumOf_141 : decode MRm_sumOf.2.2.1 141 = .ok (.iload 5, 2) := lkT_ok tk_MRm_sumOf rfl
theorem d_MRm_sumOf_143 : decode MRm_sumOf.2.2.1 143 = .ok (.aload_n 0, 1) := lkT_ok tk_MRm_sumOf rfl
theorem d_MRm_sumOf_144 : decode MRm_sumOf.2.2.1 144 = .ok (.getfield 151, 3) := lkT_ok tk_MRm_sumOf rfl
theorem d_MRm_sumOf_147 : decode MRm_sumOf.2.2.1 147 = .ok (.imul, 1) := lkT_ok tk_MRm_sumOf rfl
theorem d_MRm_sumOf_148 : decode MRm_sumOf.2.2.1 148 = .ok (.istore 5, 2) := lkT_ok tk_MRm_sumOf rfl
theorem d_MRm_sumOf_150 : decode MRm_sumOf.2.2.1 150 = .ok (.iinc 6 1, 3) := lkT_ok tk_MRm_sumOf rfl
theorem d_MRm_sumOf_153 : decode MRm_sumOf.2.2.1 153 = .ok (.goto (-18), 3) := lkT_ok tk_MRm_sumOf rfl
theorem d_MRm_sumOf_156 : decode MRm_sumOf.2.2.1 156 = .ok (.iload_n 2, 1) := lkT_ok tk_MRm_sumOf rfl
theorem d_MRm_sumOf_157 : decode MRm_sumOf.2.2.1 157 = .ok (.iload_n 3, 1) := lkT_ok tk_MRm_sumOf rfl
theorem d_MRm_sumOf_158 : decode MRm_sumOf.2.2.1 158 = .ok (.iadd, 1) := lkT_ok tk_MRm_sumOf rfl
theorem d_MRm_sumOf_159 : decode MRm_sumOf.2.2.1 159 = .ok (.iconst 2, 1) := lkT_ok tk_MRm_sumOf rfl
theorem d_MRm_sumOf_160 : decode MRm_sumOf.2.2.1 160 = .ok (.irem, 1) := lkT_ok tk_MRm_sumOf rfl
theorem d_MRm_sumOf_161 : decode MRm_sumOf.2.2.1 161 = .ok (.ifCond .ne 13, 3) := lkT_ok tk_MRm_sumOf rfl
theorem d_MRm_sumOf_164 : decode MRm_sumOf.2.2.1 164 = .ok (.iload 4, 2) := lkT_ok tk_MRm_sumOf rfl
theorem d_MRm_sumOf_166 : decode MRm_sumOf.2.2.1 166 = .ok (.iconst 2, 1) := lkT_ok tk_MRm_sumOf rfl
theorem d_MRm_sumOf_167 : decode MRm_sumOf.2.2.1 167 = .ok (.iload 5, 2) := lkT_ok tk_MRm_sumOf rfl
theorem d_MRm_sumOf_169 : decode MRm_sumOf.2.2.1 169 = .ok (.imul, 1) := lkT_ok tk_MRm_sumOf rfl
theorem d_MRm_sumOf_170 : decode MRm_sumOf.2.2.1 170 = .ok (.iadd, 1) := lkT_ok tk_MRm_sumOf rfl
theorem d_MRm_sumOf_171 : decode MRm_sumOf.2.2.1 171 = .ok (.goto 5, 3) := lkT_ok tk_MRm_sumOf rfl
theorem d_MRm_sumOf_174 : decode MRm_sumOf.2.2.1 174 = .ok (.iload 4, 2) := lkT_ok tk_MRm_sumOf rfl
theorem d_MRm_sumOf_176 : decode MRm_sumOf.2.2.1 176 = .ok (.ireturn, 1) := lkT_ok tk_MRm_sumOf rfl
theorem r_MRm_sumOf_0 : Rr X d MRm_sumOf 0 L st h = Rr X d MRm_sumOf 1 L (.int (0) :: st) h := Rr_nx d_MRm_sumOf_0 rfl
theorem r_MRm_sumOf_1 {l0 l1 l2 l3 l4 l5 l6 l7 l8 : Value} {x : Int32} : Rr X d MRm_sumOf 1 [l0, l1, l2, l3, l4, l5, l6, l7, l8] (.int x :: st) h = Rr X d MRm_sumOf 3 (sL [l0, l1, l2, l3, l4, l5, l6, l7, l8] 4 (.int x)) st h := Rr_nx d_MRm_sumOf_1 rfl
theorem r_MRm_sumOf_3 : Rr X d MRm_sumOf 3 L st h = Rr X d MRm_sumOf 4 L (.int (0) :: st) h := Rr_nx d_MRm_sumOf_3 rfl
theorem r_MRm_sumOf_4 {l0 l1 l2 l3 l4 l5 l6 l7 l8 : Value} {x : Int32} : Rr X d MRm_sumOf 4 [l0, l1, l2, l3, l4, l5, l6, l7, l8] (.int x :: st) h = Rr X d MRm_sumOf 6 (sL [l0, l1, l2, l3, l4, l5, l6, l7, l8] 5 (.int x)) st h := Rr_nx d_MRm_sumOf_4 rfl
theorem r_MRm_sumOf_6 {l0 l1 l2 l3 l4 l6 l7 l8 : Value} {x : Int32} : Rr X d MRm_sumOf 6 [l0, l1, l2, l3, l4, .int x, l6, l7, l8] st h = Rr X d MRm_sumOf 8 [l0, l1, l2, l3, l4, .int x, l6, l7, l8] (.int x :: st) h := Rr_nx d_MRm_sumOf_6 rfl
theorem r_MRm_sumOf_8 {l1 l2 l3 l4 l5 l6 l7 l8 : Value} {x : Nat} : Rr X d MRm_sumOf 8 [.ref x, l1, l2, l3, l4, l5, l6, l7, l8] st h = Rr X d MRm_sumOf 9 [.ref x, l1, l2, l3, l4, l5, l6, l7, l8] (.ref x :: st) h := Rr_nx d_MRm_sumOf_8 rfl
theorem r_MRm_sumOf_9 {a : Nat} (hq : (qR a 10 4).isSome = true) : Rr X d MRm_sumOf 9 L (.ref a :: st) (Wd mu la ro et) = Rr X d MRm_sumOf 12 L (.ref (qRd a 10 4) :: st) (Wd mu la ro et) := R_gfR d_MRm_sumOf_9 ff_10_13 hq
theorem r_MRm_sumOf_12 {l0 l2 l3 l4 l5 l6 l7 l8 : Value} {x : Int32} : Rr X d MRm_sumOf 12 [l0, .int x, l2, l3, l4, l5, l6, l7, l8] st h = Rr X d MRm_sumOf 13 [l0, .int x, l2, l3, l4, l5, l6, l7, l8] (.int x :: st) h := Rr_nx d_MRm_sumOf_12 rfl
theorem r_MRm_sumOf_13 {a : Nat} {j : Int32} (hq : (qA a 0).isSome = true) : Rr X d MRm_sumOf 13 L (.int j :: .ref a :: st) (Wd mu la ro et) = if j < 0 ∨ qAd a 0 ≤ j.toNatClampNeg then none else Rr X d MRm_sumOf 14 L (.int (mu a j.toNatClampNeg) :: st) (Wd mu la ro et) := R_ialW d_MRm_sumOf_13 hq
theorem r_MRm_sumOf_14 {x y : Int32} : Rr X d MRm_sumOf 14 L (.int y :: .int x :: st) h = if y ≤ x then Rr X d MRm_sumOf 102 L st h else Rr X d MRm_sumOf 17 L st h := R_ic_ge d_MRm_sumOf_14 (by decide)
theorem r_MRm_sumOf_17 : Rr X d MRm_sumOf 17 L st h = Rr X d MRm_sumOf 19 L (.int (12) :: st) h := Rr_nx d_MRm_sumOf_17 rfl
theorem r_MRm_sumOf_19 {l0 l2 l3 l4 l5 l6 l7 l8 : Value} {x : Int32} : Rr X d MRm_sumOf 19 [l0, .int x, l2, l3, l4, l5, l6, l7, l8] st h = Rr X d MRm_sumOf 20 [l0, .int x, l2, l3, l4, l5, l6, l7, l8] (.int x :: st) h := Rr_nx d_MRm_sumOf_19 rfl
theorem r_MRm_sumOf_20 {x y : Int32} : Rr X d MRm_sumOf 20 L (.int y :: .int x :: st) h = Rr X d MRm_sumOf 21 L (.int (x * y) :: st) h := Rr_nx d_MRm_sumOf_20 rfl
theorem r_MRm_sumOf_21 {l0 l1 l2 l3 l4 l6 l7 l8 : Value} {x : Int32} : Rr X d MRm_sumOf 21 [l0, l1, l2, l3, l4, .int x, l6, l7, l8] st h = Rr X d MRm_sumOf 23 [l0, l1, l2, l3, l4, .int x, l6, l7, l8] (.int x :: st) h := Rr_nx d_MRm_sumOf_21 rfl
theorem r_MRm_sumOf_23 {x y : Int32} : Rr X d MRm_sumOf 23 L (.int y :: .int x :: st) h = Rr X d MRm_sumOf 24 L (.int (x + y) :: st) h := Rr_nx d_MRm_sumOf_23 rfl
theorem r_MRm_sumOf_24 {l0 l1 l2 l3 l4 l5 l6 l7 l8 : Value} {x : Int32} : Rr X d MRm_sumOf 24 [l0, l1, l2, l3, l4, l5, l6, l7, l8] (.int x :: st) h = Rr X d MRm_sumOf 26 (sL [l0, l1, l2, l3, l4, l5, l6, l7, l8] 6 (.int x)) st h := Rr_nx d_MRm_sumOf_24 rfl
theorem r_MRm_sumOf_26 {l1 l2 l3 l4 l5 l6 l7 l8 : Value} {x : Nat} : Rr X d MRm_sumOf 26 [.ref x, l1, l2, l3, l4, l5, l6, l7, l8] st h = Rr X d MRm_sumOf 27 [.ref x, l1, l2, l3, l4, l5, l6, l7, l8] (.ref x :: st) h := Rr_nx d_MRm_sumOf_26 rfl
theorem r_MRm_sumOf_27 {a : Nat} (hq : (qR a 10 5).isSome = true) : Rr X d MRm_sumOf 27 L (.ref a :: st) (Wd mu la ro et) = Rr X d MRm_sumOf 30 L (.ref (qRd a 10 5) :: st) (Wd mu la ro et) := R_gfR d_MRm_sumOf_27 ff_10_17 hq
theorem r_MRm_sumOf_30 {l0 l1 l2 l3 l4 l5 l7 l8 : Value} {x : Int32} : Rr X d MRm_sumOf 30 [l0, l1, l2, l3, l4, l5, .int x, l7, l8] st h = Rr X d MRm_sumOf 32 [l0, l1, l2, l3, l4, l5, .int x, l7, l8] (.int x :: st) h := Rr_nx d_MRm_sumOf_30 rfl
theorem r_MRm_sumOf_32 {a : Nat} {j : Int32} (hq : (qA a 0).isSome = true) : Rr X d MRm_sumOf 32 L (.int j :: .ref a :: st) (Wd mu la ro et) = if j < 0 ∨ qAd a 0 ≤ j.toNatClampNeg then none else Rr X d MRm_sumOf 33 L (.int (mu a j.toNatClampNeg) :: st) (Wd mu la ro et) := R_ialW d_MRm_sumOf_32 hq
theorem r_MRm_sumOf_33 {l0 l1 l2 l3 l4 l5 l6 l7 l8 : Value} {x : Int32} : Rr X d MRm_sumOf 33 [l0, l1, l2, l3, l4, l5, l6, l7, l8] (.int x :: st) h = Rr X d MRm_sumOf 35 (sL [l0, l1, l2, l3, l4, l5, l6, l7, l8] 7 (.int x)) st h := Rr_nx d_MRm_sumOf_33 rfl
theorem r_MRm_sumOf_35 : Rr X d MRm_sumOf 35 L st h = Rr X d MRm_sumOf 36 L (.int (0) :: st) h := Rr_nx d_MRm_sumOf_35 rfl
theorem r_MRm_sumOf_36 {l0 l1 l2 l3 l4 l5 l6 l7 l8 : Value} {x : Int32} : Rr X d MRm_sumOf 36 [l0, l1, l2, l3, l4, l5, l6, l7, l8] (.int x :: st) h = Rr X d MRm_sumOf 38 (sL [l0, l1, l2, l3, l4, l5, l6, l7, l8] 8 (.int x)) st h := Rr_nx d_MRm_sumOf_36 rfl
theorem r_MRm_sumOf_38 {l0 l1 l2 l3 l4 l5 l6 l7 : Value} {x : Int32} : Rr X d MRm_sumOf 38 [l0, l1, l2, l3, l4, l5, l6, l7, .int x] st h = Rr X d MRm_sumOf 40 [l0, l1, l2, l3, l4, l5, l6, l7, .int x] (.int x :: st) h := Rr_nx d_MRm_sumOf_38 rfl
theorem r_MRm_sumOf_40 {l0 l1 l3 l4 l5 l6 l7 l8 : Value} {x : Int32} : Rr X d MRm_sumOf 40 [l0, l1, .int x, l3, l4, l5, l6, l7, l8] st h = Rr X d MRm_sumOf 41 [l0, l1, .int x, l3, l4, l5, l6, l7, l8] (.int x :: st) h := Rr_nx d_MRm_sumOf_40 rfl
theorem r_MRm_sumOf_41 {x y : Int32} : Rr X d MRm_sumOf 41 L (.int y :: .int x :: st) h = if y ≤ x then Rr X d MRm_sumOf 62 L st h else Rr X d MRm_sumOf 44 L st h := R_ic_ge d_MRm_sumOf_41 (by decide)
theorem r_MRm_sumOf_44 {l0 l1 l2 l3 l4 l5 l6 l8 : Value} {x : Int32} : Rr X d MRm_sumOf 44 [l0, l1, l2, l3, l4, l5, l6, .int x, l8] st h = Rr X d MRm_sumOf 46 [l0, l1, l2, l3, l4, l5, l6, .int x, l8] (.int x :: st) h := Rr_nx d_MRm_sumOf_44 rfl
theorem r_MRm_sumOf_46 {l1 l2 l3 l4 l5 l6 l7 l8 : Value} {x : Nat} : Rr X d MRm_sumOf 46 [.ref x, l1, l2, l3, l4, l5, l6, l7, l8] st h = Rr X d MRm_sumOf 47 [.ref x, l1, l2, l3, l4, l5, l6, l7, l8] (.ref x :: st) h := Rr_nx d_MRm_sumOf_46 rfl
theorem r_MRm_sumOf_47 {a : Nat} (hq : (qR a 10 6).isSome = true) : Rr X d MRm_sumOf 47 L (.ref a :: st) (Wd mu la ro et) = Rr X d MRm_sumOf 50 L (.ref (qRd a 10 6) :: st) (Wd mu la ro et) := R_gfR d_MRm_sumOf_47 ff_10_20 hq
theorem r_MRm_sumOf_50 {l0 l1 l2 l3 l4 l5 l7 l8 : Value} {x : Int32} : Rr X d MRm_sumOf 50 [l0, l1, l2, l3, l4, l5, .int x, l7, l8] st h = Rr X d MRm_sumOf 52 [l0, l1, l2, l3, l4, l5, .int x, l7, l8] (.int x :: st) h := Rr_nx d_MRm_sumOf_50 rfl
theorem r_MRm_sumOf_52 {a : Nat} {j : Int32} (hq : (qA a 0).isSome = true) : Rr X d MRm_sumOf 52 L (.int j :: .ref a :: st) (Wd mu la ro et) = if j < 0 ∨ qAd a 0 ≤ j.toNatClampNeg then none else Rr X d MRm_sumOf 53 L (.int (mu a j.toNatClampNeg) :: st) (Wd mu la ro et) := R_ialW d_MRm_sumOf_52 hq
theorem r_MRm_sumOf_53 {x y : Int32} : Rr X d MRm_sumOf 53 L (.int y :: .int x :: st) h = Rr X d MRm_sumOf 54 L (.int (x * y) :: st) h := Rr_nx d_MRm_sumOf_53 rfl
theorem r_MRm_sumOf_54 {l0 l1 l2 l3 l4 l5 l6 l7 l8 : Value} {x : Int32} : Rr X d MRm_sumOf 54 [l0, l1, l2, l3, l4, l5, l6, l7, l8] (.int x :: st) h = Rr X d MRm_sumOf 56 (sL [l0, l1, l2, l3, l4, l5, l6, l7, l8] 7 (.int x)) st h := Rr_nx d_MRm_sumOf_54 rfl
theorem r_MRm_sumOf_56 {l0 l1 l2 l3 l4 l5 l6 l7 : Value} {x : Int32} : Rr X d MRm_sumOf 56 [l0, l1, l2, l3, l4, l5, l6, l7, .int x] st h = Rr X d MRm_sumOf 59 (sL [l0, l1, l2, l3, l4, l5, l6, l7, .int x] 8 (.int (x + (1)))) st h := Rr_nx d_MRm_sumOf_56 rfl
theorem r_MRm_sumOf_59 : Rr X d MRm_sumOf 59 L st h = Rr X d MRm_sumOf 38 L st h := R_goto d_MRm_sumOf_59 (by decide)
theorem r_MRm_sumOf_62 : Rr X d MRm_sumOf 62 L st h = Rr X d MRm_sumOf 63 L (.int (0) :: st) h := Rr_nx d_MRm_sumOf_62 rfl
theorem r_MRm_sumOf_63 {l0 l1 l2 l3 l4 l5 l6 l7 l8 : Value} {x : Int32} : Rr X d MRm_sumOf 63 [l0, l1, l2, l3, l4, l5, l6, l7, l8] (.int x :: st) h = Rr X d MRm_sumOf 65 (sL [l0, l1, l2, l3, l4, l5, l6, l7, l8] 8 (.int x)) st h := Rr_nx d_MRm_sumOf_63 rfl
theorem r_MRm_sumOf_65 {l0 l1 l2 l3 l4 l5 l6 l7 : Value} {x : Int32} : Rr X d MRm_sumOf 65 [l0, l1, l2, l3, l4, l5, l6, l7, .int x] st h = Rr X d MRm_sumOf 67 [l0, l1, l2, l3, l4, l5, l6, l7, .int x] (.int x :: st) h := Rr_nx d_MRm_sumOf_65 rfl
theorem r_MRm_sumOf_67 {l0 l1 l2 l4 l5 l6 l7 l8 : Value} {x : Int32} : Rr X d MRm_sumOf 67 [l0, l1, l2, .int x, l4, l5, l6, l7, l8] st h = Rr X d MRm_sumOf 68 [l0, l1, l2, .int x, l4, l5, l6, l7, l8] (.int x :: st) h := Rr_nx d_MRm_sumOf_67 rfl
theorem r_MRm_sumOf_68 {x y : Int32} : Rr X d MRm_sumOf 68 L (.int y :: .int x :: st) h = if y ≤ x then Rr X d MRm_sumOf 89 L st h else Rr X d MRm_sumOf 71 L st h := R_ic_ge d_MRm_sumOf_68 (by decide)
theorem r_MRm_sumOf_71 {l0 l1 l2 l3 l4 l5 l6 l8 : Value} {x : Int32} : Rr X d MRm_sumOf 71 [l0, l1, l2, l3, l4, l5, l6, .int x, l8] st h = Rr X d MRm_sumOf 73 [l0, l1, l2, l3, l4, l5, l6, .int x, l8] (.int x :: st) h := Rr_nx d_MRm_sumOf_71 rfl
theorem r_MRm_sumOf_73 {l1 l2 l3 l4 l5 l6 l7 l8 : Value} {x : Nat} : Rr X d MRm_sumOf 73 [.ref x, l1, l2, l3, l4, l5, l6, l7, l8] st h = Rr X d MRm_sumOf 74 [.ref x, l1, l2, l3, l4, l5, l6, l7, l8] (.ref x :: st) h := Rr_nx d_MRm_sumOf_73 rfl
theorem r_MRm_sumOf_74 {a : Nat} (hq : (qR a 10 7).isSome = true) : Rr X d MRm_sumOf 74 L (.ref a :: st) (Wd mu la ro et) = Rr X d MRm_sumOf 77 L (.ref (qRd a 10 7) :: st) (Wd mu la ro et) := R_gfR d_MRm_sumOf_74 ff_10_23 hq
theorem r_MRm_sumOf_77 {l0 l1 l2 l3 l4 l5 l7 l8 : Value} {x : Int32} : Rr X d MRm_sumOf 77 [l0, l1, l2, l3, l4, l5, .int x, l7, l8] st h = Rr X d MRm_sumOf 79 [l0, l1, l2, l3, l4, l5, .int x, l7, l8] (.int x :: st) h := Rr_nx d_MRm_sumOf_77 rfl
theorem r_MRm_sumOf_79 {a : Nat} {j : Int32} (hq : (qA a 0).isSome = true) : Rr X d MRm_sumOf 79 L (.int j :: .ref a :: st) (Wd mu la ro et) = if j < 0 ∨ qAd a 0 ≤ j.toNatClampNeg then none else Rr X d MRm_sumOf 80 L (.int (mu a j.toNatClampNeg) :: st) (Wd mu la ro et) := R_ialW d_MRm_sumOf_79 hq
theorem r_MRm_sumOf_80 {x y : Int32} : Rr X d MRm_sumOf 80 L (.int y :: .int x :: st) h = Rr X d MRm_sumOf 81 L (.int (x * y) :: st) h := Rr_nx d_MRm_sumOf_80 rfl
theorem r_MRm_sumOf_81 {l0 l1 l2 l3 l4 l5 l6 l7 l8 : Value} {x : Int32} : Rr X d MRm_sumOf 81 [l0, l1, l2, l3, l4, l5, l6, l7, l8] (.int x :: st) h = Rr X d MRm_sumOf 83 (sL [l0, l1, l2, l3, l4, l5, l6, l7, l8] 7 (.int x)) st h := Rr_nx d_MRm_sumOf_81 rfl
theorem r_MRm_sumOf_83 {l0 l1 l2 l3 l4 l5 l6 l7 : Value} {x : Int32} : Rr X d MRm_sumOf 83 [l0, l1, l2, l3, l4, l5, l6, l7, .int x] st h = Rr X d MRm_sumOf 86 (sL [l0, l1, l2, l3, l4, l5, l6, l7, .int x] 8 (.int (x + (1)))) st h := Rr_nx d_MRm_sumOf_83 rfl
theorem r_MRm_sumOf_86 : Rr X d MRm_sumOf 86 L st h = Rr X d MRm_sumOf 65 L st h := R_goto d_MRm_sumOf_86 (by decide)
theorem r_MRm_sumOf_89 {l0 l1 l2 l3 l5 l6 l7 l8 : Value} {x : Int32} : Rr X d MRm_sumOf 89 [l0, l1, l2, l3, .int x, l5, l6, l7, l8] st h = Rr X d MRm_sumOf 91 [l0, l1, l2, l3, .int x, l5, l6, l7, l8] (.int x :: st) h := Rr_nx d_MRm_sumOf_89 rfl
theorem r_MRm_sumOf_91 {l0 l1 l2 l3 l4 l5 l6 l8 : Value} {x : Int32} : Rr X d MRm_sumOf 91 [l0, l1, l2, l3, l4, l5, l6, .int x, l8] st h = Rr X d MRm_sumOf 93 [l0, l1, l2, l3, l4, l5, l6, .int x, l8] (.int x :: st) h := Rr_nx d_MRm_sumOf_91 rfl
theorem r_MRm_sumOf_93 {x y : Int32} : Rr X d MRm_sumOf 93 L (.int y :: .int x :: st) h = Rr X d MRm_sumOf 94 L (.int (x + y) :: st) h := Rr_nx d_MRm_sumOf_93 rfl
theorem r_MRm_sumOf_94 {l0 l1 l2 l3 l4 l5 l6 l7 l8 : Value} {x : Int32} : Rr X d MRm_sumOf 94 [l0, l1, l2, l3, l4, l5, l6, l7, l8] (.int x :: st) h = Rr X d MRm_sumOf 96 (sL [l0, l1, l2, l3, l4, l5, l6, l7, l8] 4 (.int x)) st h := Rr_nx d_MRm_sumOf_94 rfl
theorem r_MRm_sumOf_96 {l0 l1 l2 l3 l4 l6 l7 l8 : Value} {x : Int32} : Rr X d MRm_sumOf 96 [l0, l1, l2, l3, l4, .int x, l6, l7, l8] st h = Rr X d MRm_sumOf 99 (sL [l0, l1, l2, l3, l4, .int x, l6, l7, l8] 5 (.int (x + (1)))) st h := Rr_nx d_MRm_sumOf_96 rfl
theorem r_MRm_sumOf_99 : Rr X d MRm_sumOf 99 L st h = Rr X d MRm_sumOf 6 L st h := R_goto d_MRm_sumOf_99 (by decide)
theorem r_MRm_sumOf_102 {l1 l2 l3 l4 l5 l6 l7 l8 : Value} {x : Nat} : Rr X d MRm_sumOf 102 [.ref x, l1, l2, l3, l4, l5, l6, l7, l8] st h = Rr X d MRm_sumOf 103 [.ref x, l1, l2, l3, l4, l5, l6, l7, l8] (.ref x :: st) h := Rr_nx d_MRm_sumOf_102 rfl
theorem ff_10_145 : fF 10 145 = some (10, 9, 0, 0) := rfl
theorem r_MRm_sumOf_103 {a : Nat} (hq : qI a 10 9 = true) : Rr X d MRm_sumOf 103 L (.ref a :: st) (Wd mu la ro et) = Rr X d MRm_sumOf 106 L (.int (mu a 9) :: st) (Wd mu la ro et) := R_gfI d_MRm_sumOf_103 ff_10_145 hq
theorem r_MRm_sumOf_106 {l0 l1 l2 l3 l4 l5 l6 l7 l8 : Value} {x : Int32} : Rr X d MRm_sumOf 106 [l0, l1, l2, l3, l4, l5, l6, l7, l8] (.int x :: st) h = Rr X d MRm_sumOf 108 (sL [l0, l1, l2, l3, l4, l5, l6, l7, l8] 5 (.int x)) st h := Rr_nx d_MRm_sumOf_106 rfl
theorem r_MRm_sumOf_108 : Rr X d MRm_sumOf 108 L st h = Rr X d MRm_sumOf 109 L (.int (0) :: st) h := Rr_nx d_MRm_sumOf_108 rfl
theorem r_MRm_sumOf_109 {l0 l1 l2 l3 l4 l5 l6 l7 l8 : Value} {x : Int32} : Rr X d MRm_sumOf 109 [l0, l1, l2, l3, l4, l5, l6, l7, l8] (.int x :: st) h = Rr X d MRm_sumOf 111 (sL [l0, l1, l2, l3, l4, l5, l6, l7, l8] 6 (.int x)) st h := Rr_nx d_MRm_sumOf_109 rfl
theorem r_MRm_sumOf_111 {l0 l1 l2 l3 l4 l5 l7 l8 : Value} {x : Int32} : Rr X d MRm_sumOf 111 [l0, l1, l2, l3, l4, l5, .int x, l7, l8] st h = Rr X d MRm_sumOf 113 [l0, l1, l2, l3, l4, l5, .int x, l7, l8] (.int x :: st) h := Rr_nx d_MRm_sumOf_111 rfl
theorem r_MRm_sumOf_113 {l0 l1 l3 l4 l5 l6 l7 l8 : Value} {x : Int32} : Rr X d MRm_sumOf 113 [l0, l1, .int x, l3, l4, l5, l6, l7, l8] st h = Rr X d MRm_sumOf 114 [l0, l1, .int x, l3, l4, l5, l6, l7, l8] (.int x :: st) h := Rr_nx d_MRm_sumOf_113 rfl
theorem r_MRm_sumOf_114 {x y : Int32} : Rr X d MRm_sumOf 114 L (.int y :: .int x :: st) h = if y ≤ x then Rr X d MRm_sumOf 132 L st h else Rr X d MRm_sumOf 117 L st h := R_ic_ge d_MRm_sumOf_114 (by decide)
theorem r_MRm_sumOf_117 {l0 l1 l2 l3 l4 l6 l7 l8 : Value} {x : Int32} : Rr X d MRm_sumOf 117 [l0, l1, l2, l3, l4, .int x, l6, l7, l8] st h = Rr X d MRm_sumOf 119 [l0, l1, l2, l3, l4, .int x, l6, l7, l8] (.int x :: st) h := Rr_nx d_MRm_sumOf_117 rfl
theorem r_MRm_sumOf_119 {l1 l2 l3 l4 l5 l6 l7 l8 : Value} {x : Nat} : Rr X d MRm_sumOf 119 [.ref x, l1, l2, l3, l4, l5, l6, l7, l8] st h = Rr X d MRm_sumOf 120 [.ref x, l1, l2, l3, l4, l5, l6, l7, l8] (.ref x :: st) h := Rr_nx d_MRm_sumOf_119 rfl
theorem ff_10_148 : fF 10 148 = some (10, 10, 0, 0) := rfl
theorem r_MRm_sumOf_120 {a : Nat} (hq : qI a 10 10 = true) : Rr X d MRm_sumOf 120 L (.ref a :: st) (Wd mu la ro et) = Rr X d MRm_sumOf 123 L (.int (mu a 10) :: st) (Wd mu la ro et) := R_gfI d_MRm_sumOf_120 ff_10_148 hq
theorem r_MRm_sumOf_123 {x y : Int32} : Rr X d MRm_sumOf 123 L (.int y :: .int x :: st) h = Rr X d MRm_sumOf 124 L (.int (x * y) :: st) h := Rr_nx d_MRm_sumOf_123 rfl
theorem r_MRm_sumOf_124 {l0 l1 l2 l3 l4 l5 l6 l7 l8 : Value} {x : Int32} : Rr X d MRm_sumOf 124 [l0, l1, l2, l3, l4, l5, l6, l7, l8] (.int x :: st) h = Rr X d MRm_sumOf 126 (sL [l0, l1, l2, l3, l4, l5, l6, l7, l8] 5 (.int x)) st h := Rr_nx d_MRm_sumOf_124 rfl
theorem r_MRm_sumOf_126 {l0 l1 l2 l3 l4 l5 l7 l8 : Value} {x : Int32} : Rr X d MRm_sumOf 126 [l0, l1, l2, l3, l4, l5, .int x, l7, l8] st h = Rr X d MRm_sumOf 129 (sL [l0, l1, l2, l3, l4, l5, .int x, l7, l8] 6 (.int (x + (1)))) st h := Rr_nx d_MRm_sumOf_126 rfl
theorem r_MRm_sumOf_129 : Rr X d MRm_sumOf 129 L st h = Rr X d MRm_sumOf 111 L st h := R_goto d_MRm_sumOf_129 (by decide)
theorem r_MRm_sumOf_132 : Rr X d MRm_sumOf 132 L st h = Rr X d MRm_sumOf 133 L (.int (0) :: st) h := Rr_nx d_MRm_sumOf_132 rfl
theorem r_MRm_sumOf_133 {l0 l1 l2 l3 l4 l5 l6 l7 l8 : Value} {x : Int32} : Rr X d MRm_sumOf 133 [l0, l1, l2, l3, l4, l5, l6, l7, l8] (.int x :: st) h = Rr X d MRm_sumOf 135 (sL [l0, l1, l2, l3, l4, l5, l6, l7, l8] 6 (.int x)) st h := Rr_nx d_MRm_sumOf_133 rfl
theorem r_MRm_sumOf_135 {l0 l1 l2 l3 l4 l5 l7 l8 : Value} {x : Int32} : Rr X d MRm_sumOf 135 [l0, l1, l2, l3, l4, l5, .int x, l7, l8] st h = Rr X d MRm_sumOf 137 [l0, l1, l2, l3, l4, l5, .int x, l7, l8] (.int x :: st) h := Rr_nx d_MRm_sumOf_135 rfl
theorem r_MRm_sumOf_137 {l0 l1 l2 l4 l5 l6 l7 l8 : Value} {x : Int32} : Rr X d MRm_sumOf 137 [l0, l1, l2, .int x, l4, l5, l6, l7, l8] st h = Rr X d MRm_sumOf 138 [l0, l1, l2, .int x, l4, l5, l6, l7, l8] (.int x :: st) h := Rr_nx d_MRm_sumOf_137 rfl
theorem r_MRm_sumOf_138 {x y : Int32} : Rr X d MRm_sumOf 138 L (.int y :: .int x :: st) h = if y ≤ x then Rr X d MRm_sumOf 156 L st h else Rr X d MRm_sumOf 141 L st h := R_ic_ge d_MRm_sumOf_138 (by decide)
theorem r_MRm_sumOf_141 {l0 l1 l2 l3 l4 l6 l7 l8 : Value} {x : Int32} : Rr X d MRm_sumOf 141 [l0, l1, l2, l3, l4, .int x, l6, l7, l8] st h = Rr X d MRm_sumOf 143 [l0, l1, l2, l3, l4, .int x, l6, l7, l8] (.int x :: st) h := Rr_nx d_MRm_sumOf_141 rfl
theorem r_MRm_sumOf_143 {l1 l2 l3 l4 l5 l6 l7 l8 : Value} {x : Nat} : Rr X d MRm_sumOf 143 [.ref x, l1, l2, l3, l4, l5, l6, l7, l8] st h = Rr X d MRm_sumOf 144 [.ref x, l1, l2, l3, l4, l5, l6, l7, l8] (.ref x :: st) h := Rr_nx d_MRm_sumOf_143 rfl
theorem ff_10_151 : fF 10 151 = some (10, 11, 0, 0) := rfl
theorem r_MRm_sumOf_144 {a : Nat} (hq : qI a 10 11 = true) : Rr X d MRm_sumOf 144 L (.ref a :: st) (Wd mu la ro et) = Rr X d MRm_sumOf 147 L (.int (mu a 11) :: st) (Wd mu la ro et) := R_gfI d_MRm_sumOf_144 ff_10_151 hq
theorem r_MRm_sumOf_147 {x y : Int32} : Rr X d MRm_sumOf 147 L (.int y :: .int x :: st) h = Rr X d MRm_sumOf 148 L (.int (x * y) :: st) h := Rr_nx d_MRm_sumOf_147 rfl
theorem r_MRm_sumOf_148 {l0 l1 l2 l3 l4 l5 l6 l7 l8 : Value} {x : Int32} : Rr X d MRm_sumOf 148 [l0, l1, l2, l3, l4, l5, l6, l7, l8] (.int x :: st) h = Rr X d MRm_sumOf 150 (sL [l0, l1, l2, l3, l4, l5, l6, l7, l8] 5 (.int x)) st h := Rr_nx d_MRm_sumOf_148 rfl
theorem r_MRm_sumOf_150 {l0 l1 l2 l3 l4 l5 l7 l8 : Value} {x : Int32} : Rr X d MRm_sumOf 150 [l0, l1, l2, l3, l4, l5, .int x, l7, l8] st h = Rr X d MRm_sumOf 153 (sL [l0, l1, l2, l3, l4, l5, .int x, l7, l8] 6 (.int (x + (1)))) st h := Rr_nx d_MRm_sumOf_150 rfl
theorem r_MRm_sumOf_153 : Rr X d MRm_sumOf 153 L st h = Rr X d MRm_sumOf 135 L st h := R_goto d_MRm_sumOf_153 (by decide)
theorem r_MRm_sumOf_156 {l0 l1 l3 l4 l5 l6 l7 l8 : Value} {x : Int32} : Rr X d MRm_sumOf 156 [l0, l1, .int x, l3, l4, l5, l6, l7, l8] st h = Rr X d MRm_sumOf 157 [l0, l1, .int x, l3, l4, l5, l6, l7, l8] (.int x :: st) h := Rr_nx d_MRm_sumOf_156 rfl
theorem r_MRm_sumOf_157 {l0 l1 l2 l4 l5 l6 l7 l8 : Value} {x : Int32} : Rr X d MRm_sumOf 157 [l0, l1, l2, .int x, l4, l5, l6, l7, l8] st h = Rr X d MRm_sumOf 158 [l0, l1, l2, .int x, l4, l5, l6, l7, l8] (.int x :: st) h := Rr_nx d_MRm_sumOf_157 rfl
theorem r_MRm_sumOf_158 {x y : Int32} : Rr X d MRm_sumOf 158 L (.int y :: .int x :: st) h = Rr X d MRm_sumOf 159 L (.int (x + y) :: st) h := Rr_nx d_MRm_sumOf_158 rfl
theorem r_MRm_sumOf_159 : Rr X d MRm_sumOf 159 L st h = Rr X d MRm_sumOf 160 L (.int (2) :: st) h := Rr_nx d_MRm_sumOf_159 rfl
theorem r_MRm_sumOf_160 {x y : Int32} : Rr X d MRm_sumOf 160 L (.int y :: .int x :: st) h = if y = 0 then none else Rr X d MRm_sumOf 161 L (.int (x - x / y * y) :: st) h := R_rm d_MRm_sumOf_160
theorem r_MRm_sumOf_161 {x : Int32} : Rr X d MRm_sumOf 161 L (.int x :: st) h = if ¬ x = 0 then Rr X d MRm_sumOf 174 L st h else Rr X d MRm_sumOf 164 L st h := R_if_ne d_MRm_sumOf_161 (by decide)
theorem r_MRm_sumOf_164 {l0 l1 l2 l3 l5 l6 l7 l8 : Value} {x : Int32} : Rr X d MRm_sumOf 164 [l0, l1, l2, l3, .int x, l5, l6, l7, l8] st h = Rr X d MRm_sumOf 166 [l0, l1, l2, l3, .int x, l5, l6, l7, l8] (.int x :: st) h := Rr_nx d_MRm_sumOf_164 rfl
theorem r_MRm_sumOf_166 : Rr X d MRm_sumOf 166 L st h = Rr X d MRm_sumOf 167 L (.int (2) :: st) h := Rr_nx d_MRm_sumOf_166 rfl
theorem r_MRm_sumOf_167 {l0 l1 l2 l3 l4 l6 l7 l8 : Value} {x : Int32} : Rr X d MRm_sumOf 167 [l0, l1, l2, l3, l4, .int x, l6, l7, l8] st h = Rr X d MRm_sumOf 169 [l0, l1, l2, l3, l4, .int x, l6, l7, l8] (.int x :: st) h := Rr_nx d_MRm_sumOf_167 rfl
theorem r_MRm_sumOf_169 {x y : Int32} : Rr X d MRm_sumOf 169 L (.int y :: .int x :: st) h = Rr X d MRm_sumOf 170 L (.int (x * y) :: st) h := Rr_nx d_MRm_sumOf_169 rfl
theorem r_MRm_sumOf_170 {x y : Int32} : Rr X d MRm_sumOf 170 L (.int y :: .int x :: st) h = Rr X d MRm_sumOf 171 L (.int (x + y) :: st) h := Rr_nx d_MRm_sumOf_170 rfl
theorem r_MRm_sumOf_171 : Rr X d MRm_sumOf 171 L st h = Rr X d MRm_sumOf 176 L st h := R_goto d_MRm_sumOf_171 (by decide)
theorem r_MRm_sumOf_174 {l0 l1 l2 l3 l5 l6 l7 l8 : Value} {x : Int32} : Rr X d MRm_sumOf 174 [l0, l1, l2, l3, .int x, l5, l6, l7, l8] st h = Rr X d MRm_sumOf 176 [l0, l1, l2, l3, .int x, l5, l6, l7, l8] (.int x :: st) h := Rr_nx d_MRm_sumOf_174 rfl
theorem r_MRm_sumOf_176 {x : Int32} : Rr X d MRm_sumOf 176 L [.int x] h = some (some (.int x), h) := R_ir d_MRm_sumOf_176 rfl
theorem d_MRm_wideX_0 : decode MRm_wideX.2.2.1 0 = .ok (.aload_n 0, 1) := lkT_ok tk_MRm_wideX rfl
theorem d_MRm_wideX_1 : decode MRm_wideX.2.2.1 1 = .ok (.iload_n 1, 1) := lkT_ok tk_MRm_wideX rfl
theorem d_MRm_wideX_2 : decode MRm_wideX.2.2.1 2 = .ok (.iconst 0, 1) := lkT_ok tk_MRm_wideX rfl
theorem d_MRm_wideX_3 : decode MRm_wideX.2.2.1 3 = .ok (.iconst 0, 1) := lkT_ok tk_MRm_wideX rfl
theorem d_MRm_wideX_4 : decode MRm_wideX.2.2.1 4 = .ok (.invokevirtual 154, 3) := lkT_ok tk_MRm_wideX rfl
theorem d_MRm_wideX_7 : decode MRm_wideX.2.2.1 7 = .ok (.aload_n 0, 1) := lkT_ok tk_MRm_wideX rfl
theorem d_MRm_wideX_8 : decode MRm_wideX.2.2.1 8 = .ok (.iload_n 1, 1) := lkT_ok tk_MRm_wideX rfl
theorem d_MRm_wideX_9 : decode MRm_wideX.2.2.1 9 = .ok (.iconst 2, 1) := lkT_ok tk_MRm_wideX rfl
theorem d_MRm_wideX_10 : decode MRm_wideX.2.2.1 10 = .ok (.iconst 0, 1) := lkT_ok tk_MRm_wideX rfl
theorem d_MRm_wideX_11 : decode MRm_wideX.2.2.1 11 = .ok (.invokevirtual 154, 3) := lkT_ok tk_MRm_wideX rfl
theorem d_MRm_wideX_14 : decode MRm_wideX.2.2.1 14 = .ok (.imul, 1) := lkT_ok tk_MRm_wideX rfl
theorem d_MRm_wideX_15 : decode MRm_wideX.2.2.1 15 = .ok (.aload_n 0, 1) := lkT_ok tk_MRm_wideX rfl
theorem d_MRm_wideX_16 : decode MRm_wideX.2.2.1 16 = .ok (.iload_n 1, 1) := lkT_ok tk_MRm_wideX rfl
theorem d_MRm_wideX_17 : decode MRm_wideX.2.2.1 17 = .ok (.iconst 1, 1) := lkT_ok tk_MRm_wideX rfl
theorem d_MRm_wideX_18 : decode MRm_wideX.2.2.1 18 = .ok (.iconst 0, 1) := lkT_ok tk_MRm_wideX rfl
theorem d_MRm_wideX_19 : decode MRm_wideX.2.2.1 19 = .ok (.invokevirtual 154, 3) := lkT_ok tk_MRm_wideX rfl
theorem d_MRm_wideX_22 : decode MRm_wideX.2.2.1 22 = .ok (.aload_n 0, 1) := lkT_ok tk_MRm_wideX rfl
theorem d_MRm_wideX_23 : decode MRm_wideX.2.2.1 23 = .ok (.iload_n 1, 1) := lkT_ok tk_MRm_wideX rfl
theorem d_MRm_wideX_24 : decode MRm_wideX.2.2.1 24 = .ok (.iconst 1, 1) := lkT_ok tk_MRm_wideX rfl
theorem d_MRm_wideX_25 : decode MRm_wideX.2.2.1 25 = .ok (.iconst 0, 1) := lkT_ok tk_MRm_wideX rfl
theorem d_MRm_wideX_26 : decode MRm_wideX.2.2.1 26 = .ok (.invokevirtual 154, 3) := lkT_ok tk_MRm_wideX rfl
theorem d_MRm_wideX_29 : decode MRm_wideX.2.2.1 29 = .ok (.imul, 1) := lkT_ok tk_MRm_wideX rfl
theorem d_MRm_wideX_30 : decode MRm_wideX.2.2.1 30 = .ok (.isub, 1) := lkT_ok tk_MRm_wideX rfl
theorem d_MRm_wideX_31 : decode MRm_wideX.2.2.1 31 = .ok (.ireturn, 1) := lkT_ok tk_MRm_wideX rfl
theorem r_MRm_wideX_0 {l1 : Value} {x : Nat} : Rr X d MRm_wideX 0 [.ref x, l1] st h = Rr X d MRm_wideX 1 [.ref x, l1] (.ref x :: st) h := Rr_nx d_MRm_wideX_0 rfl
theorem r_MRm_wideX_1 {l0 : Value} {x : Int32} : Rr X d MRm_wideX 1 [l0, .int x] st h = Rr X d MRm_wideX 2 [l0, .int x] (.int x :: st) h := Rr_nx d_MRm_wideX_1 rfl
theorem r_MRm_wideX_2 : Rr X d MRm_wideX 2 L st h = Rr X d MRm_wideX 3 L (.int (0) :: st) h := Rr_nx d_MRm_wideX_2 rfl
theorem r_MRm_wideX_3 : Rr X d MRm_wideX 3 L st h = Rr X d MRm_wideX 4 L (.int (0) :: st) h := Rr_nx d_MRm_wideX_3 rfl
theorem r_MRm_wideX_4 {y0 : Int32} {y1 : Int32} {y2 : Int32} {a : Nat} (hO : qO a 10 = true) (hc : ckS st = true) : Rr X (d + 1) MRm_wideX 4 L (.int y2 :: .int y1 :: .int y0 :: .ref a :: st) (Wd mu la ro et) = (Rr X d MRm_sumOf 0 [.ref a, .int y0, .int y1, .int y2, mkU, mkU, mkU, mkU, mkU] [] (Wd mu la ro et)).bind fun q => Rr X (d + 1) MRm_wideX 7 L (psh q.1 st) q.2 := R_iv (av := [.int y2, .int y1, .int y0]) d_MRm_wideX_4 fc_10_154 hO (ckS_le hc) rfl (Nat.le_of_ble_eq_true rfl) (Nat.le_of_ble_eq_true rfl)
theorem r_MRm_wideX_7 {l1 : Value} {x : Nat} : Rr X d MRm_wideX 7 [.ref x, l1] st h = Rr X d MRm_wideX 8 [.ref x, l1] (.ref x :: st) h := Rr_nx d_MRm_wideX_7 rfl
theorem r_MRm_wideX_8 {l0 : Value} {x : Int32} : Rr X d MRm_wideX 8 [l0, .int x] st h = Rr X d MRm_wideX 9 [l0, .int x] (.int x :: st) h := Rr_nx d_MRm_wideX_8 rfl
theorem r_MRm_wideX_9 : Rr X d MRm_wideX 9 L st h = Rr X d MRm_wideX 10 L (.int (2) :: st) h := Rr_nx d_MRm_wideX_9 rfl
theorem r_MRm_wideX_10 : Rr X d MRm_wideX 10 L st h = Rr X d MRm_wideX 11 L (.int (0) :: st) h := Rr_nx d_MRm_wideX_10 rfl
theorem r_MRm_wideX_11 {y0 : Int32} {y1 : Int32} {y2 : Int32} {a : Nat} (hO : qO a 10 = true) (hc : ckS st = true) : Rr X (d + 1) MRm_wideX 11 L (.int y2 :: .int y1 :: .int y0 :: .ref a :: st) (Wd mu la ro et) = (Rr X d MRm_sumOf 0 [.ref a, .int y0, .int y1, .int y2, mkU, mkU, mkU, mkU, mkU] [] (Wd mu la ro et)).bind fun q => Rr X (d + 1) MRm_wideX 14 L (psh q.1 st) q.2 := R_iv (av := [.int y2, .int y1, .int y0]) d_MRm_wideX_11 fc_10_154 hO (ckS_le hc) rfl (Nat.le_of_ble_eq_true rfl) (Nat.le_of_ble_eq_true rfl)
theorem r_MRm_wideX_14 {x y : Int32} : Rr X d MRm_wideX 14 L (.int y :: .int x :: st) h = Rr X d MRm_wideX 15 L (.int (x * y) :: st) h := Rr_nx d_MRm_wideX_14 rfl
theorem r_MRm_wideX_15 {l1 : Value} {x : Nat} : Rr X d MRm_wideX 15 [.ref x, l1] st h = Rr X d MRm_wideX 16 [.ref x, l1] (.ref x :: st) h := Rr_nx d_MRm_wideX_15 rfl
theorem r_MRm_wideX_16 {l0 : Value} {x : Int32} : Rr X d MRm_wideX 16 [l0, .int x] st h = Rr X d MRm_wideX 17 [l0, .int x] (.int x :: st) h := Rr_nx d_MRm_wideX_16 rfl
theorem r_MRm_wideX_17 : Rr X d MRm_wideX 17 L st h = Rr X d MRm_wideX 18 L (.int (1) :: st) h := Rr_nx d_MRm_wideX_17 rfl
theorem r_MRm_wideX_18 : Rr X d MRm_wideX 18 L st h = Rr X d MRm_wideX 19 L (.int (0) :: st) h := Rr_nx d_MRm_wideX_18 rfl
theorem r_MRm_wideX_19 {y0 : Int32} {y1 : Int32} {y2 : Int32} {a : Nat} (hO : qO a 10 = true) (hc : ckS st = true) : Rr X (d + 1) MRm_wideX 19 L (.int y2 :: .int y1 :: .int y0 :: .ref a :: st) (Wd mu la ro et) = (Rr X d MRm_sumOf 0 [.ref a, .int y0, .int y1, .int y2, mkU, mkU, mkU, mkU, mkU] [] (Wd mu la ro et)).bind fun q => Rr X (d + 1) MRm_wideX 22 L (psh q.1 st) q.2 := R_iv (av := [.int y2, .int y1, .int y0]) d_MRm_wideX_19 fc_10_154 hO (ckS_le hc) rfl (Nat.le_of_ble_eq_true rfl) (Nat.le_of_ble_eq_true rfl)
theorem r_MRm_wideX_22 {l1 : Value} {x : Nat} : Rr X d MRm_wideX 22 [.ref x, l1] st h = Rr X d MRm_wideX 23 [.ref x, l1] (.ref x :: st) h := Rr_nx d_MRm_wideX_22 rfl
theorem r_MRm_wideX_23 {l0 : Value} {x : Int32} : Rr X d MRm_wideX 23 [l0, .int x] st h = Rr X d MRm_wideX 24 [l0, .int x] (.int x :: st) h := Rr_nx d_MRm_wideX_23 rfl
theorem r_MRm_wideX_24 : Rr X d MRm_wideX 24 L st h = Rr X d MRm_wideX 25 L (.int (1) :: st) h := Rr_nx d_MRm_wideX_24 rfl
theorem r_MRm_wideX_25 : Rr X d MRm_wideX 25 L st h = Rr X d MRm_wideX 26 L (.int (0) :: st) h := Rr_nx d_MRm_wideX_25 rfl
theorem r_MRm_wideX_26 {y0 : Int32} {y1 : Int32} {y2 : Int32} {a : Nat} (hO : qO a 10 = true) (hc : ckS st = true) : Rr X (d + 1) MRm_wideX 26 L (.int y2 :: .int y1 :: .int y0 :: .ref a :: st) (Wd mu la ro et) = (Rr X d MRm_sumOf 0 [.ref a, .int y0, .int y1, .int y2, mkU, mkU, mkU, mkU, mkU] [] (Wd mu la ro et)).bind fun q => Rr X (d + 1) MRm_wideX 29 L (psh q.1 st) q.2 := R_iv (av := [.int y2, .int y1, .int y0]) d_MRm_wideX_26 fc_10_154 hO (ckS_le hc) rfl (Nat.le_of_ble_eq_true rfl) (Nat.le_of_ble_eq_true rfl)
theorem r_MRm_wideX_29 {x y : Int32} : Rr X d MRm_wideX 29 L (.int y :: .int x :: st) h = Rr X d MRm_wideX 30 L (.int (x * y) :: st) h := Rr_nx d_MRm_wideX_29 rfl
theorem r_MRm_wideX_30 {x y : Int32} : Rr X d MRm_wideX 30 L (.int y :: .int x :: st) h = Rr X d MRm_wideX 31 L (.int (x - y) :: st) h := Rr_nx d_MRm_wideX_30 rfl
theorem r_MRm_wideX_31 {x : Int32} : Rr X d MRm_wideX 31 L [.int x] h = some (some (.int x), h) := R_ir d_MRm_wideX_31 rfl
theorem d_MRm_wideY_0 : decode MRm_wideY.2.2.1 0 = .ok (.aload_n 0, 1) := lkT_ok tk_MRm_wideY rfl
theorem d_MRm_wideY_1 : decode MRm_wideY.2.2.1 1 = .ok (.iload_n 1, 1) := lkT_ok tk_MRm_wideY rfl
theorem d_MRm_wideY_2 : decode MRm_wideY.2.2.1 2 = .ok (.iconst 0, 1) := lkT_ok tk_MRm_wideY rfl
theorem d_MRm_wideY_3 : decode MRm_wideY.2.2.1 3 = .ok (.iconst 0, 1) := lkT_ok tk_MRm_wideY rfl
theorem d_MRm_wideY_4 : decode MRm_wideY.2.2.1 4 = .ok (.invokevirtual 154, 3) := lkT_ok tk_MRm_wideY rfl
theorem d_MRm_wideY_7 : decode MRm_wideY.2.2.1 7 = .ok (.aload_n 0, 1) := lkT_ok tk_MRm_wideY rfl
theorem d_MRm_wideY_8 : decode MRm_wideY.2.2.1 8 = .ok (.iload_n 1, 1) := lkT_ok tk_MRm_wideY rfl
theorem d_MRm_wideY_9 : decode MRm_wideY.2.2.1 9 = .ok (.iconst 0, 1) := lkT_ok tk_MRm_wideY rfl
theorem d_MRm_wideY_10 : decode MRm_wideY.2.2.1 10 = .ok (.iconst 2, 1) := lkT_ok tk_MRm_wideY rfl
theorem d_MRm_wideY_11 : decode MRm_wideY.2.2.1 11 = .ok (.invokevirtual 154, 3) := lkT_ok tk_MRm_wideY rfl
theorem d_MRm_wideY_14 : decode MRm_wideY.2.2.1 14 = .ok (.imul, 1) := lkT_ok tk_MRm_wideY rfl
theorem d_MRm_wideY_15 : decode MRm_wideY.2.2.1 15 = .ok (.aload_n 0, 1) := lkT_ok tk_MRm_wideY rfl
theorem d_MRm_wideY_16 : decode MRm_wideY.2.2.1 16 = .ok (.iload_n 1, 1) := lkT_ok tk_MRm_wideY rfl
theorem d_MRm_wideY_17 : decode MRm_wideY.2.2.1 17 = .ok (.iconst 0, 1) := lkT_ok tk_MRm_wideY rfl
theorem d_MRm_wideY_18 : decode MRm_wideY.2.2.1 18 = .ok (.iconst 1, 1) := lkT_ok tk_MRm_wideY rfl
theorem d_MRm_wideY_19 : decode MRm_wideY.2.2.1 19 = .ok (.invokevirtual 154, 3) := lkT_ok tk_MRm_wideY rfl
theorem d_MRm_wideY_22 : decode MRm_wideY.2.2.1 22 = .ok (.aload_n 0, 1) := lkT_ok tk_MRm_wideY rfl
theorem d_MRm_wideY_23 : decode MRm_wideY.2.2.1 23 = .ok (.iload_n 1, 1) := lkT_ok tk_MRm_wideY rfl
theorem d_MRm_wideY_24 : decode MRm_wideY.2.2.1 24 = .ok (.iconst 0, 1) := lkT_ok tk_MRm_wideY rfl
theorem d_MRm_wideY_25 : decode MRm_wideY.2.2.1 25 = .ok (.iconst 1, 1) := lkT_ok tk_MRm_wideY rfl
theorem d_MRm_wideY_26 : decode MRm_wideY.2.2.1 26 = .ok (.invokevirtual 154, 3) := lkT_ok tk_MRm_wideY rfl
theorem d_MRm_wideY_29 : decode MRm_wideY.2.2.1 29 = .ok (.imul, 1) := lkT_ok tk_MRm_wideY rfl
theorem d_MRm_wideY_30 : decode MRm_wideY.2.2.1 30 = .ok (.isub, 1) := lkT_ok tk_MRm_wideY rfl
theorem d_MRm_wideY_31 : decode MRm_wideY.2.2.1 31 = .ok (.ireturn, 1) := lkT_ok tk_MRm_wideY rfl
theorem r_MRm_wideY_0 {l1 : Value} {x : Nat} : Rr X d MRm_wideY 0 [.ref x, l1] st h = Rr X d MRm_wideY 1 [.ref x, l1] (.ref x :: st) h := Rr_nx d_MRm_wideY_0 rfl
theorem r_MRm_wideY_1 {l0 : Value} {x : Int32} : Rr X d MRm_wideY 1 [l0, .int x] st h = Rr X d MRm_wideY 2 [l0, .int x] (.int x :: st) h := Rr_nx d_MRm_wideY_1 rfl
theorem r_MRm_wideY_2 : Rr X d MRm_wideY 2 L st h = Rr X d MRm_wideY 3 L (.int (0) :: st) h := Rr_nx d_MRm_wideY_2 rfl
theorem r_MRm_wideY_3 : Rr X d MRm_wideY 3 L st h = Rr X d MRm_wideY 4 L (.int (0) :: st) h := Rr_nx d_MRm_wideY_3 rfl
theorem r_MRm_wideY_4 {y0 : Int32} {y1 : Int32} {y2 : Int32} {a : Nat} (hO : qO a 10 = true) (hc : ckS st = true) : Rr X (d + 1) MRm_wideY 4 L (.int y2 :: .int y1 :: .int y0 :: .ref a :: st) (Wd mu la ro et) = (Rr X d MRm_sumOf 0 [.ref a, .int y0, .int y1, .int y2, mkU, mkU, mkU, mkU, mkU] [] (Wd mu la ro et)).bind fun q => Rr X (d + 1) MRm_wideY 7 L (psh q.1 st) q.2 := R_iv (av := [.int y2, .int y1, .int y0]) d_MRm_wideY_4 fc_10_154 hO (ckS_le hc) rfl (Nat.le_of_ble_eq_true rfl) (Nat.le_of_ble_eq_true rfl)
theorem r_MRm_wideY_7 {l1 : Value} {x : Nat} : Rr X d MRm_wideY 7 [.ref x, l1] st h = Rr X d MRm_wideY 8 [.ref x, l1] (.ref x :: st) h := Rr_nx d_MRm_wideY_7 rfl
theorem r_MRm_wideY_8 {l0 : Value} {x : Int32} : Rr X d MRm_wideY 8 [l0, .int x] st h = Rr X d MRm_wideY 9 [l0, .int x] (.int x :: st) h := Rr_nx d_MRm_wideY_8 rfl
theorem r_MRm_wideY_9 : Rr X d MRm_wideY 9 L st h = Rr X d MRm_wideY 10 L (.int (0) :: st) h := Rr_nx d_MRm_wideY_9 rfl
theorem r_MRm_wideY_10 : Rr X d MRm_wideY 10 L st h = Rr X d MRm_wideY 11 L (.int (2) :: st) h := Rr_nx d_MRm_wideY_10 rfl
theorem r_MRm_wideY_11 {y0 : Int32} {y1 : Int32} {y2 : Int32} {a : Nat} (hO : qO a 10 = true) (hc : ckS st = true) : Rr X (d + 1) MRm_wideY 11 L (.int y2 :: .int y1 :: .int y0 :: .ref a :: st) (Wd mu la ro et) = (Rr X d MRm_sumOf 0 [.ref a, .int y0, .int y1, .int y2, mkU, mkU, mkU, mkU, mkU] [] (Wd mu la ro et)).bind fun q => Rr X (d + 1) MRm_wideY 14 L (psh q.1 st) q.2 := R_iv (av := [.int y2, .int y1, .int y0]) d_MRm_wideY_11 fc_10_154 hO (ckS_le hc) rfl (Nat.le_of_ble_eq_true rfl) (Nat.le_of_ble_eq_true rfl)
theorem r_MRm_wideY_14 {x y : Int32} : Rr X d MRm_wideY 14 L (.int y :: .int x :: st) h = Rr X d MRm_wideY 15 L (.int (x * y) :: st) h := Rr_nx d_MRm_wideY_14 rfl
theorem r_MRm_wideY_15 {l1 : Value} {x : Nat} : Rr X d MRm_wideY 15 [.ref x, l1] st h = Rr X d MRm_wideY 16 [.ref x, l1] (.ref x :: st) h := Rr_nx d_MRm_wideY_15 rfl
theorem r_MRm_wideY_16 {l0 : Value} {x : Int32} : Rr X d MRm_wideY 16 [l0, .int x] st h = Rr X d MRm_wideY 17 [l0, .int x] (.int x :: st) h := Rr_nx d_MRm_wideY_16 rfl
theorem r_MRm_wideY_17 : Rr X d MRm_wideY 17 L st h = Rr X d MRm_wideY 18 L (.int (0) :: st) h := Rr_nx d_MRm_wideY_17 rfl
theorem r_MRm_wideY_18 : Rr X d MRm_wideY 18 L st h = Rr X d MRm_wideY 19 L (.int (1) :: st) h := Rr_nx d_MRm_wideY_18 rfl
theorem r_MRm_wideY_19 {y0 : Int32} {y1 : Int32} {y2 : Int32} {a : Nat} (hO : qO a 10 = true) (hc : ckS st = true) : Rr X (d + 1) MRm_wideY 19 L (.int y2 :: .int y1 :: .int y0 :: .ref a :: st) (Wd mu la ro et) = (Rr X d MRm_sumOf 0 [.ref a, .int y0, .int y1, .int y2, mkU, mkU, mkU, mkU, mkU] [] (Wd mu la ro et)).bind fun q => Rr X (d + 1) MRm_wideY 22 L (psh q.1 st) q.2 := R_iv (av := [.int y2, .int y1, .int y0]) d_MRm_wideY_19 fc_10_154 hO (ckS_le hc) rfl (Nat.le_of_ble_eq_true rfl) (Nat.le_of_ble_eq_true rfl)
theorem r_MRm_wideY_22 {l1 : Value} {x : Nat} : Rr X d MRm_wideY 22 [.ref x, l1] st h = Rr X d MRm_wideY 23 [.ref x, l1] (.ref x :: st) h := Rr_nx d_MRm_wideY_22 rfl
theorem r_MRm_wideY_23 {l0 : Value} {x : Int32} : Rr X d MRm_wideY 23 [l0, .int x] st h = Rr X d MRm_wideY 24 [l0, .int x] (.int x :: st) h := Rr_nx d_MRm_wideY_23 rfl
theorem r_MRm_wideY_24 : Rr X d MRm_wideY 24 L st h = Rr X d MRm_wideY 25 L (.int (0) :: st) h := Rr_nx d_MRm_wideY_24 rfl
theorem r_MRm_wideY_25 : Rr X d MRm_wideY 25 L st h = Rr X d MRm_wideY 26 L (.int (1) :: st) h := Rr_nx d_MRm_wideY_25 rfl
theorem r_MRm_wideY_26 {y0 : Int32} {y1 : Int32} {y2 : Int32} {a : Nat} (hO : qO a 10 = true) (hc : ckS st = true) : Rr X (d + 1) MRm_wideY 26 L (.int y2 :: .int y1 :: .int y0 :: .ref a :: st) (Wd mu la ro et) = (Rr X d MRm_sumOf 0 [.ref a, .int y0, .int y1, .int y2, mkU, mkU, mkU, mkU, mkU] [] (Wd mu la ro et)).bind fun q => Rr X (d + 1) MRm_wideY 29 L (psh q.1 st) q.2 := R_iv (av := [.int y2, .int y1, .int y0]) d_MRm_wideY_26 fc_10_154 hO (ckS_le hc) rfl (Nat.le_of_ble_eq_true rfl) (Nat.le_of_ble_eq_true rfl)
theorem r_MRm_wideY_29 {x y : Int32} : Rr X d MRm_wideY 29 L (.int y :: .int x :: st) h = Rr X d MRm_wideY 30 L (.int (x * y) :: st) h := Rr_nx d_MRm_wideY_29 rfl
theorem r_MRm_wideY_30 {x y : Int32} : Rr X d MRm_wideY 30 L (.int y :: .int x :: st) h = Rr X d MRm_wideY 31 L (.int (x - y) :: st) h := Rr_nx d_MRm_wideY_30 rfl
theorem r_MRm_wideY_31 {x : Int32} : Rr X d MRm_wideY 31 L [.int x] h = some (some (.int x), h) := R_ir d_MRm_wideY_31 rfl
theorem d_MRm_slant_0 : decode MRm_slant.2.2.1 0 = .ok (.aload_n 0, 1) := lkT_ok tk_MRm_slant rfl
theorem d_MRm_slant_1 : decode MRm_slant.2.2.1 1 = .ok (.iload_n 1, 1) := lkT_ok tk_MRm_slant rfl
theorem d_MRm_slant_2 : decode MRm_slant.2.2.1 2 = .ok (.iconst 0, 1) := lkT_ok tk_MRm_slant rfl
theorem d_MRm_slant_3 : decode MRm_slant.2.2.1 3 = .ok (.iconst 0, 1) := lkT_ok tk_MRm_slant rfl
theorem d_MRm_slant_4 : decode MRm_slant.2.2.1 4 = .ok (.invokevirtual 154, 3) := lkT_ok tk_MRm_slant rfl
theorem d_MRm_slant_7 : decode MRm_slant.2.2.1 7 = .ok (.aload_n 0, 1) := lkT_ok tk_MRm_slant rfl
theorem d_MRm_slant_8 : decode MRm_slant.2.2.1 8 = .ok (.iload_n 1, 1) := lkT_ok tk_MRm_slant rfl
theorem d_MRm_slant_9 : decode MRm_slant.2.2.1 9 = .ok (.iconst 1, 1) := lkT_ok tk_MRm_slant rfl
theorem d_MRm_slant_10 : decode MRm_slant.2.2.1 10 = .ok (.iconst 1, 1) := lkT_ok tk_MRm_slant rfl
theorem d_MRm_slant_11 : decode MRm_slant.2.2.1 11 = .ok (.invokevirtual 154, 3) := lkT_ok tk_MRm_slant rfl
theorem d_MRm_slant_14 : decode MRm_slant.2.2.1 14 = .ok (.imul, 1) := lkT_ok tk_MRm_slant rfl
theorem d_MRm_slant_15 : decode MRm_slant.2.2.1 15 = .ok (.aload_n 0, 1) := lkT_ok tk_MRm_slant rfl
theorem d_MRm_slant_16 : decode MRm_slant.2.2.1 16 = .ok (.iload_n 1, 1) := lkT_ok tk_MRm_slant rfl
theorem d_MRm_slant_17 : decode MRm_slant.2.2.1 17 = .ok (.iconst 1, 1) := lkT_ok tk_MRm_slant rfl
theorem d_MRm_slant_18 : decode MRm_slant.2.2.1 18 = .ok (.iconst 0, 1) := lkT_ok tk_MRm_slant rfl
theorem d_MRm_slant_19 : decode MRm_slant.2.2.1 19 = .ok (.invokevirtual 154, 3) := lkT_ok tk_MRm_slant rfl
theorem d_MRm_slant_22 : decode MRm_slant.2.2.1 22 = .ok (.aload_n 0, 1) := lkT_ok tk_MRm_slant rfl
theorem d_MRm_slant_23 : decode MRm_slant.2.2.1 23 = .ok (.iload_n 1, 1) := lkT_ok tk_MRm_slant rfl
theorem d_MRm_slant_24 : decode MRm_slant.2.2.1 24 = .ok (.iconst 0, 1) := lkT_ok tk_MRm_slant rfl
theorem d_MRm_slant_25 : decode MRm_slant.2.2.1 25 = .ok (.iconst 1, 1) := lkT_ok tk_MRm_slant rfl
theorem d_MRm_slant_26 : decode MRm_slant.2.2.1 26 = .ok (.invokevirtual 154, 3) := lkT_ok tk_MRm_slant rfl
theorem d_MRm_slant_29 : decode MRm_slant.2.2.1 29 = .ok (.imul, 1) := lkT_ok tk_MRm_slant rfl
theorem d_MRm_slant_30 : decode MRm_slant.2.2.1 30 = .ok (.isub, 1) := lkT_ok tk_MRm_slant rfl
theorem d_MRm_slant_31 : decode MRm_slant.2.2.1 31 = .ok (.ireturn, 1) := lkT_ok tk_MRm_slant rfl
theorem r_MRm_slant_0 {l1 : Value} {x : Nat} : Rr X d MRm_slant 0 [.ref x, l1] st h = Rr X d MRm_slant 1 [.ref x, l1] (.ref x :: st) h := Rr_nx d_MRm_slant_0 rfl
theorem r_MRm_slant_1 {l0 : Value} {x : Int32} : Rr X d MRm_slant 1 [l0, .int x] st h = Rr X d MRm_slant 2 [l0, .int x] (.int x :: st) h := Rr_nx d_MRm_slant_1 rfl
theorem r_MRm_slant_2 : Rr X d MRm_slant 2 L st h = Rr X d MRm_slant 3 L (.int (0) :: st) h := Rr_nx d_MRm_slant_2 rfl
theorem r_MRm_slant_3 : Rr X d MRm_slant 3 L st h = Rr X d MRm_slant 4 L (.int (0) :: st) h := Rr_nx d_MRm_slant_3 rfl
theorem r_MRm_slant_4 {y0 : Int32} {y1 : Int32} {y2 : Int32} {a : Nat} (hO : qO a 10 = true) (hc : ckS st = true) : Rr X (d + 1) MRm_slant 4 L (.int y2 :: .int y1 :: .int y0 :: .ref a :: st) (Wd mu la ro et) = (Rr X d MRm_sumOf 0 [.ref a, .int y0, .int y1, .int y2, mkU, mkU, mkU, mkU, mkU] [] (Wd mu la ro et)).bind fun q => Rr X (d + 1) MRm_slant 7 L (psh q.1 st) q.2 := R_iv (av := [.int y2, .int y1, .int y0]) d_MRm_slant_4 fc_10_154 hO (ckS_le hc) rfl (Nat.le_of_ble_eq_true rfl) (Nat.le_of_ble_eq_true rfl)
theorem r_MRm_slant_7 {l1 : Value} {x : Nat} : Rr X d MRm_slant 7 [.ref x, l1] st h = Rr X d MRm_slant 8 [.ref x, l1] (.ref x :: st) h := Rr_nx d_MRm_slant_7 rfl
theorem r_MRm_slant_8 {l0 : Value} {x : Int32} : Rr X d MRm_slant 8 [l0, .int x] st h = Rr X d MRm_slant 9 [l0, .int x] (.int x :: st) h := Rr_nx d_MRm_slant_8 rfl
theorem r_MRm_slant_9 : Rr X d MRm_slant 9 L st h = Rr X d MRm_slant 10 L (.int (1) :: st) h := Rr_nx d_MRm_slant_9 rfl
theorem r_MRm_slant_10 : Rr X d MRm_slant 10 L st h = Rr X d MRm_slant 11 L (.int (1) :: st) h := Rr_nx d_MRm_slant_10 rfl
theorem r_MRm_slant_11 {y0 : Int32} {y1 : Int32} {y2 : Int32} {a : Nat} (hO : qO a 10 = true) (hc : ckS st = true) : Rr X (d + 1) MRm_slant 11 L (.int y2 :: .int y1 :: .int y0 :: .ref a :: st) (Wd mu la ro et) = (Rr X d MRm_sumOf 0 [.ref a, .int y0, .int y1, .int y2, mkU, mkU, mkU, mkU, mkU] [] (Wd mu la ro et)).bind fun q => Rr X (d + 1) MRm_slant 14 L (psh q.1 st) q.2 := R_iv (av := [.int y2, .int y1, .int y0]) d_MRm_slant_11 fc_10_154 hO (ckS_le hc) rfl (Nat.le_of_ble_eq_true rfl) (Nat.le_of_ble_eq_true rfl)
theorem r_MRm_slant_14 {x y : Int32} : Rr X d MRm_slant 14 L (.int y :: .int x :: st) h = Rr X d MRm_slant 15 L (.int (x * y) :: st) h := Rr_nx d_MRm_slant_14 rfl
theorem r_MRm_slant_15 {l1 : Value} {x : Nat} : Rr X d MRm_slant 15 [.ref x, l1] st h = Rr X d MRm_slant 16 [.ref x, l1] (.ref x :: st) h := Rr_nx d_MRm_slant_15 rfl
theorem r_MRm_slant_16 {l0 : Value} {x : Int32} : Rr X d MRm_slant 16 [l0, .int x] st h = Rr X d MRm_slant 17 [l0, .int x] (.int x :: st) h := Rr_nx d_MRm_slant_16 rfl
theorem r_MRm_slant_17 : Rr X d MRm_slant 17 L st h = Rr X d MRm_slant 18 L (.int (1) :: st) h := Rr_nx d_MRm_slant_17 rfl
theorem r_MRm_slant_18 : Rr X d MRm_slant 18 L st h = Rr X d MRm_slant 19 L (.int (0) :: st) h := Rr_nx d_MRm_slant_18 rfl
theorem r_MRm_slant_19 {y0 : Int32} {y1 : Int32} {y2 : Int32} {a : Nat} (hO : qO a 10 = true) (hc : ckS st = true) : Rr X (d + 1) MRm_slant 19 L (.int y2 :: .int y1 :: .int y0 :: .ref a :: st) (Wd mu la ro et) = (Rr X d MRm_sumOf 0 [.ref a, .int y0, .int y1, .int y2, mkU, mkU, mkU, mkU, mkU] [] (Wd mu la ro et)).bind fun q => Rr X (d + 1) MRm_slant 22 L (psh q.1 st) q.2 := R_iv (av := [.int y2, .int y1, .int y0]) d_MRm_slant_19 fc_10_154 hO (ckS_le hc) rfl (Nat.le_of_ble_eq_true rfl) (Nat.le_of_ble_eq_true rfl)
theorem r_MRm_slant_22 {l1 : Value} {x : Nat} : Rr X d MRm_slant 22 [.ref x, l1] st h = Rr X d MRm_slant 23 [.ref x, l1] (.ref x :: st) h := Rr_nx d_MRm_slant_22 rfl
theorem r_MRm_slant_23 {l0 : Value} {x : Int32} : Rr X d MRm_slant 23 [l0, .int x] st h = Rr X d MRm_slant 24 [l0, .int x] (.int x :: st) h := Rr_nx d_MRm_slant_23 rfl
theorem r_MRm_slant_24 : Rr X d MRm_slant 24 L st h = Rr X d MRm_slant 25 L (.int (0) :: st) h := Rr_nx d_MRm_slant_24 rfl
theorem r_MRm_slant_25 : Rr X d MRm_slant 25 L st h = Rr X d MRm_slant 26 L (.int (1) :: st) h := Rr_nx d_MRm_slant_25 rfl
theorem r_MRm_slant_26 {y0 : Int32} {y1 : Int32} {y2 : Int32} {a : Nat} (hO : qO a 10 = true) (hc : ckS st = true) : Rr X (d + 1) MRm_slant 26 L (.int y2 :: .int y1 :: .int y0 :: .ref a :: st) (Wd mu la ro et) = (Rr X d MRm_sumOf 0 [.ref a, .int y0, .int y1, .int y2, mkU, mkU, mkU, mkU, mkU] [] (Wd mu la ro et)).bind fun q => Rr X (d + 1) MRm_slant 29 L (psh q.1 st) q.2 := R_iv (av := [.int y2, .int y1, .int y0]) d_MRm_slant_26 fc_10_154 hO (ckS_le hc) rfl (Nat.le_of_ble_eq_true rfl) (Nat.le_of_ble_eq_true rfl)
theorem r_MRm_slant_29 {x y : Int32} : Rr X d MRm_slant 29 L (.int y :: .int x :: st) h = Rr X d MRm_slant 30 L (.int (x * y) :: st) h := Rr_nx d_MRm_slant_29 rfl
theorem r_MRm_slant_30 {x y : Int32} : Rr X d MRm_slant 30 L (.int y :: .int x :: st) h = Rr X d MRm_slant 31 L (.int (x - y) :: st) h := Rr_nx d_MRm_slant_30 rfl
theorem r_MRm_slant_31 {x : Int32} : Rr X d MRm_slant 31 L [.int x] h = some (some (.int x), h) := R_ir d_MRm_slant_31 rfl
theorem d_MRm_keenOf_0 : decode MRm_keenOf.2.2.1 0 = .ok (.bipush 18, 2) := lkT_ok tk_MRm_keenOf rfl
theorem d_MRm_keenOf_2 : decode MRm_keenOf.2.2.1 2 = .ok (.aload_n 0, 1) := lkT_ok tk_MRm_keenOf rfl
theorem d_MRm_keenOf_3 : decode MRm_keenOf.2.2.1 3 = .ok (.iload_n 1, 1) := lkT_ok tk_MRm_keenOf rfl
theorem d_MRm_keenOf_4 : decode MRm_keenOf.2.2.1 4 = .ok (.invokevirtual 158, 3) := lkT_ok tk_MRm_keenOf rfl
theorem d_MRm_keenOf_7 : decode MRm_keenOf.2.2.1 7 = .ok (.imul, 1) := lkT_ok tk_MRm_keenOf rfl
theorem d_MRm_keenOf_8 : decode MRm_keenOf.2.2.1 8 = .ok (.aload_n 0, 1) := lkT_ok tk_MRm_keenOf rfl
theorem d_MRm_keenOf_9 : decode MRm_keenOf.2.2.1 9 = .ok (.iload_n 1, 1) := lkT_ok tk_MRm_keenOf rfl
theorem d_MRm_keenOf_10 : decode MRm_keenOf.2.2.1 10 = .ok (.invokevirtual 161, 3) := lkT_ok tk_MRm_keenOf rfl
theorem d_MRm_keenOf_13 : decode MRm_keenOf.2.2.1 13 = .ok (.aload_n 0, 1) := lkT_ok tk_MRm_keenOf rfl
theorem d_MRm_keenOf_14 : decode MRm_keenOf.2.2.1 14 = .ok (.iload_n 1, 1) := lkT_ok tk_MRm_keenOf rfl
theorem d_MRm_keenOf_15 : decode MRm_keenOf.2.2.1 15 = .ok (.invokevirtual 164, 3) := lkT_ok tk_MRm_keenOf rfl
theorem d_MRm_keenOf_18 : decode MRm_keenOf.2.2.1 18 = .ok (.isub, 1) := lkT_ok tk_MRm_keenOf rfl
theorem d_MRm_keenOf_19 : decode MRm_keenOf.2.2.1 19 = .ok (.invokestatic 167, 3) := lkT_ok tk_MRm_keenOf rfl
theorem d_MRm_keenOf_22 : decode MRm_keenOf.2.2.1 22 = .ok (.iconst 1, 1) := lkT_ok tk_MRm_keenOf rfl
theorem d_MRm_keenOf_23 : decode MRm_keenOf.2.2.1 23 = .ok (.iadd, 1) := lkT_ok tk_MRm_keenOf rfl
theorem d_MRm_keenOf_24 : decode MRm_keenOf.2.2.1 24 = .ok (.idiv, 1) := lkT_ok tk_MRm_keenOf rfl
theorem d_MRm_keenOf_25 : decode MRm_keenOf.2.2.1 25 = .ok (.bipush (-9), 2) := lkT_ok tk_MRm_keenOf rfl
theorem d_MRm_keenOf_27 : decode MRm_keenOf.2.2.1 27 = .ok (.bipush 9, 2) := lkT_ok tk_MRm_keenOf rfl
theorem d_MRm_keenOf_29 : decode MRm_keenOf.2.2.1 29 = .ok (.invokestatic 170, 3) := lkT_ok tk_MRm_keenOf rfl
theorem d_MRm_keenOf_32 : decode MRm_keenOf.2.2.1 32 = .ok (.ireturn, 1) := lkT_ok tk_MRm_keenOf rfl
theorem r_MRm_keenOf_0 : Rr X d MRm_keenOf 0 L st h = Rr X d MRm_keenOf 2 L (.int (18) :: st) h := Rr_nx d_MRm_keenOf_0 rfl
theorem r_MRm_keenOf_2 {l1 : Value} {x : Nat} : Rr X d MRm_keenOf 2 [.ref x, l1] st h = Rr X d MRm_keenOf 3 [.ref x, l1] (.ref x :: st) h := Rr_nx d_MRm_keenOf_2 rfl
theorem r_MRm_keenOf_3 {l0 : Value} {x : Int32} : Rr X d MRm_keenOf 3 [l0, .int x] st h = Rr X d MRm_keenOf 4 [l0, .int x] (.int x :: st) h := Rr_nx d_MRm_keenOf_3 rfl
theorem r_MRm_keenOf_4 {y0 : Int32} {a : Nat} (hO : qO a 10 = true) (hc : ckS st = true) : Rr X (d + 1) MRm_keenOf 4 L (.int y0 :: .ref a :: st) (Wd mu la ro et) = (Rr X d MRm_slant 0 [.ref a, .int y0] [] (Wd mu la ro et)).bind fun q => Rr X (d + 1) MRm_keenOf 7 L (psh q.1 st) q.2 := R_iv (av := [.int y0]) d_MRm_keenOf_4 fc_10_158 hO (ckS_le hc) rfl (Nat.le_of_ble_eq_true rfl) (Nat.le_of_ble_eq_true rfl)
theorem r_MRm_keenOf_7 {x y : Int32} : Rr X d MRm_keenOf 7 L (.int y :: .int x :: st) h = Rr X d MRm_keenOf 8 L (.int (x * y) :: st) h := Rr_nx d_MRm_keenOf_7 rfl
theorem r_MRm_keenOf_8 {l1 : Value} {x : Nat} : Rr X d MRm_keenOf 8 [.ref x, l1] st h = Rr X d MRm_keenOf 9 [.ref x, l1] (.ref x :: st) h := Rr_nx d_MRm_keenOf_8 rfl
theorem r_MRm_keenOf_9 {l0 : Value} {x : Int32} : Rr X d MRm_keenOf 9 [l0, .int x] st h = Rr X d MRm_keenOf 10 [l0, .int x] (.int x :: st) h := Rr_nx d_MRm_keenOf_9 rfl
theorem r_MRm_keenOf_10 {y0 : Int32} {a : Nat} (hO : qO a 10 = true) (hc : ckS st = true) : Rr X (d + 1) MRm_keenOf 10 L (.int y0 :: .ref a :: st) (Wd mu la ro et) = (Rr X d MRm_wideX 0 [.ref a, .int y0] [] (Wd mu la ro et)).bind fun q => Rr X (d + 1) MRm_keenOf 13 L (psh q.1 st) q.2 := R_iv (av := [.int y0]) d_MRm_keenOf_10 fc_10_161 hO (ckS_le hc) rfl (Nat.le_of_ble_eq_true rfl) (Nat.le_of_ble_eq_true rfl)
theorem r_MRm_keenOf_13 {l1 : Value} {x : Nat} : Rr X d MRm_keenOf 13 [.ref x, l1] st h = Rr X d MRm_keenOf 14 [.ref x, l1] (.ref x :: st) h := Rr_nx d_MRm_keenOf_13 rfl
theorem r_MRm_keenOf_14 {l0 : Value} {x : Int32} : Rr X d MRm_keenOf 14 [l0, .int x] st h = Rr X d MRm_keenOf 15 [l0, .int x] (.int x :: st) h := Rr_nx d_MRm_keenOf_14 rfl
theorem r_MRm_keenOf_15 {y0 : Int32} {a : Nat} (hO : qO a 10 = true) (hc : ckS st = true) : Rr X (d + 1) MRm_keenOf 15 L (.int y0 :: .ref a :: st) (Wd mu la ro et) = (Rr X d MRm_wideY 0 [.ref a, .int y0] [] (Wd mu la ro et)).bind fun q => Rr X (d + 1) MRm_keenOf 18 L (psh q.1 st) q.2 := R_iv (av := [.int y0]) d_MRm_keenOf_15 fc_10_164 hO (ckS_le hc) rfl (Nat.le_of_ble_eq_true rfl) (Nat.le_of_ble_eq_true rfl)
theorem r_MRm_keenOf_18 {x y : Int32} : Rr X d MRm_keenOf 18 L (.int y :: .int x :: st) h = Rr X d MRm_keenOf 19 L (.int (x - y) :: st) h := Rr_nx d_MRm_keenOf_18 rfl
theorem r_MRm_keenOf_19 {y0 : Int32} (hc : ckS st = true) : Rr X (d + 1) MRm_keenOf 19 L (.int y0 :: st) h = (Rr X d MRm_sizeOf 0 [.int y0] [] h).bind fun q => Rr X (d + 1) MRm_keenOf 22 L (psh q.1 st) q.2 := R_is (av := [.int y0]) d_MRm_keenOf_19 (Or.inl fc_10_167) (ckS_le hc) rfl (Nat.le_of_ble_eq_true rfl) (Nat.le_of_ble_eq_true rfl)
theorem r_MRm_keenOf_22 : Rr X d MRm_keenOf 22 L st h = Rr X d MRm_keenOf 23 L (.int (1) :: st) h := Rr_nx d_MRm_keenOf_22 rfl
theorem r_MRm_keenOf_23 {x y : Int32} : Rr X d MRm_keenOf 23 L (.int y :: .int x :: st) h = Rr X d MRm_keenOf 24 L (.int (x + y) :: st) h := Rr_nx d_MRm_keenOf_23 rfl
theorem r_MRm_keenOf_24 {x y : Int32} : Rr X d MRm_keenOf 24 L (.int y :: .int x :: st) h = if y = 0 then none else Rr X d MRm_keenOf 25 L (.int (x / y) :: st) h := R_dv d_MRm_keenOf_24
theorem r_MRm_keenOf_25 : Rr X d MRm_keenOf 25 L st h = Rr X d MRm_keenOf 27 L (.int (-9) :: st) h := Rr_nx d_MRm_keenOf_25 rfl
theorem r_MRm_keenOf_27 : Rr X d MRm_keenOf 27 L st h = Rr X d MRm_keenOf 29 L (.int (9) :: st) h := Rr_nx d_MRm_keenOf_27 rfl
theorem fc_10_170 : fC 10 170 = some (1, 0, 3, MRm_held) := rfl
theorem r_MRm_keenOf_29 {y0 : Int32} {y1 : Int32} {y2 : Int32} (hc : ckS st = true) : Rr X (d + 1) MRm_keenOf 29 L (.int y2 :: .int y1 :: .int y0 :: st) h = (Rr X d MRm_held 0 [.int y0, .int y1, .int y2] [] h).bind fun q => Rr X (d + 1) MRm_keenOf 32 L (psh q.1 st) q.2 := R_is (av := [.int y2, .int y1, .int y0]) d_MRm_keenOf_29 (Or.inl fc_10_170) (ckS_le hc) rfl (Nat.le_of_ble_eq_true rfl) (Nat.le_of_ble_eq_true rfl)
theorem r_MRm_keenOf_32 {x : Int32} : Rr X d MRm_keenOf 32 L [.int x] h = some (some (.int x), h) := R_ir d_MRm_keenOf_32 rfl
theorem d_MRm_held_0 : decode MRm_held.2.2.1 0 = .ok (.iload_n 0, 1) := lkT_ok tk_MRm_held rfl
theorem d_MRm_held_1 : decode MRm_held.2.2.1 1 = .ok (.iload_n 1, 1) := lkT_ok tk_MRm_held rfl
theorem d_MRm_held_2 : decode MRm_held.2.2.1 2 = .ok (.if_icmp .ge 7, 3) := lkT_ok tk_MRm_held rfl
theorem d_MRm_held_5 : decode MRm_held.2.2.1 5 = .ok (.iload_n 1, 1) := lkT_ok tk_MRm_held rfl
theorem d_MRm_held_6 : decode MRm_held.2.2.1 6 = .ok (.goto 13, 3) := lkT_ok tk_MRm_held rfl
theorem d_MRm_held_9 : decode MRm_held.2.2.1 9 = .ok (.iload_n 0, 1) := lkT_ok tk_MRm_held rfl
theorem d_MRm_held_10 : decode MRm_held.2.2.1 10 = .ok (.iload_n 2, 1) := lkT_ok tk_MRm_held rfl
theorem d_MRm_held_11 : decode MRm_held.2.2.1 11 = .ok (.if_icmp .le 7, 3) := lkT_ok tk_MRm_held rfl
theorem d_MRm_held_14 : decode MRm_held.2.2.1 14 = .ok (.iload_n 2, 1) := lkT_ok tk_MRm_held rfl
theorem d_MRm_held_15 : decode MRm_held.2.2.1 15 = .ok (.goto 4, 3) := lkT_ok tk_MRm_held rfl
theorem d_MRm_held_18 : decode MRm_held.2.2.1 18 = .ok (.iload_n 0, 1) := lkT_ok tk_MRm_held rfl
theorem d_MRm_held_19 : decode MRm_held.2.2.1 19 = .ok (.ireturn, 1) := lkT_ok tk_MRm_held rfl
theorem r_MRm_held_0 {l1 l2 : Value} {x : Int32} : Rr X d MRm_held 0 [.int x, l1, l2] st h = Rr X d MRm_held 1 [.int x, l1, l2] (.int x :: st) h := Rr_nx d_MRm_held_0 rfl
theorem r_MRm_held_1 {l0 l2 : Value} {x : Int32} : Rr X d MRm_held 1 [l0, .int x, l2] st h = Rr X d MRm_held 2 [l0, .int x, l2] (.int x :: st) h := Rr_nx d_MRm_held_1 rfl
theorem r_MRm_held_2 {x y : Int32} : Rr X d MRm_held 2 L (.int y :: .int x :: st) h = if y ≤ x then Rr X d MRm_held 9 L st h else Rr X d MRm_held 5 L st h := R_ic_ge d_MRm_held_2 (by decide)
theorem r_MRm_held_5 {l0 l2 : Value} {x : Int32} : Rr X d MRm_held 5 [l0, .int x, l2] st h = Rr X d MRm_held 6 [l0, .int x, l2] (.int x :: st) h := Rr_nx d_MRm_held_5 rfl
theorem r_MRm_held_6 : Rr X d MRm_held 6 L st h = Rr X d MRm_held 19 L st h := R_goto d_MRm_held_6 (by decide)
theorem r_MRm_held_9 {l1 l2 : Value} {x : Int32} : Rr X d MRm_held 9 [.int x, l1, l2] st h = Rr X d MRm_held 10 [.int x, l1, l2] (.int x :: st) h := Rr_nx d_MRm_held_9 rfl
theorem r_MRm_held_10 {l0 l1 : Value} {x : Int32} : Rr X d MRm_held 10 [l0, l1, .int x] st h = Rr X d MRm_held 11 [l0, l1, .int x] (.int x :: st) h := Rr_nx d_MRm_held_10 rfl
theorem r_MRm_held_11 {x y : Int32} : Rr X d MRm_held 11 L (.int y :: .int x :: st) h = if x ≤ y then Rr X d MRm_held 18 L st h else Rr X d MRm_held 14 L st h := R_ic_le d_MRm_held_11 (by decide)
theorem r_MRm_held_14 {l0 l1 : Value} {x : Int32} : Rr X d MRm_held 14 [l0, l1, .int x] st h = Rr X d MRm_held 15 [l0, l1, .int x] (.int x :: st) h := Rr_nx d_MRm_held_14 rfl
theorem r_MRm_held_15 : Rr X d MRm_held 15 L st h = Rr X d MRm_held 19 L st h := R_goto d_MRm_held_15 (by decide)
theorem r_MRm_held_18 {l1 l2 : Value} {x : Int32} : Rr X d MRm_held 18 [.int x, l1, l2] st h = Rr X d MRm_held 19 [.int x, l1, l2] (.int x :: st) h := Rr_nx d_MRm_held_18 rfl
theorem r_MRm_held_19 {x : Int32} : Rr X d MRm_held 19 L [.int x] h = some (some (.int x), h) := R_ir d_MRm_held_19 rfl
end RULES
