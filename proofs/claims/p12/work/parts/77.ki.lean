section RULES
variable {X : Tok} {d : Nat} {st L : List Value} {h : Hp} {mu : Nat → Nat → Int32} {la : Nat → Nat → Int64} {ro : Nat → Nat → Option Nat} {et : Nat → Option va_E}
theorem d_MTo_isGround_0 : decode MTo_isGround.2.2.1 0 = .ok (.iload_n 1, 1) := lkT_ok tk_MTo_isGround rfl
theorem d_MTo_isGround_1 : decode MTo_isGround.2.2.1 1 = .ok (.ifCond .lt 29, 3) := lkT_ok tk_MTo_isGround rfl
theorem d_MTo_isGround_4 : decode MTo_isGround.2.2.1 4 = .ok (.aload_n 0, 1) := lkT_ok tk_MTo_isGround rfl
theorem d_MTo_isGround_5 : decode MTo_isGround.2.2.1 5 = .ok (.iload_n 1, 1) := lkT_ok tk_MTo_isGround rfl
theorem d_MTo_isGround_6 : decode MTo_isGround.2.2.1 6 = .ok (.bipush 10, 2) := lkT_ok tk_MTo_isGround rfl
theorem d_MTo_isGround_8 : decode MTo_isGround.2.2.1 8 = .ok (.idiv, 1) := lkT_ok tk_MTo_isGround rfl
theorem d_MTo_isGround_9 : decode MTo_isGround.2.2.1 9 = .ok (.invokevirtual 100, 3) := lkT_ok tk_MTo_isGround rfl
theorem d_MTo_isGround_12 : decode MTo_isGround.2.2.1 12 = .ok (.ifnull 18, 3) := lkT_ok tk_MTo_isGround rfl
theorem d_MTo_isGround_15 : decode MTo_isGround.2.2.1 15 = .ok (.aload_n 0, 1) := lkT_ok tk_MTo_isGround rfl
theorem d_MTo_isGround_16 : decode MTo_isGround.2.2.1 16 = .ok (.iload_n 1, 1) := lkT_ok tk_MTo_isGround rfl
theorem d_MTo_isGround_17 : decode MTo_isGround.2.2.1 17 = .ok (.bipush 10, 2) := lkT_ok tk_MTo_isGround rfl
theorem d_MTo_isGround_19 : decode MTo_isGround.2.2.1 19 = .ok (.irem, 1) := lkT_ok tk_MTo_isGround rfl
theorem d_MTo_isGround_20 : decode MTo_isGround.2.2.1 20 = .ok (.invokevirtual 185, 3) := lkT_ok tk_MTo_isGround rfl
theorem d_MTo_isGround_23 : decode MTo_isGround.2.2.1 23 = .ok (.ifCond .eq 7, 3) := lkT_ok tk_MTo_isGround rfl
theorem d_MTo_isGround_26 : decode MTo_isGround.2.2.1 26 = .ok (.iconst 1, 1) := lkT_ok tk_MTo_isGround rfl
theorem d_MTo_isGround_27 : decode MTo_isGround.2.2.1 27 = .ok (.goto 4, 3) := lkT_ok tk_MTo_isGround rfl
theorem d_MTo_isGround_30 : decode MTo_isGround.2.2.1 30 = .ok (.iconst 0, 1) := lkT_ok tk_MTo_isGround rfl
theorem d_MTo_isGround_31 : decode MTo_isGround.2.2.1 31 = .ok (.ireturn, 1) := lkT_ok tk_MTo_isGround rfl
theorem r_MTo_isGround_0 {l0 : Value} {x : Int32} : Rr X d MTo_isGround 0 [l0, .int x] st h = Rr X d MTo_isGround 1 [l0, .int x] (.int x :: st) h := Rr_nx d_MTo_isGround_0 rfl
theorem r_MTo_isGround_1 {x : Int32} : Rr X d MTo_isGround 1 L (.int x :: st) h = if x < 0 then Rr X d MTo_isGround 30 L st h else Rr X d MTo_isGround 4 L st h := R_if_lt d_MTo_isGround_1 (by decide)
theorem r_MTo_isGround_4 {l1 : Value} {x : Nat} : Rr X d MTo_isGround 4 [.ref x, l1] st h = Rr X d MTo_isGround 5 [.ref x, l1] (.ref x :: st) h := Rr_nx d_MTo_isGround_4 rfl
theorem r_MTo_isGround_5 {l0 : Value} {x : Int32} : Rr X d MTo_isGround 5 [l0, .int x] st h = Rr X d MTo_isGround 6 [l0, .int x] (.int x :: st) h := Rr_nx d_MTo_isGround_5 rfl
theorem r_MTo_isGround_6 : Rr X d MTo_isGround 6 L st h = Rr X d MTo_isGround 8 L (.int (10) :: st) h := Rr_nx d_MTo_isGround_6 rfl
theorem r_MTo_isGround_8 {x y : Int32} : Rr X d MTo_isGround 8 L (.int y :: .int x :: st) h = if y = 0 then none else Rr X d MTo_isGround 9 L (.int (x / y) :: st) h := R_dv d_MTo_isGround_8
theorem r_MTo_isGround_9 {y0 : Int32} {a : Nat} (hO : qO a 9 = true) (hc : ckS st = true) : Rr X (d + 1) MTo_isGround 9 L (.int y0 :: .ref a :: st) (Wd mu la ro et) = (Rr X d MTo_stoneAt 0 [.ref a, .int y0] [] (Wd mu la ro et)).bind fun q => Rr X (d + 1) MTo_isGround 12 L (psh q.1 st) q.2 := R_iv (av := [.int y0]) d_MTo_isGround_9 fc_9_100 hO (ckS_le hc) rfl (Nat.le_of_ble_eq_true rfl) (Nat.le_of_ble_eq_true rfl)
theorem r_MTo_isGround_12 {x : Nat} : Rr X d MTo_isGround 12 L (.ref x :: st) h = Rr X d MTo_isGround 15 L st h := R_nul1 d_MTo_isGround_12
theorem r_MTo_isGround_12n : Rr X d MTo_isGround 12 L (.null :: st) h = Rr X d MTo_isGround 30 L st h := R_nul0 d_MTo_isGround_12 (by decide)
theorem r_MTo_isGround_15 {l1 : Value} {x : Nat} : Rr X d MTo_isGround 15 [.ref x, l1] st h = Rr X d MTo_isGround 16 [.ref x, l1] (.ref x :: st) h := Rr_nx d_MTo_isGround_15 rfl
theorem r_MTo_isGround_16 {l0 : Value} {x : Int32} : Rr X d MTo_isGround 16 [l0, .int x] st h = Rr X d MTo_isGround 17 [l0, .int x] (.int x :: st) h := Rr_nx d_MTo_isGround_16 rfl
theorem r_MTo_isGround_17 : Rr X d MTo_isGround 17 L st h = Rr X d MTo_isGround 19 L (.int (10) :: st) h := Rr_nx d_MTo_isGround_17 rfl
theorem r_MTo_isGround_19 {x y : Int32} : Rr X d MTo_isGround 19 L (.int y :: .int x :: st) h = if y = 0 then none else Rr X d MTo_isGround 20 L (.int (x - x / y * y) :: st) h := R_rm d_MTo_isGround_19
theorem fc_9_185 : fC 9 185 = some (0, 9, 1, MTo_isFloorOrNone) := rfl
theorem r_MTo_isGround_20 {y0 : Int32} {a : Nat} (hO : qO a 9 = true) (hc : ckS st = true) : Rr X (d + 1) MTo_isGround 20 L (.int y0 :: .ref a :: st) (Wd mu la ro et) = (Rr X d MTo_isFloorOrNone 0 [.ref a, .int y0] [] (Wd mu la ro et)).bind fun q => Rr X (d + 1) MTo_isGround 23 L (psh q.1 st) q.2 := R_iv (av := [.int y0]) d_MTo_isGround_20 fc_9_185 hO (ckS_le hc) rfl (Nat.le_of_ble_eq_true rfl) (Nat.le_of_ble_eq_true rfl)
theorem r_MTo_isGround_23 {x : Int32} : Rr X d MTo_isGround 23 L (.int x :: st) h = if x = 0 then Rr X d MTo_isGround 30 L st h else Rr X d MTo_isGround 26 L st h := R_if_eq d_MTo_isGround_23 (by decide)
theorem r_MTo_isGround_26 : Rr X d MTo_isGround 26 L st h = Rr X d MTo_isGround 27 L (.int (1) :: st) h := Rr_nx d_MTo_isGround_26 rfl
theorem r_MTo_isGround_27 : Rr X d MTo_isGround 27 L st h = Rr X d MTo_isGround 31 L st h := R_goto d_MTo_isGround_27 (by decide)
theorem r_MTo_isGround_30 : Rr X d MTo_isGround 30 L st h = Rr X d MTo_isGround 31 L (.int (0) :: st) h := Rr_nx d_MTo_isGround_30 rfl
theorem r_MTo_isGround_31 {x : Int32} : Rr X d MTo_isGround 31 L [.int x] h = if x = 0 ∨ x = 1 then some (some (.int x), h) else none := R_zr d_MTo_isGround_31 rfl
theorem d_MTo_isFloorOrNone_0 : decode MTo_isFloorOrNone.2.2.1 0 = .ok (.iload_n 1, 1) := lkT_ok tk_MTo_isFloorOrNone rfl
theorem d_MTo_isFloorOrNone_1 : decode MTo_isFloorOrNone.2.2.1 1 = .ok (.bipush 9, 2) := lkT_ok tk_MTo_isFloorOrNone rfl
theorem d_MTo_isFloorOrNone_3 : decode MTo_isFloorOrNone.2.2.1 3 = .ok (.if_icmp .eq 11, 3) := lkT_ok tk_MTo_isFloorOrNone rfl
theorem d_MTo_isFloorOrNone_6 : decode MTo_isFloorOrNone.2.2.1 6 = .ok (.aload_n 0, 1) := lkT_ok tk_MTo_isFloorOrNone rfl
theorem d_MTo_isFloorOrNone_7 : decode MTo_isFloorOrNone.2.2.1 7 = .ok (.iload_n 1, 1) := lkT_ok tk_MTo_isFloorOrNone rfl
theorem d_MTo_isFloorOrNone_8 : decode MTo_isFloorOrNone.2.2.1 8 = .ok (.invokevirtual 309, 3) := lkT_ok tk_MTo_isFloorOrNone rfl
theorem d_MTo_isFloorOrNone_11 : decode MTo_isFloorOrNone.2.2.1 11 = .ok (.ifnull 7, 3) := lkT_ok tk_MTo_isFloorOrNone rfl
theorem d_MTo_isFloorOrNone_14 : decode MTo_isFloorOrNone.2.2.1 14 = .ok (.iconst 1, 1) := lkT_ok tk_MTo_isFloorOrNone rfl
theorem d_MTo_isFloorOrNone_15 : decode MTo_isFloorOrNone.2.2.1 15 = .ok (.goto 4, 3) := lkT_ok tk_MTo_isFloorOrNone rfl
theorem d_MTo_isFloorOrNone_18 : decode MTo_isFloorOrNone.2.2.1 18 = .ok (.iconst 0, 1) := lkT_ok tk_MTo_isFloorOrNone rfl
theorem d_MTo_isFloorOrNone_19 : decode MTo_isFloorOrNone.2.2.1 19 = .ok (.ireturn, 1) := lkT_ok tk_MTo_isFloorOrNone rfl
theorem r_MTo_isFloorOrNone_0 {l0 : Value} {x : Int32} : Rr X d MTo_isFloorOrNone 0 [l0, .int x] st h = Rr X d MTo_isFloorOrNone 1 [l0, .int x] (.int x :: st) h := Rr_nx d_MTo_isFloorOrNone_0 rfl
theorem r_MTo_isFloorOrNone_1 : Rr X d MTo_isFloorOrNone 1 L st h = Rr X d MTo_isFloorOrNone 3 L (.int (9) :: st) h := Rr_nx d_MTo_isFloorOrNone_1 rfl
theorem r_MTo_isFloorOrNone_3 {x y : Int32} : Rr X d MTo_isFloorOrNone 3 L (.int y :: .int x :: st) h = if x = y then Rr X d MTo_isFloorOrNone 14 L st h else Rr X d MTo_isFloorOrNone 6 L st h := R_ic_eq d_MTo_isFloorOrNone_3 (by decide)
theorem r_MTo_isFloorOrNone_6 {l1 : Value} {x : Nat} : Rr X d MTo_isFloorOrNone 6 [.ref x, l1] st h = Rr X d MTo_isFloorOrNone 7 [.ref x, l1] (.ref x :: st) h := Rr_nx d_MTo_isFloorOrNone_6 rfl
theorem r_MTo_isFloorOrNone_7 {l0 : Value} {x : Int32} : Rr X d MTo_isFloorOrNone 7 [l0, .int x] st h = Rr X d MTo_isFloorOrNone 8 [l0, .int x] (.int x :: st) h := Rr_nx d_MTo_isFloorOrNone_7 rfl
theorem fc_9_309 : fC 9 309 = some (0, 9, 1, MTo_floorAt) := rfl
theorem r_MTo_isFloorOrNone_8 {y0 : Int32} {a : Nat} (hO : qO a 9 = true) (hc : ckS st = true) : Rr X (d + 1) MTo_isFloorOrNone 8 L (.int y0 :: .ref a :: st) (Wd mu la ro et) = (Rr X d MTo_floorAt 0 [.ref a, .int y0] [] (Wd mu la ro et)).bind fun q => Rr X (d + 1) MTo_isFloorOrNone 11 L (psh q.1 st) q.2 := R_iv (av := [.int y0]) d_MTo_isFloorOrNone_8 fc_9_309 hO (ckS_le hc) rfl (Nat.le_of_ble_eq_true rfl) (Nat.le_of_ble_eq_true rfl)
theorem r_MTo_isFloorOrNone_11 {x : Nat} : Rr X d MTo_isFloorOrNone 11 L (.ref x :: st) h = Rr X d MTo_isFloorOrNone 14 L st h := R_nul1 d_MTo_isFloorOrNone_11
theorem r_MTo_isFloorOrNone_11n : Rr X d MTo_isFloorOrNone 11 L (.null :: st) h = Rr X d MTo_isFloorOrNone 18 L st h := R_nul0 d_MTo_isFloorOrNone_11 (by decide)
theorem r_MTo_isFloorOrNone_14 : Rr X d MTo_isFloorOrNone 14 L st h = Rr X d MTo_isFloorOrNone 15 L (.int (1) :: st) h := Rr_nx d_MTo_isFloorOrNone_14 rfl
theorem r_MTo_isFloorOrNone_15 : Rr X d MTo_isFloorOrNone 15 L st h = Rr X d MTo_isFloorOrNone 19 L st h := R_goto d_MTo_isFloorOrNone_15 (by decide)
theorem r_MTo_isFloorOrNone_18 : Rr X d MTo_isFloorOrNone 18 L st h = Rr X d MTo_isFloorOrNone 19 L (.int (0) :: st) h := Rr_nx d_MTo_isFloorOrNone_18 rfl
theorem r_MTo_isFloorOrNone_19 {x : Int32} : Rr X d MTo_isFloorOrNone 19 L [.int x] h = if x = 0 ∨ x = 1 then some (some (.int x), h) else none := R_zr d_MTo_isFloorOrNone_19 rfl
theorem d_MTo_floorAt_0 : decode MTo_floorAt.2.2.1 0 = .ok (.iload_n 1, 1) := lkT_ok tk_MTo_floorAt rfl
theorem d_MTo_floorAt_1 : decode MTo_floorAt.2.2.1 1 = .ok (.iconst 0, 1) := lkT_ok tk_MTo_floorAt rfl
theorem d_MTo_floorAt_2 : decode MTo_floorAt.2.2.1 2 = .ok (.aload_n 0, 1) := lkT_ok tk_MTo_floorAt rfl
theorem d_MTo_floorAt_3 : decode MTo_floorAt.2.2.1 3 = .ok (.getfield 127, 3) := lkT_ok tk_MTo_floorAt rfl
theorem d_MTo_floorAt_6 : decode MTo_floorAt.2.2.1 6 = .ok (.iconst 1, 1) := lkT_ok tk_MTo_floorAt rfl
theorem d_MTo_floorAt_7 : decode MTo_floorAt.2.2.1 7 = .ok (.isub, 1) := lkT_ok tk_MTo_floorAt rfl
theorem d_MTo_floorAt_8 : decode MTo_floorAt.2.2.1 8 = .ok (.invokestatic 72, 3) := lkT_ok tk_MTo_floorAt rfl
theorem d_MTo_floorAt_11 : decode MTo_floorAt.2.2.1 11 = .ok (.ifCond .eq 21, 3) := lkT_ok tk_MTo_floorAt rfl
theorem d_MTo_floorAt_14 : decode MTo_floorAt.2.2.1 14 = .ok (.iload_n 1, 1) := lkT_ok tk_MTo_floorAt rfl
theorem d_MTo_floorAt_15 : decode MTo_floorAt.2.2.1 15 = .ok (.aload_n 0, 1) := lkT_ok tk_MTo_floorAt rfl
theorem d_MTo_floorAt_16 : decode MTo_floorAt.2.2.1 16 = .ok (.getfield 24, 3) := lkT_ok tk_MTo_floorAt rfl
theorem d_MTo_floorAt_19 : decode MTo_floorAt.2.2.1 19 = .ok (.arraylength, 1) := lkT_ok tk_MTo_floorAt rfl
theorem d_MTo_floorAt_20 : decode MTo_floorAt.2.2.1 20 = .ok (.if_icmp .ge 12, 3) := lkT_ok tk_MTo_floorAt rfl
theorem d_MTo_floorAt_23 : decode MTo_floorAt.2.2.1 23 = .ok (.aload_n 0, 1) := lkT_ok tk_MTo_floorAt rfl
theorem d_MTo_floorAt_24 : decode MTo_floorAt.2.2.1 24 = .ok (.getfield 24, 3) := lkT_ok tk_MTo_floorAt rfl
theorem d_MTo_floorAt_27 : decode MTo_floorAt.2.2.1 27 = .ok (.iload_n 1, 1) := lkT_ok tk_MTo_floorAt rfl
theorem d_MTo_floorAt_28 : decode MTo_floorAt.2.2.1 28 = .ok (.aaload, 1) := lkT_ok tk_MTo_floorAt rfl
theorem d_MTo_floorAt_29 : decode MTo_floorAt.2.2.1 29 = .ok (.goto 4, 3) := lkT_ok tk_MTo_floorAt rfl
theorem d_MTo_floorAt_32 : decode MTo_floorAt.2.2.1 32 = .ok (.aconst_null, 1) := lkT_ok tk_MTo_floorAt rfl
theorem d_MTo_floorAt_33 : decode MTo_floorAt.2.2.1 33 = .ok (.areturn, 1) := lkT_ok tk_MTo_floorAt rfl
theorem r_MTo_floorAt_0 {l0 : Value} {x : Int32} : Rr X d MTo_floorAt 0 [l0, .int x] st h = Rr X d MTo_floorAt 1 [l0, .int x] (.int x :: st) h := Rr_nx d_MTo_floorAt_0 rfl
theorem r_MTo_floorAt_1 : Rr X d MTo_floorAt 1 L st h = Rr X d MTo_floorAt 2 L (.int (0) :: st) h := Rr_nx d_MTo_floorAt_1 rfl
theorem r_MTo_floorAt_2 {l1 : Value} {x : Nat} : Rr X d MTo_floorAt 2 [.ref x, l1] st h = Rr X d MTo_floorAt 3 [.ref x, l1] (.ref x :: st) h := Rr_nx d_MTo_floorAt_2 rfl
theorem r_MTo_floorAt_3 {a : Nat} (hq : qI a 9 10 = true) : Rr X d MTo_floorAt 3 L (.ref a :: st) (Wd mu la ro et) = Rr X d MTo_floorAt 6 L (.int (mu a 10) :: st) (Wd mu la ro et) := R_gfI d_MTo_floorAt_3 ff_9_127 hq
theorem r_MTo_floorAt_6 : Rr X d MTo_floorAt 6 L st h = Rr X d MTo_floorAt 7 L (.int (1) :: st) h := Rr_nx d_MTo_floorAt_6 rfl
theorem r_MTo_floorAt_7 {x y : Int32} : Rr X d MTo_floorAt 7 L (.int y :: .int x :: st) h = Rr X d MTo_floorAt 8 L (.int (x - y) :: st) h := Rr_nx d_MTo_floorAt_7 rfl
theorem r_MTo_floorAt_8 {y0 : Int32} {y1 : Int32} {y2 : Int32} (hc : ckS st = true) : Rr X (d + 1) MTo_floorAt 8 L (.int y2 :: .int y1 :: .int y0 :: st) h = (Rr X d MTo_isWithin 0 [.int y0, .int y1, .int y2] [] h).bind fun q => Rr X (d + 1) MTo_floorAt 11 L (psh q.1 st) q.2 := R_is (av := [.int y2, .int y1, .int y0]) d_MTo_floorAt_8 (Or.inl fc_9_72) (ckS_le hc) rfl (Nat.le_of_ble_eq_true rfl) (Nat.le_of_ble_eq_true rfl)
theorem r_MTo_floorAt_11 {x : Int32} : Rr X d MTo_floorAt 11 L (.int x :: st) h = if x = 0 then Rr X d MTo_floorAt 32 L st h else Rr X d MTo_floorAt 14 L st h := R_if_eq d_MTo_floorAt_11 (by decide)
theorem r_MTo_floorAt_14 {l0 : Value} {x : Int32} : Rr X d MTo_floorAt 14 [l0, .int x] st h = Rr X d MTo_floorAt 15 [l0, .int x] (.int x :: st) h := Rr_nx d_MTo_floorAt_14 rfl
theorem r_MTo_floorAt_15 {l1 : Value} {x : Nat} : Rr X d MTo_floorAt 15 [.ref x, l1] st h = Rr X d MTo_floorAt 16 [.ref x, l1] (.ref x :: st) h := Rr_nx d_MTo_floorAt_15 rfl
theorem r_MTo_floorAt_16 {a : Nat} (hq : (qR a 9 2).isSome = true) : Rr X d MTo_floorAt 16 L (.ref a :: st) (Wd mu la ro et) = Rr X d MTo_floorAt 19 L (.ref (qRd a 9 2) :: st) (Wd mu la ro et) := R_gfR d_MTo_floorAt_16 ff_9_24 hq
theorem r_MTo_floorAt_19 {a : Nat} (hq : (qL a).isSome = true) : Rr X d MTo_floorAt 19 L (.ref a :: st) (Wd mu la ro et) = Rr X d MTo_floorAt 20 L (.int (Int32.ofNat (qLd a)) :: st) (Wd mu la ro et) := R_lenW d_MTo_floorAt_19 hq
theorem r_MTo_floorAt_20 {x y : Int32} : Rr X d MTo_floorAt 20 L (.int y :: .int x :: st) h = if y ≤ x then Rr X d MTo_floorAt 32 L st h else Rr X d MTo_floorAt 23 L st h := R_ic_ge d_MTo_floorAt_20 (by decide)
theorem r_MTo_floorAt_23 {l1 : Value} {x : Nat} : Rr X d MTo_floorAt 23 [.ref x, l1] st h = Rr X d MTo_floorAt 24 [.ref x, l1] (.ref x :: st) h := Rr_nx d_MTo_floorAt_23 rfl
theorem r_MTo_floorAt_24 {a : Nat} (hq : (qR a 9 2).isSome = true) : Rr X d MTo_floorAt 24 L (.ref a :: st) (Wd mu la ro et) = Rr X d MTo_floorAt 27 L (.ref (qRd a 9 2) :: st) (Wd mu la ro et) := R_gfR d_MTo_floorAt_24 ff_9_24 hq
theorem r_MTo_floorAt_27 {l0 : Value} {x : Int32} : Rr X d MTo_floorAt 27 [l0, .int x] st h = Rr X d MTo_floorAt 28 [l0, .int x] (.int x :: st) h := Rr_nx d_MTo_floorAt_27 rfl
theorem r_MTo_floorAt_28 {a : Nat} {j : Int32} (hq : (qQ a).isSome = true) : Rr X d MTo_floorAt 28 L (.int j :: .ref a :: st) (Wd mu la ro et) = if j < 0 ∨ qQd a ≤ j.toNatClampNeg then none else Rr X d MTo_floorAt 29 L (va_rf (ro a j.toNatClampNeg) :: st) (Wd mu la ro et) := R_aalW d_MTo_floorAt_28 hq
theorem r_MTo_floorAt_29 : Rr X d MTo_floorAt 29 L st h = Rr X d MTo_floorAt 33 L st h := R_goto d_MTo_floorAt_29 (by decide)
theorem r_MTo_floorAt_32 : Rr X d MTo_floorAt 32 L st h = Rr X d MTo_floorAt 33 L (.null :: st) h := Rr_nx d_MTo_floorAt_32 rfl
theorem r_MTo_floorAt_33 {x : Nat} : Rr X d MTo_floorAt 33 L [.ref x] h = some (some (.ref x), h) := Rr_rt d_MTo_floorAt_33 rfl
theorem r_MTo_floorAt_33n : Rr X d MTo_floorAt 33 L [.null] h = some (some .null, h) := Rr_rt d_MTo_floorAt_33 rfl
theorem d_MTo_isStart_0 : decode MTo_isStart.2.2.1 0 = .ok (.iload_n 0, 1) := lkT_ok tk_MTo_isStart rfl
theorem d_MTo_isStart_1 : decode MTo_isStart.2.2.1 1 = .ok (.sipush (-999), 3) := lkT_ok tk_MTo_isStart rfl
theorem d_MTo_isStart_4 : decode MTo_isStart.2.2.1 4 = .ok (.sipush 999, 3) := lkT_ok tk_MTo_isStart rfl
theorem d_MTo_isStart_7 : decode MTo_isStart.2.2.1 7 = .ok (.invokestatic 72, 3) := lkT_ok tk_MTo_isStart rfl
theorem d_MTo_isStart_10 : decode MTo_isStart.2.2.1 10 = .ok (.ifCond .eq 18, 3) := lkT_ok tk_MTo_isStart rfl
theorem d_MTo_isStart_13 : decode MTo_isStart.2.2.1 13 = .ok (.iload_n 1, 1) := lkT_ok tk_MTo_isStart rfl
theorem d_MTo_isStart_14 : decode MTo_isStart.2.2.1 14 = .ok (.iconst 0, 1) := lkT_ok tk_MTo_isStart rfl
theorem d_MTo_isStart_15 : decode MTo_isStart.2.2.1 15 = .ok (.ldc_w 307, 3) := lkT_ok tk_MTo_isStart rfl
theorem d_MTo_isStart_18 : decode MTo_isStart.2.2.1 18 = .ok (.invokestatic 72, 3) := lkT_ok tk_MTo_isStart rfl
theorem d_MTo_isStart_21 : decode MTo_isStart.2.2.1 21 = .ok (.ifCond .eq 7, 3) := lkT_ok tk_MTo_isStart rfl
theorem d_MTo_isStart_24 : decode MTo_isStart.2.2.1 24 = .ok (.iconst 1, 1) := lkT_ok tk_MTo_isStart rfl
theorem d_MTo_isStart_25 : decode MTo_isStart.2.2.1 25 = .ok (.goto 4, 3) := lkT_ok tk_MTo_isStart rfl
theorem d_MTo_isStart_28 : decode MTo_isStart.2.2.1 28 = .ok (.iconst 0, 1) := lkT_ok tk_MTo_isStart rfl
theorem d_MTo_isStart_29 : decode MTo_isStart.2.2.1 29 = .ok (.ireturn, 1) := lkT_ok tk_MTo_isStart rfl
theorem r_MTo_isStart_0 {l1 : Value} {x : Int32} : Rr X d MTo_isStart 0 [.int x, l1] st h = Rr X d MTo_isStart 1 [.int x, l1] (.int x :: st) h := Rr_nx d_MTo_isStart_0 rfl
theorem r_MTo_isStart_1 : Rr X d MTo_isStart 1 L st h = Rr X d MTo_isStart 4 L (.int (-999) :: st) h := Rr_nx d_MTo_isStart_1 rfl
theorem r_MTo_isStart_4 : Rr X d MTo_isStart 4 L st h = Rr X d MTo_isStart 7 L (.int (999) :: st) h := Rr_nx d_MTo_isStart_4 rfl
theorem r_MTo_isStart_7 {y0 : Int32} {y1 : Int32} {y2 : Int32} (hc : ckS st = true) : Rr X (d + 1) MTo_isStart 7 L (.int y2 :: .int y1 :: .int y0 :: st) h = (Rr X d MTo_isWithin 0 [.int y0, .int y1, .int y2] [] h).bind fun q => Rr X (d + 1) MTo_isStart 10 L (psh q.1 st) q.2 := R_is (av := [.int y2, .int y1, .int y0]) d_MTo_isStart_7 (Or.inl fc_9_72) (ckS_le hc) rfl (Nat.le_of_ble_eq_true rfl) (Nat.le_of_ble_eq_true rfl)
theorem r_MTo_isStart_10 {x : Int32} : Rr X d MTo_isStart 10 L (.int x :: st) h = if x = 0 then Rr X d MTo_isStart 28 L st h else Rr X d MTo_isStart 13 L st h := R_if_eq d_MTo_isStart_10 (by decide)
theorem r_MTo_isStart_13 {l0 : Value} {x : Int32} : Rr X d MTo_isStart 13 [l0, .int x] st h = Rr X d MTo_isStart 14 [l0, .int x] (.int x :: st) h := Rr_nx d_MTo_isStart_13 rfl
theorem r_MTo_isStart_14 : Rr X d MTo_isStart 14 L st h = Rr X d MTo_isStart 15 L (.int (0) :: st) h := Rr_nx d_MTo_isStart_14 rfl
theorem r_MTo_isStart_15 : Rr X d MTo_isStart 15 L st h = Rr X d MTo_isStart 18 L (.int (999999) :: st) h := Rr_nx d_MTo_isStart_15 rfl
theorem r_MTo_isStart_18 {y0 : Int32} {y1 : Int32} {y2 : Int32} (hc : ckS st = true) : Rr X (d + 1) MTo_isStart 18 L (.int y2 :: .int y1 :: .int y0 :: st) h = (Rr X d MTo_isWithin 0 [.int y0, .int y1, .int y2] [] h).bind fun q => Rr X (d + 1) MTo_isStart 21 L (psh q.1 st) q.2 := R_is (av := [.int y2, .int y1, .int y0]) d_MTo_isStart_18 (Or.inl fc_9_72) (ckS_le hc) rfl (Nat.le_of_ble_eq_true rfl) (Nat.le_of_ble_eq_true rfl)
theorem r_MTo_isStart_21 {x : Int32} : Rr X d MTo_isStart 21 L (.int x :: st) h = if x = 0 then Rr X d MTo_isStart 28 L st h else Rr X d MTo_isStart 24 L st h := R_if_eq d_MTo_isStart_21 (by decide)
theorem r_MTo_isStart_24 : Rr X d MTo_isStart 24 L st h = Rr X d MTo_isStart 25 L (.int (1) :: st) h := Rr_nx d_MTo_isStart_24 rfl
theorem r_MTo_isStart_25 : Rr X d MTo_isStart 25 L st h = Rr X d MTo_isStart 29 L st h := R_goto d_MTo_isStart_25 (by decide)
theorem r_MTo_isStart_28 : Rr X d MTo_isStart 28 L st h = Rr X d MTo_isStart 29 L (.int (0) :: st) h := Rr_nx d_MTo_isStart_28 rfl
theorem r_MTo_isStart_29 {x : Int32} : Rr X d MTo_isStart 29 L [.int x] h = if x = 0 ∨ x = 1 then some (some (.int x), h) else none := R_zr d_MTo_isStart_29 rfl
theorem d_MTo_lay_0 : decode MTo_lay.2.2.1 0 = .ok (.aload_n 0, 1) := lkT_ok tk_MTo_lay rfl
theorem d_MTo_lay_1 : decode MTo_lay.2.2.1 1 = .ok (.iload_n 1, 1) := lkT_ok tk_MTo_lay rfl
theorem d_MTo_lay_2 : decode MTo_lay.2.2.1 2 = .ok (.bipush 10, 2) := lkT_ok tk_MTo_lay rfl
theorem d_MTo_lay_4 : decode MTo_lay.2.2.1 4 = .ok (.idiv, 1) := lkT_ok tk_MTo_lay rfl
theorem d_MTo_lay_5 : decode MTo_lay.2.2.1 5 = .ok (.invokevirtual 100, 3) := lkT_ok tk_MTo_lay rfl
theorem d_MTo_lay_8 : decode MTo_lay.2.2.1 8 = .ok (.astore_n 3, 1) := lkT_ok tk_MTo_lay rfl
theorem d_MTo_lay_9 : decode MTo_lay.2.2.1 9 = .ok (.aload_n 3, 1) := lkT_ok tk_MTo_lay rfl
theorem d_MTo_lay_10 : decode MTo_lay.2.2.1 10 = .ok (.ifnull 20, 3) := lkT_ok tk_MTo_lay rfl
theorem d_MTo_lay_13 : decode MTo_lay.2.2.1 13 = .ok (.aload_n 0, 1) := lkT_ok tk_MTo_lay rfl
theorem d_MTo_lay_14 : decode MTo_lay.2.2.1 14 = .ok (.getfield 37, 3) := lkT_ok tk_MTo_lay rfl
theorem d_MTo_lay_17 : decode MTo_lay.2.2.1 17 = .ok (.aload_n 3, 1) := lkT_ok tk_MTo_lay rfl
theorem d_MTo_lay_18 : decode MTo_lay.2.2.1 18 = .ok (.iload_n 2, 1) := lkT_ok tk_MTo_lay rfl
theorem d_MTo_lay_19 : decode MTo_lay.2.2.1 19 = .ok (.aload_n 0, 1) := lkT_ok tk_MTo_lay rfl
theorem d_MTo_lay_20 : decode MTo_lay.2.2.1 20 = .ok (.iload_n 1, 1) := lkT_ok tk_MTo_lay rfl
theorem d_MTo_lay_21 : decode MTo_lay.2.2.1 21 = .ok (.bipush 10, 2) := lkT_ok tk_MTo_lay rfl
theorem d_MTo_lay_23 : decode MTo_lay.2.2.1 23 = .ok (.irem, 1) := lkT_ok tk_MTo_lay rfl
theorem d_MTo_lay_24 : decode MTo_lay.2.2.1 24 = .ok (.invokevirtual 309, 3) := lkT_ok tk_MTo_lay rfl
theorem d_MTo_lay_27 : decode MTo_lay.2.2.1 27 = .ok (.invokevirtual 174, 3) := lkT_ok tk_MTo_lay rfl
theorem d_MTo_lay_30 : decode MTo_lay.2.2.1 30 = .ok (.return_, 1) := lkT_ok tk_MTo_lay rfl
theorem r_MTo_lay_0 {l1 l2 l3 : Value} {x : Nat} : Rr X d MTo_lay 0 [.ref x, l1, l2, l3] st h = Rr X d MTo_lay 1 [.ref x, l1, l2, l3] (.ref x :: st) h := Rr_nx d_MTo_lay_0 rfl
theorem r_MTo_lay_1 {l0 l2 l3 : Value} {x : Int32} : Rr X d MTo_lay 1 [l0, .int x, l2, l3] st h = Rr X d MTo_lay 2 [l0, .int x, l2, l3] (.int x :: st) h := Rr_nx d_MTo_lay_1 rfl
theorem r_MTo_lay_2 : Rr X d MTo_lay 2 L st h = Rr X d MTo_lay 4 L (.int (10) :: st) h := Rr_nx d_MTo_lay_2 rfl
theorem r_MTo_lay_4 {x y : Int32} : Rr X d MTo_lay 4 L (.int y :: .int x :: st) h = if y = 0 then none else Rr X d MTo_lay 5 L (.int (x / y) :: st) h := R_dv d_MTo_lay_4
theorem r_MTo_lay_5 {y0 : Int32} {a : Nat} (hO : qO a 9 = true) (hc : ckS st = true) : Rr X (d + 1) MTo_lay 5 L (.int y0 :: .ref a :: st) (Wd mu la ro et) = (Rr X d MTo_stoneAt 0 [.ref a, .int y0] [] (Wd mu la ro et)).bind fun q => Rr X (d + 1) MTo_lay 8 L (psh q.1 st) q.2 := R_iv (av := [.int y0]) d_MTo_lay_5 fc_9_100 hO (ckS_le hc) rfl (Nat.le_of_ble_eq_true rfl) (Nat.le_of_ble_eq_true rfl)
theorem r_MTo_lay_8 {l0 l1 l2 l3 : Value} {x : Nat} : Rr X d MTo_lay 8 [l0, l1, l2, l3] (.ref x :: st) h = Rr X d MTo_lay 9 (sL [l0, l1, l2, l3] 3 (.ref x)) st h := Rr_nx d_MTo_lay_8 rfl
theorem r_MTo_lay_8n {l0 l1 l2 l3 : Value} : Rr X d MTo_lay 8 [l0, l1, l2, l3] (.null :: st) h = Rr X d MTo_lay 9 (sL [l0, l1, l2, l3] 3 .null) st h := Rr_nx d_MTo_lay_8 rfl
theorem r_MTo_lay_9 {l0 l1 l2 : Value} {x : Nat} : Rr X d MTo_lay 9 [l0, l1, l2, .ref x] st h = Rr X d MTo_lay 10 [l0, l1, l2, .ref x] (.ref x :: st) h := Rr_nx d_MTo_lay_9 rfl
theorem r_MTo_lay_9n {l0 l1 l2 : Value} : Rr X d MTo_lay 9 [l0, l1, l2, .null] st h = Rr X d MTo_lay 10 [l0, l1, l2, .null] (.null :: st) h := Rr_nx d_MTo_lay_9 rfl
theorem r_MTo_lay_10 {x : Nat} : Rr X d MTo_lay 10 L (.ref x :: st) h = Rr X d MTo_lay 13 L st h := R_nul1 d_MTo_lay_10
theorem r_MTo_lay_10n : Rr X d MTo_lay 10 L (.null :: st) h = Rr X d MTo_lay 30 L st h := R_nul0 d_MTo_lay_10 (by decide)
theorem r_MTo_lay_13 {l1 l2 l3 : Value} {x : Nat} : Rr X d MTo_lay 13 [.ref x, l1, l2, l3] st h = Rr X d MTo_lay 14 [.ref x, l1, l2, l3] (.ref x :: st) h := Rr_nx d_MTo_lay_13 rfl
theorem ff_9_37 : fF 9 37 = some (9, 4, 1, 1) := rfl
theorem r_MTo_lay_14 {a : Nat} (hq : (qR a 9 4).isSome = true) : Rr X d MTo_lay 14 L (.ref a :: st) (Wd mu la ro et) = Rr X d MTo_lay 17 L (.ref (qRd a 9 4) :: st) (Wd mu la ro et) := R_gfR d_MTo_lay_14 ff_9_37 hq
theorem r_MTo_lay_17 {l0 l1 l2 : Value} {x : Nat} : Rr X d MTo_lay 17 [l0, l1, l2, .ref x] st h = Rr X d MTo_lay 18 [l0, l1, l2, .ref x] (.ref x :: st) h := Rr_nx d_MTo_lay_17 rfl
theorem r_MTo_lay_17n {l0 l1 l2 : Value} : Rr X d MTo_lay 17 [l0, l1, l2, .null] st h = Rr X d MTo_lay 18 [l0, l1, l2, .null] (.null :: st) h := Rr_nx d_MTo_lay_17 rfl
theorem r_MTo_lay_18 {l0 l1 l3 : Value} {x : Int32} : Rr X d MTo_lay 18 [l0, l1, .int x, l3] st h = Rr X d MTo_lay 19 [l0, l1, .int x, l3] (.int x :: st) h := Rr_nx d_MTo_lay_18 rfl
theorem r_MTo_lay_19 {l1 l2 l3 : Value} {x : Nat} : Rr X d MTo_lay 19 [.ref x, l1, l2, l3] st h = Rr X d MTo_lay 20 [.ref x, l1, l2, l3] (.ref x :: st) h := Rr_nx d_MTo_lay_19 rfl
theorem r_MTo_lay_20 {l0 l2 l3 : Value} {x : Int32} : Rr X d MTo_lay 20 [l0, .int x, l2, l3] st h = Rr X d MTo_lay 21 [l0, .int x, l2, l3] (.int x :: st) h := Rr_nx d_MTo_lay_20 rfl
theorem r_MTo_lay_21 : Rr X d MTo_lay 21 L st h = Rr X d MTo_lay 23 L (.int (10) :: st) h := Rr_nx d_MTo_lay_21 rfl
theorem r_MTo_lay_23 {x y : Int32} : Rr X d MTo_lay 23 L (.int y :: .int x :: st) h = if y = 0 then none else Rr X d MTo_lay 24 L (.int (x - x / y * y) :: st) h := R_rm d_MTo_lay_23
theorem r_MTo_lay_24 {y0 : Int32} {a : Nat} (hO : qO a 9 = true) (hc : ckS st = true) : Rr X (d + 1) MTo_lay 24 L (.int y0 :: .ref a :: st) (Wd mu la ro et) = (Rr X d MTo_floorAt 0 [.ref a, .int y0] [] (Wd mu la ro et)).bind fun q => Rr X (d + 1) MTo_lay 27 L (psh q.1 st) q.2 := R_iv (av := [.int y0]) d_MTo_lay_24 fc_9_309 hO (ckS_le hc) rfl (Nat.le_of_ble_eq_true rfl) (Nat.le_of_ble_eq_true rfl)
theorem fc_9_174 : fC 9 174 = some (0, 5, 3, MMo_rule) := rfl
theorem r_MTo_lay_27 {y0 : Nat} {y1 : Int32} {y2 : Nat} {a : Nat} (hO : qO a 5 = true) (hc : ckS st = true) : Rr X (d + 1) MTo_lay 27 L (.ref y2 :: .int y1 :: .ref y0 :: .ref a :: st) (Wd mu la ro et) = (Rr X d MMo_rule 0 [.ref a, .ref y0, .int y1, .ref y2] [] (Wd mu la ro et)).bind fun q => Rr X (d + 1) MTo_lay 30 L (psh q.1 st) q.2 := R_iv (av := [.ref y2, .int y1, .ref y0]) d_MTo_lay_27 fc_9_174 hO (ckS_le hc) rfl (Nat.le_of_ble_eq_true rfl) (Nat.le_of_ble_eq_true rfl)
theorem r_MTo_lay_30 : Rr X d MTo_lay 30 L [] h = some (none, h) := Rr_rt d_MTo_lay_30 rfl
theorem d_MTo_layOwn_0 : decode MTo_layOwn.2.2.1 0 = .ok (.aload_n 0, 1) := lkT_ok tk_MTo_layOwn rfl
theorem d_MTo_layOwn_1 : decode MTo_layOwn.2.2.1 1 = .ok (.iload_n 1, 1) := lkT_ok tk_MTo_layOwn rfl
theorem d_MTo_layOwn_2 : decode MTo_layOwn.2.2.1 2 = .ok (.bipush 10, 2) := lkT_ok tk_MTo_layOwn rfl
theorem d_MTo_layOwn_4 : decode MTo_layOwn.2.2.1 4 = .ok (.idiv, 1) := lkT_ok tk_MTo_layOwn rfl
theorem d_MTo_layOwn_5 : decode MTo_layOwn.2.2.1 5 = .ok (.invokevirtual 100, 3) := lkT_ok tk_MTo_layOwn rfl
theorem d_MTo_layOwn_8 : decode MTo_layOwn.2.2.1 8 = .ok (.astore_n 2, 1) := lkT_ok tk_MTo_layOwn rfl
theorem d_MTo_layOwn_9 : decode MTo_layOwn.2.2.1 9 = .ok (.aload_n 2, 1) := lkT_ok tk_MTo_layOwn rfl
theorem d_MTo_layOwn_10 : decode MTo_layOwn.2.2.1 10 = .ok (.ifnull 12, 3) := lkT_ok tk_MTo_layOwn rfl
theorem d_MTo_layOwn_13 : decode MTo_layOwn.2.2.1 13 = .ok (.aload_n 0, 1) := lkT_ok tk_MTo_layOwn rfl
theorem d_MTo_layOwn_14 : decode MTo_layOwn.2.2.1 14 = .ok (.iload_n 1, 1) := lkT_ok tk_MTo_layOwn rfl
theorem d_MTo_layOwn_15 : decode MTo_layOwn.2.2.1 15 = .ok (.aload_n 2, 1) := lkT_ok tk_MTo_layOwn rfl
theorem d_MTo_layOwn_16 : decode MTo_layOwn.2.2.1 16 = .ok (.invokevirtual 131, 3) := lkT_ok tk_MTo_layOwn rfl
theorem d_MTo_layOwn_19 : decode MTo_layOwn.2.2.1 19 = .ok (.invokevirtual 197, 3) := lkT_ok tk_MTo_layOwn rfl
theorem d_MTo_layOwn_22 : decode MTo_layOwn.2.2.1 22 = .ok (.return_, 1) := lkT_ok tk_MTo_layOwn rfl
theorem r_MTo_layOwn_0 {l1 l2 : Value} {x : Nat} : Rr X d MTo_layOwn 0 [.ref x, l1, l2] st h = Rr X d MTo_layOwn 1 [.ref x, l1, l2] (.ref x :: st) h := Rr_nx d_MTo_layOwn_0 rfl
theorem r_MTo_layOwn_1 {l0 l2 : Value} {x : Int32} : Rr X d MTo_layOwn 1 [l0, .int x, l2] st h = Rr X d MTo_layOwn 2 [l0, .int x, l2] (.int x :: st) h := Rr_nx d_MTo_layOwn_1 rfl
theorem r_MTo_layOwn_2 : Rr X d MTo_layOwn 2 L st h = Rr X d MTo_layOwn 4 L (.int (10) :: st) h := Rr_nx d_MTo_layOwn_2 rfl
theorem r_MTo_layOwn_4 {x y : Int32} : Rr X d MTo_layOwn 4 L (.int y :: .int x :: st) h = if y = 0 then none else Rr X d MTo_layOwn 5 L (.int (x / y) :: st) h := R_dv d_MTo_layOwn_4
theorem r_MTo_layOwn_5 {y0 : Int32} {a : Nat} (hO : qO a 9 = true) (hc : ckS st = true) : Rr X (d + 1) MTo_layOwn 5 L (.int y0 :: .ref a :: st) (Wd mu la ro et) = (Rr X d MTo_stoneAt 0 [.ref a, .int y0] [] (Wd mu la ro et)).bind fun q => Rr X (d + 1) MTo_layOwn 8 L (psh q.1 st) q.2 := R_iv (av := [.int y0]) d_MTo_layOwn_5 fc_9_100 hO (ckS_le hc) rfl (Nat.le_of_ble_eq_true rfl) (Nat.le_of_ble_eq_true rfl)
theorem r_MTo_layOwn_8 {l0 l1 l2 : Value} {x : Nat} : Rr X d MTo_layOwn 8 [l0, l1, l2] (.ref x :: st) h = Rr X d MTo_layOwn 9 (sL [l0, l1, l2] 2 (.ref x)) st h := Rr_nx d_MTo_layOwn_8 rfl
theorem r_MTo_layOwn_8n {l0 l1 l2 : Value} : Rr X d MTo_layOwn 8 [l0, l1, l2] (.null :: st) h = Rr X d MTo_layOwn 9 (sL [l0, l1, l2] 2 .null) st h := Rr_nx d_MTo_layOwn_8 rfl
theorem r_MTo_layOwn_9 {l0 l1 : Value} {x : Nat} : Rr X d MTo_layOwn 9 [l0, l1, .ref x] st h = Rr X d MTo_layOwn 10 [l0, l1, .ref x] (.ref x :: st) h := Rr_nx d_MTo_layOwn_9 rfl
theorem r_MTo_layOwn_9n {l0 l1 : Value} : Rr X d MTo_layOwn 9 [l0, l1, .null] st h = Rr X d MTo_layOwn 10 [l0, l1, .null] (.null :: st) h := Rr_nx d_MTo_layOwn_9 rfl
theorem r_MTo_layOwn_10 {x : Nat} : Rr X d MTo_layOwn 10 L (.ref x :: st) h = Rr X d MTo_layOwn 13 L st h := R_nul1 d_MTo_layOwn_10
theorem r_MTo_layOwn_10n : Rr X d MTo_layOwn 10 L (.null :: st) h = Rr X d MTo_layOwn 22 L st h := R_nul0 d_MTo_layOwn_10 (by decide)
theorem r_MTo_layOwn_13 {l1 l2 : Value} {x : Nat} : Rr X d MTo_layOwn 13 [.ref x, l1, l2] st h = Rr X d MTo_layOwn 14 [.ref x, l1, l2] (.ref x :: st) h := Rr_nx d_MTo_layOwn_13 rfl
theorem r_MTo_layOwn_14 {l0 l2 : Value} {x : Int32} : Rr X d MTo_layOwn 14 [l0, .int x, l2] st h = Rr X d MTo_layOwn 15 [l0, .int x, l2] (.int x :: st) h := Rr_nx d_MTo_layOwn_14 rfl
theorem r_MTo_layOwn_15 {l0 l1 : Value} {x : Nat} : Rr X d MTo_layOwn 15 [l0, l1, .ref x] st h = Rr X d MTo_layOwn 16 [l0, l1, .ref x] (.ref x :: st) h := Rr_nx d_MTo_layOwn_15 rfl
theorem r_MTo_layOwn_15n {l0 l1 : Value} : Rr X d MTo_layOwn 15 [l0, l1, .null] st h = Rr X d MTo_layOwn 16 [l0, l1, .null] (.null :: st) h := Rr_nx d_MTo_layOwn_15 rfl
theorem r_MTo_layOwn_16 {a : Nat} (hO : qO a 7 = true) (hc : ckS st = true) : Rr X (d + 1) MTo_layOwn 16 L (.ref a :: st) (Wd mu la ro et) = (Rr X d MSt_keen 0 [.ref a] [] (Wd mu la ro et)).bind fun q => Rr X (d + 1) MTo_layOwn 19 L (psh q.1 st) q.2 := R_iv (av := []) d_MTo_layOwn_16 fc_9_131 hO (ckS_le hc) rfl (Nat.le_of_ble_eq_true rfl) (Nat.le_of_ble_eq_true rfl)
theorem fc_9_197 : fC 9 197 = some (0, 9, 2, MTo_lay) := rfl
theorem r_MTo_layOwn_19 {y0 : Int32} {y1 : Int32} {a : Nat} (hO : qO a 9 = true) (hc : ckS st = true) : Rr X (d + 1) MTo_layOwn 19 L (.int y1 :: .int y0 :: .ref a :: st) (Wd mu la ro et) = (Rr X d MTo_lay 0 [.ref a, .int y0, .int y1, mkU] [] (Wd mu la ro et)).bind fun q => Rr X (d + 1) MTo_layOwn 22 L (psh q.1 st) q.2 := R_iv (av := [.int y1, .int y0]) d_MTo_layOwn_19 fc_9_197 hO (ckS_le hc) rfl (Nat.le_of_ble_eq_true rfl) (Nat.le_of_ble_eq_true rfl)
theorem r_MTo_layOwn_22 : Rr X d MTo_layOwn 22 L [] h = some (none, h) := Rr_rt d_MTo_layOwn_22 rfl
theorem d_MTo_start_0 : decode MTo_start.2.2.1 0 = .ok (.aload_n 0, 1) := lkT_ok tk_MTo_start rfl
theorem d_MTo_start_1 : decode MTo_start.2.2.1 1 = .ok (.getfield 37, 3) := lkT_ok tk_MTo_start rfl
theorem d_MTo_start_4 : decode MTo_start.2.2.1 4 = .ok (.iload_n 1, 1) := lkT_ok tk_MTo_start rfl
theorem d_MTo_start_5 : decode MTo_start.2.2.1 5 = .ok (.iload_n 2, 1) := lkT_ok tk_MTo_start rfl
theorem d_MTo_start_6 : decode MTo_start.2.2.1 6 = .ok (.sipush 1000, 3) := lkT_ok tk_MTo_start rfl
theorem d_MTo_start_9 : decode MTo_start.2.2.1 9 = .ok (.idiv, 1) := lkT_ok tk_MTo_start rfl
theorem d_MTo_start_10 : decode MTo_start.2.2.1 10 = .ok (.iload_n 2, 1) := lkT_ok tk_MTo_start rfl
theorem d_MTo_start_11 : decode MTo_start.2.2.1 11 = .ok (.sipush 1000, 3) := lkT_ok tk_MTo_start rfl
theorem d_MTo_start_14 : decode MTo_start.2.2.1 14 = .ok (.irem, 1) := lkT_ok tk_MTo_start rfl
theorem d_MTo_start_15 : decode MTo_start.2.2.1 15 = .ok (.iconst 0, 1) := lkT_ok tk_MTo_start rfl
theorem d_MTo_start_16 : decode MTo_start.2.2.1 16 = .ok (.invokevirtual 313, 3) := lkT_ok tk_MTo_start rfl
theorem d_MTo_start_19 : decode MTo_start.2.2.1 19 = .ok (.return_, 1) := lkT_ok tk_MTo_start rfl
theorem r_MTo_start_0 {l1 l2 : Value} {x : Nat} : Rr X d MTo_start 0 [.ref x, l1, l2] st h = Rr X d MTo_start 1 [.ref x, l1, l2] (.ref x :: st) h := Rr_nx d_MTo_start_0 rfl
theorem r_MTo_start_1 {a : Nat} (hq : (qR a 9 4).isSome = true) : Rr X d MTo_start 1 L (.ref a :: st) (Wd mu la ro et) = Rr X d MTo_start 4 L (.ref (qRd a 9 4) :: st) (Wd mu la ro et) := R_gfR d_MTo_start_1 ff_9_37 hq
theorem r_MTo_start_4 {l0 l2 : Value} {x : Int32} : Rr X d MTo_start 4 [l0, .int x, l2] st h = Rr X d MTo_start 5 [l0, .int x, l2] (.int x :: st) h := Rr_nx d_MTo_start_4 rfl
theorem r_MTo_start_5 {l0 l1 : Value} {x : Int32} : Rr X d MTo_start 5 [l0, l1, .int x] st h = Rr X d MTo_start 6 [l0, l1, .int x] (.int x :: st) h := Rr_nx d_MTo_start_5 rfl
theorem r_MTo_start_6 : Rr X d MTo_start 6 L st h = Rr X d MTo_start 9 L (.int (1000) :: st) h := Rr_nx d_MTo_start_6 rfl
theorem r_MTo_start_9 {x y : Int32} : Rr X d MTo_start 9 L (.int y :: .int x :: st) h = if y = 0 then none else Rr X d MTo_start 10 L (.int (x / y) :: st) h := R_dv d_MTo_start_9
theorem r_MTo_start_10 {l0 l1 : Value} {x : Int32} : Rr X d MTo_start 10 [l0, l1, .int x] st h = Rr X d MTo_start 11 [l0, l1, .int x] (.int x :: st) h := Rr_nx d_MTo_start_10 rfl
theorem r_MTo_start_11 : Rr X d MTo_start 11 L st h = Rr X d MTo_start 14 L (.int (1000) :: st) h := Rr_nx d_MTo_start_11 rfl
theorem r_MTo_start_14 {x y : Int32} : Rr X d MTo_start 14 L (.int y :: .int x :: st) h = if y = 0 then none else Rr X d MTo_start 15 L (.int (x - x / y * y) :: st) h := R_rm d_MTo_start_14
theorem r_MTo_start_15 : Rr X d MTo_start 15 L st h = Rr X d MTo_start 16 L (.int (0) :: st) h := Rr_nx d_MTo_start_15 rfl
theorem fc_9_313 : fC 9 313 = some (0, 5, 4, MMo_start) := rfl
theorem r_MTo_start_16 {y0 : Int32} {y1 : Int32} {y2 : Int32} {y3 : Int32} {a : Nat} (hO : qO a 5 = true) (hc : ckS st = true) : Rr X (d + 1) MTo_start 16 L (.int y3 :: .int y2 :: .int y1 :: .int y0 :: .ref a :: st) (Wd mu la ro et) = (Rr X d MMo_start 0 [.ref a, .int y0, .int y1, .int y2, .int y3] [] (Wd mu la ro et)).bind fun q => Rr X (d + 1) MTo_start 19 L (psh q.1 st) q.2 := R_iv (av := [.int y3, .int y2, .int y1, .int y0]) d_MTo_start_16 fc_9_313 hO (ckS_le hc) rfl (Nat.le_of_ble_eq_true rfl) (Nat.le_of_ble_eq_true rfl)
theorem r_MTo_start_19 : Rr X d MTo_start 19 L [] h = some (none, h) := Rr_rt d_MTo_start_19 rfl
theorem d_MTo_roll_0 : decode MTo_roll.2.2.1 0 = .ok (.aload_n 0, 1) := lkT_ok tk_MTo_roll rfl
theorem d_MTo_roll_1 : decode MTo_roll.2.2.1 1 = .ok (.iload_n 1, 1) := lkT_ok tk_MTo_roll rfl
theorem d_MTo_roll_2 : decode MTo_roll.2.2.1 2 = .ok (.invokevirtual 135, 3) := lkT_ok tk_MTo_roll rfl
theorem d_MTo_roll_5 : decode MTo_roll.2.2.1 5 = .ok (.ifCond .eq 23, 3) := lkT_ok tk_MTo_roll rfl
theorem d_MTo_roll_8 : decode MTo_roll.2.2.1 8 = .ok (.iload_n 2, 1) := lkT_ok tk_MTo_roll rfl
theorem d_MTo_roll_9 : decode MTo_roll.2.2.1 9 = .ok (.iload_n 3, 1) := lkT_ok tk_MTo_roll rfl
theorem d_MTo_roll_10 : decode MTo_roll.2.2.1 10 = .ok (.invokestatic 139, 3) := lkT_ok tk_MTo_roll rfl
theorem d_MTo_roll_13 : decode MTo_roll.2.2.1 13 = .ok (.ifCond .eq 15, 3) := lkT_ok tk_MTo_roll rfl
theorem d_MTo_roll_16 : decode MTo_roll.2.2.1 16 = .ok (.iload 4, 2) := lkT_ok tk_MTo_roll rfl
theorem d_MTo_roll_18 : decode MTo_roll.2.2.1 18 = .ok (.iconst 0, 1) := lkT_ok tk_MTo_roll rfl
theorem d_MTo_roll_19 : decode MTo_roll.2.2.1 19 = .ok (.sipush 400, 3) := lkT_ok tk_MTo_roll rfl
theorem d_MTo_roll_22 : decode MTo_roll.2.2.1 22 = .ok (.invokestatic 72, 3) := lkT_ok tk_MTo_roll rfl
theorem d_MTo_roll_25 : decode MTo_roll.2.2.1 25 = .ok (.ifCond .ne 6, 3) := lkT_ok tk_MTo_roll rfl
theorem d_MTo_roll_28 : decode MTo_roll.2.2.1 28 = .ok (.ldc 104, 2) := lkT_ok tk_MTo_roll rfl
theorem d_MTo_roll_30 : decode MTo_roll.2.2.1 30 = .ok (.ireturn, 1) := lkT_ok tk_MTo_roll rfl
theorem d_MTo_roll_31 : decode MTo_roll.2.2.1 31 = .ok (.aload_n 0, 1) := lkT_ok tk_MTo_roll rfl
theorem d_MTo_roll_32 : decode MTo_roll.2.2.1 32 = .ok (.iload_n 1, 1) := lkT_ok tk_MTo_roll rfl
theorem d_MTo_roll_33 : decode MTo_roll.2.2.1 33 = .ok (.invokevirtual 142, 3) := lkT_ok tk_MTo_roll rfl
theorem d_MTo_roll_36 : decode MTo_roll.2.2.1 36 = .ok (.aload_n 0, 1) := lkT_ok tk_MTo_roll rfl
theorem d_MTo_roll_37 : decode MTo_roll.2.2.1 37 = .ok (.iload_n 2, 1) := lkT_ok tk_MTo_roll rfl
theorem d_MTo_roll_38 : decode MTo_roll.2.2.1 38 = .ok (.iload_n 3, 1) := lkT_ok tk_MTo_roll rfl
theorem d_MTo_roll_39 : decode MTo_roll.2.2.1 39 = .ok (.invokevirtual 145, 3) := lkT_ok tk_MTo_roll rfl
theorem d_MTo_roll_42 : decode MTo_roll.2.2.1 42 = .ok (.aload_n 0, 1) := lkT_ok tk_MTo_roll rfl
theorem d_MTo_roll_43 : decode MTo_roll.2.2.1 43 = .ok (.getfield 44, 3) := lkT_ok tk_MTo_roll rfl
theorem d_MTo_roll_46 : decode MTo_roll.2.2.1 46 = .ok (.aload_n 0, 1) := lkT_ok tk_MTo_roll rfl
theorem d_MTo_roll_47 : decode MTo_roll.2.2.1 47 = .ok (.getfield 37, 3) := lkT_ok tk_MTo_roll rfl
theorem d_MTo_roll_50 : decode MTo_roll.2.2.1 50 = .ok (.iload 4, 2) := lkT_ok tk_MTo_roll rfl
theorem d_MTo_roll_52 : decode MTo_roll.2.2.1 52 = .ok (.invokevirtual 149, 3) := lkT_ok tk_MTo_roll rfl
theorem d_MTo_roll_55 : decode MTo_roll.2.2.1 55 = .ok (.aload_n 0, 1) := lkT_ok tk_MTo_roll rfl
theorem d_MTo_roll_56 : decode MTo_roll.2.2.1 56 = .ok (.getfield 37, 3) := lkT_ok tk_MTo_roll rfl
theorem d_MTo_roll_59 : decode MTo_roll.2.2.1 59 = .ok (.getfield 153, 3) := lkT_ok tk_MTo_roll rfl
theorem d_MTo_roll_62 : decode MTo_roll.2.2.1 62 = .ok (.ireturn, 1) := lkT_ok tk_MTo_roll rfl
theorem r_MTo_roll_0 {l1 l2 l3 l4 : Value} {x : Nat} : Rr X d MTo_roll 0 [.ref x, l1, l2, l3, l4] st h = Rr X d MTo_roll 1 [.ref x, l1, l2, l3, l4] (.ref x :: st) h := Rr_nx d_MTo_roll_0 rfl
theorem r_MTo_roll_1 {l0 l2 l3 l4 : Value} {x : Int32} : Rr X d MTo_roll 1 [l0, .int x, l2, l3, l4] st h = Rr X d MTo_roll 2 [l0, .int x, l2, l3, l4] (.int x :: st) h := Rr_nx d_MTo_roll_1 rfl
theorem fc_9_135 : fC 9 135 = some (0, 9, 1, MTo_isGround) := rfl
theorem r_MTo_roll_2 {y0 : Int32} {a : Nat} (hO : qO a 9 = true) (hc : ckS st = true) : Rr X (d + 1) MTo_roll 2 L (.int y0 :: .ref a :: st) (Wd mu la ro et) = (Rr X d MTo_isGround 0 [.ref a, .int y0] [] (Wd mu la ro et)).bind fun q => Rr X (d + 1) MTo_roll 5 L (psh q.1 st) q.2 := R_iv (av := [.int y0]) d_MTo_roll_2 fc_9_135 hO (ckS_le hc) rfl (Nat.le_of_ble_eq_true rfl) (Nat.le_of_ble_eq_true rfl)
theorem r_MTo_roll_5 {x : Int32} : Rr X d MTo_roll 5 L (.int x :: st) h = if x = 0 then Rr X d MTo_roll 28 L st h else Rr X d MTo_roll 8 L st h := R_if_eq d_MTo_roll_5 (by decide)
theorem r_MTo_roll_8 {l0 l1 l3 l4 : Value} {x : Int32} : Rr X d MTo_roll 8 [l0, l1, .int x, l3, l4] st h = Rr X d MTo_roll 9 [l0, l1, .int x, l3, l4] (.int x :: st) h := Rr_nx d_MTo_roll_8 rfl
theorem r_MTo_roll_9 {l0 l1 l2 l4 : Value} {x : Int32} : Rr X d MTo_roll 9 [l0, l1, l2, .int x, l4] st h = Rr X d MTo_roll 10 [l0, l1, l2, .int x, l4] (.int x :: st) h := Rr_nx d_MTo_roll_9 rfl
theorem fc_9_139 : fC 9 139 = some (1, 0, 2, MTo_isStart) := rfl
theorem r_MTo_roll_10 {y0 : Int32} {y1 : Int32} (hc : ckS st = true) : Rr X (d + 1) MTo_roll 10 L (.int y1 :: .int y0 :: st) h = (Rr X d MTo_isStart 0 [.int y0, .int y1] [] h).bind fun q => Rr X (d + 1) MTo_roll 13 L (psh q.1 st) q.2 := R_is (av := [.int y1, .int y0]) d_MTo_roll_10 (Or.inl fc_9_139) (ckS_le hc) rfl (Nat.le_of_ble_eq_true rfl) (Nat.le_of_ble_eq_true rfl)
theorem r_MTo_roll_13 {x : Int32} : Rr X d MTo_roll 13 L (.int x :: st) h = if x = 0 then Rr X d MTo_roll 28 L st h else Rr X d MTo_roll 16 L st h := R_if_eq d_MTo_roll_13 (by decide)
theorem r_MTo_roll_16 {l0 l1 l2 l3 : Value} {x : Int32} : Rr X d MTo_roll 16 [l0, l1, l2, l3, .int x] st h = Rr X d MTo_roll 18 [l0, l1, l2, l3, .int x] (.int x :: st) h := Rr_nx d_MTo_roll_16 rfl
theorem r_MTo_roll_18 : Rr X d MTo_roll 18 L st h = Rr X d MTo_roll 19 L (.int (0) :: st) h := Rr_nx d_MTo_roll_18 rfl
theorem r_MTo_roll_19 : Rr X d MTo_roll 19 L st h = Rr X d MTo_roll 22 L (.int (400) :: st) h := Rr_nx d_MTo_roll_19 rfl
theorem r_MTo_roll_22 {y0 : Int32} {y1 : Int32} {y2 : Int32} (hc : ckS st = true) : Rr X (d + 1) MTo_roll 22 L (.int y2 :: .int y1 :: .int y0 :: st) h = (Rr X d MTo_isWithin 0 [.int y0, .int y1, .int y2] [] h).bind fun q => Rr X (d + 1) MTo_roll 25 L (psh q.1 st) q.2 := R_is (av := [.int y2, .int y1, .int y0]) d_MTo_roll_22 (Or.inl fc_9_72) (ckS_le hc) rfl (Nat.le_of_ble_eq_true rfl) (Nat.le_of_ble_eq_true rfl)
theorem r_MTo_roll_25 {x : Int32} : Rr X d MTo_roll 25 L (.int x :: st) h = if ¬ x = 0 then Rr X d MTo_roll 31 L st h else Rr X d MTo_roll 28 L st h := R_if_ne d_MTo_roll_25 (by decide)
theorem r_MTo_roll_28 : Rr X d MTo_roll 28 L st h = Rr X d MTo_roll 30 L (.int (-2000000000) :: st) h := Rr_nx d_MTo_roll_28 rfl
theorem r_MTo_roll_30 {x : Int32} : Rr X d MTo_roll 30 L [.int x] h = some (some (.int x), h) := R_ir d_MTo_roll_30 rfl
theorem r_MTo_roll_31 {l1 l2 l3 l4 : Value} {x : Nat} : Rr X d MTo_roll 31 [.ref x, l1, l2, l3, l4] st h = Rr X d MTo_roll 32 [.ref x, l1, l2, l3, l4] (.ref x :: st) h := Rr_nx d_MTo_roll_31 rfl
theorem r_MTo_roll_32 {l0 l2 l3 l4 : Value} {x : Int32} : Rr X d MTo_roll 32 [l0, .int x, l2, l3, l4] st h = Rr X d MTo_roll 33 [l0, .int x, l2, l3, l4] (.int x :: st) h := Rr_nx d_MTo_roll_32 rfl
theorem fc_9_142 : fC 9 142 = some (0, 9, 1, MTo_layOwn) := rfl
theorem r_MTo_roll_33 {y0 : Int32} {a : Nat} (hO : qO a 9 = true) (hc : ckS st = true) : Rr X (d + 1) MTo_roll 33 L (.int y0 :: .ref a :: st) (Wd mu la ro et) = (Rr X d MTo_layOwn 0 [.ref a, .int y0, mkU] [] (Wd mu la ro et)).bind fun q => Rr X (d + 1) MTo_roll 36 L (psh q.1 st) q.2 := R_iv (av := [.int y0]) d_MTo_roll_33 fc_9_142 hO (ckS_le hc) rfl (Nat.le_of_ble_eq_true rfl) (Nat.le_of_ble_eq_true rfl)
theorem r_MTo_roll_36 {l1 l2 l3 l4 : Value} {x : Nat} : Rr X d MTo_roll 36 [.ref x, l1, l2, l3, l4] st h = Rr X d MTo_roll 37 [.ref x, l1, l2, l3, l4] (.ref x :: st) h := Rr_nx d_MTo_roll_36 rfl
theorem r_MTo_roll_37 {l0 l1 l3 l4 : Value} {x : Int32} : Rr X d MTo_roll 37 [l0, l1, .int x, l3, l4] st h = Rr X d MTo_roll 38 [l0, l1, .int x, l3, l4] (.int x :: st) h := Rr_nx d_MTo_roll_37 rfl
theorem r_MTo_roll_38 {l0 l1 l2 l4 : Value} {x : Int32} : Rr X d MTo_roll 38 [l0, l1, l2, .int x, l4] st h = Rr X d MTo_roll 39 [l0, l1, l2, .int x, l4] (.int x :: st) h := Rr_nx d_MTo_roll_38 rfl
theorem fc_9_145 : fC 9 145 = some (0, 9, 2, MTo_start) := rfl
theorem r_MTo_roll_39 {y0 : Int32} {y1 : Int32} {a : Nat} (hO : qO a 9 = true) (hc : ckS st = true) : Rr X (d + 1) MTo_roll 39 L (.int y1 :: .int y0 :: .ref a :: st) (Wd mu la ro et) = (Rr X d MTo_start 0 [.ref a, .int y0, .int y1] [] (Wd mu la ro et)).bind fun q => Rr X (d + 1) MTo_roll 42 L (psh q.1 st) q.2 := R_iv (av := [.int y1, .int y0]) d_MTo_roll_39 fc_9_145 hO (ckS_le hc) rfl (Nat.le_of_ble_eq_true rfl) (Nat.le_of_ble_eq_true rfl)
theorem r_MTo_roll_42 {l1 l2 l3 l4 : Value} {x : Nat} : Rr X d MTo_roll 42 [.ref x, l1, l2, l3, l4] st h = Rr X d MTo_roll 43 [.ref x, l1, l2, l3, l4] (.ref x :: st) h := Rr_nx d_MTo_roll_42 rfl
theorem ff_9_44 : fF 9 44 = some (9, 5, 1, 1) := rfl
theorem r_MTo_roll_43 {a : Nat} (hq : (qR a 9 5).isSome = true) : Rr X d MTo_roll 43 L (.ref a :: st) (Wd mu la ro et) = Rr X d MTo_roll 46 L (.ref (qRd a 9 5) :: st) (Wd mu la ro et) := R_gfR d_MTo_roll_43 ff_9_44 hq
theorem r_MTo_roll_46 {l1 l2 l3 l4 : Value} {x : Nat} : Rr X d MTo_roll 46 [.ref x, l1, l2, l3, l4] st h = Rr X d MTo_roll 47 [.ref x, l1, l2, l3, l4] (.ref x :: st) h := Rr_nx d_MTo_roll_46 rfl
theorem r_MTo_roll_47 {a : Nat} (hq : (qR a 9 4).isSome = true) : Rr X d MTo_roll 47 L (.ref a :: st) (Wd mu la ro et) = Rr X d MTo_roll 50 L (.ref (qRd a 9 4) :: st) (Wd mu la ro et) := R_gfR d_MTo_roll_47 ff_9_37 hq
theorem r_MTo_roll_50 {l0 l1 l2 l3 : Value} {x : Int32} : Rr X d MTo_roll 50 [l0, l1, l2, l3, .int x] st h = Rr X d MTo_roll 52 [l0, l1, l2, l3, .int x] (.int x :: st) h := Rr_nx d_MTo_roll_50 rfl
theorem fc_9_149 : fC 9 149 = some (0, 4, 2, MGo_record) := rfl
theorem r_MTo_roll_52 {y0 : Nat} {y1 : Int32} {a : Nat} (hO : qO a 4 = true) (hc : ckS st = true) : Rr X (d + 1) MTo_roll 52 L (.int y1 :: .ref y0 :: .ref a :: st) (Wd mu la ro et) = (Rr X d MGo_record 0 [.ref a, .ref y0, .int y1, mkU] [] (Wd mu la ro et)).bind fun q => Rr X (d + 1) MTo_roll 55 L (psh q.1 st) q.2 := R_iv (av := [.int y1, .ref y0]) d_MTo_roll_52 fc_9_149 hO (ckS_le hc) rfl (Nat.le_of_ble_eq_true rfl) (Nat.le_of_ble_eq_true rfl)
theorem r_MTo_roll_55 {l1 l2 l3 l4 : Value} {x : Nat} : Rr X d MTo_roll 55 [.ref x, l1, l2, l3, l4] st h = Rr X d MTo_roll 56 [.ref x, l1, l2, l3, l4] (.ref x :: st) h := Rr_nx d_MTo_roll_55 rfl
theorem r_MTo_roll_56 {a : Nat} (hq : (qR a 9 4).isSome = true) : Rr X d MTo_roll 56 L (.ref a :: st) (Wd mu la ro et) = Rr X d MTo_roll 59 L (.ref (qRd a 9 4) :: st) (Wd mu la ro et) := R_gfR d_MTo_roll_56 ff_9_37 hq
theorem ff_9_153 : fF 9 153 = some (5, 7, 0, 0) := rfl
theorem r_MTo_roll_59 {a : Nat} (hq : qI a 5 7 = true) : Rr X d MTo_roll 59 L (.ref a :: st) (Wd mu la ro et) = Rr X d MTo_roll 62 L (.int (mu a 7) :: st) (Wd mu la ro et) := R_gfI d_MTo_roll_59 ff_9_153 hq
theorem r_MTo_roll_62 {x : Int32} : Rr X d MTo_roll 62 L [.int x] h = some (some (.int x), h) := R_ir d_MTo_roll_62 rfl
theorem d_MGo_record_0 : decode MGo_record.2.2.1 0 = .ok (.aload_n 0, 1) := lkT_ok tk_MGo_record rfl
theorem d_MGo_record_1 : decode MGo_record.2.2.1 1 = .ok (.iload_n 2, 1) := lkT_ok tk_MGo_record rfl
theorem d_MGo_record_2 : decode MGo_record.2.2.1 2 = .ok (.putfield 21, 3) := lkT_ok tk_MGo_record rfl
theorem d_MGo_record_5 : decode MGo_record.2.2.1 5 = .ok (.aload_n 0, 1) := lkT_ok tk_MGo_record rfl
theorem d_MGo_record_6 : decode MGo_record.2.2.1 6 = .ok (.aload_n 1, 1) := lkT_ok tk_MGo_record rfl
theorem d_MGo_record_7 : decode MGo_record.2.2.1 7 = .ok (.iconst 0, 1) := lkT_ok tk_MGo_record rfl
theorem d_MGo_record_8 : decode MGo_record.2.2.1 8 = .ok (.invokevirtual 25, 3) := lkT_ok tk_MGo_record rfl
theorem d_MGo_record_11 : decode MGo_record.2.2.1 11 = .ok (.iconst 1, 1) := lkT_ok tk_MGo_record rfl
theorem d_MGo_record_12 : decode MGo_record.2.2.1 12 = .ok (.istore_n 3, 1) := lkT_ok tk_MGo_record rfl
theorem d_MGo_record_13 : decode MGo_record.2.2.1 13 = .ok (.iload_n 3, 1) := lkT_ok tk_MGo_record rfl
theorem d_MGo_record_14 : decode MGo_record.2.2.1 14 = .ok (.iload_n 2, 1) := lkT_ok tk_MGo_record rfl
theorem d_MGo_record_15 : decode MGo_record.2.2.1 15 = .ok (.if_icmp .gt 19, 3) := lkT_ok tk_MGo_record rfl
theorem d_MGo_record_18 : decode MGo_record.2.2.1 18 = .ok (.aload_n 1, 1) := lkT_ok tk_MGo_record rfl
theorem d_MGo_record_19 : decode MGo_record.2.2.1 19 = .ok (.invokevirtual 29, 3) := lkT_ok tk_MGo_record rfl
theorem d_MGo_record_22 : decode MGo_record.2.2.1 22 = .ok (.aload_n 0, 1) := lkT_ok tk_MGo_record rfl
theorem d_MGo_record_23 : decode MGo_record.2.2.1 23 = .ok (.aload_n 1, 1) := lkT_ok tk_MGo_record rfl
theorem d_MGo_record_24 : decode MGo_record.2.2.1 24 = .ok (.iload_n 3, 1) := lkT_ok tk_MGo_record rfl
theorem d_MGo_record_25 : decode MGo_record.2.2.1 25 = .ok (.invokevirtual 25, 3) := lkT_ok tk_MGo_record rfl
theorem d_MGo_record_28 : decode MGo_record.2.2.1 28 = .ok (.iinc 3 1, 3) := lkT_ok tk_MGo_record rfl
theorem d_MGo_record_31 : decode MGo_record.2.2.1 31 = .ok (.goto (-18), 3) := lkT_ok tk_MGo_record rfl
theorem d_MGo_record_34 : decode MGo_record.2.2.1 34 = .ok (.aload_n 0, 1) := lkT_ok tk_MGo_record rfl
theorem d_MGo_record_35 : decode MGo_record.2.2.1 35 = .ok (.aload_n 1, 1) := lkT_ok tk_MGo_record rfl
theorem d_MGo_record_36 : decode MGo_record.2.2.1 36 = .ok (.getfield 34, 3) := lkT_ok tk_MGo_record rfl
theorem d_MGo_record_39 : decode MGo_record.2.2.1 39 = .ok (.putfield 37, 3) := lkT_ok tk_MGo_record rfl
theorem d_MGo_record_42 : decode MGo_record.2.2.1 42 = .ok (.aload_n 0, 1) := lkT_ok tk_MGo_record rfl
theorem d_MGo_record_43 : decode MGo_record.2.2.1 43 = .ok (.aload_n 1, 1) := lkT_ok tk_MGo_record rfl
theorem d_MGo_record_44 : decode MGo_record.2.2.1 44 = .ok (.getfield 38, 3) := lkT_ok tk_MGo_record rfl
theorem d_MGo_record_47 : decode MGo_record.2.2.1 47 = .ok (.putfield 41, 3) := lkT_ok tk_MGo_record rfl
theorem d_MGo_record_50 : decode MGo_record.2.2.1 50 = .ok (.aload_n 0, 1) := lkT_ok tk_MGo_record rfl
theorem d_MGo_record_51 : decode MGo_record.2.2.1 51 = .ok (.aload_n 1, 1) := lkT_ok tk_MGo_record rfl
theorem d_MGo_record_52 : decode MGo_record.2.2.1 52 = .ok (.getfield 42, 3) := lkT_ok tk_MGo_record rfl
theorem d_MGo_record_55 : decode MGo_record.2.2.1 55 = .ok (.putfield 45, 3) := lkT_ok tk_MGo_record rfl
theorem d_MGo_record_58 : decode MGo_record.2.2.1 58 = .ok (.aload_n 0, 1) := lkT_ok tk_MGo_record rfl
theorem d_MGo_record_59 : decode MGo_record.2.2.1 59 = .ok (.aload_n 1, 1) := lkT_ok tk_MGo_record rfl
theorem d_MGo_record_60 : decode MGo_record.2.2.1 60 = .ok (.getfield 46, 3) := lkT_ok tk_MGo_record rfl
theorem d_MGo_record_63 : decode MGo_record.2.2.1 63 = .ok (.putfield 49, 3) := lkT_ok tk_MGo_record rfl
theorem d_MGo_record_66 : decode MGo_record.2.2.1 66 = .ok (.aload_n 0, 1) := lkT_ok tk_MGo_record rfl
theorem d_MGo_record_67 : decode MGo_record.2.2.1 67 = .ok (.aload_n 1, 1) := lkT_ok tk_MGo_record rfl
theorem d_MGo_record_68 : decode MGo_record.2.2.1 68 = .ok (.getfield 50, 3) := lkT_ok tk_MGo_record rfl
theorem d_MGo_record_71 : decode MGo_record.2.2.1 71 = .ok (.putfield 53, 3) := lkT_ok tk_MGo_record rfl
theorem d_MGo_record_74 : decode MGo_record.2.2.1 74 = .ok (.return_, 1) := lkT_ok tk_MGo_record rfl
theorem r_MGo_record_0 {l1 l2 l3 : Value} {x : Nat} : Rr X d MGo_record 0 [.ref x, l1, l2, l3] st h = Rr X d MGo_record 1 [.ref x, l1, l2, l3] (.ref x :: st) h := Rr_nx d_MGo_record_0 rfl
theorem r_MGo_record_1 {l0 l1 l3 : Value} {x : Int32} : Rr X d MGo_record 1 [l0, l1, .int x, l3] st h = Rr X d MGo_record 2 [l0, l1, .int x, l3] (.int x :: st) h := Rr_nx d_MGo_record_1 rfl
theorem ff_4_21 : fF 4 21 = some (4, 3, 0, 0) := rfl
theorem r_MGo_record_2 {a : Nat} {x : Int32} (hq : qI a 4 3 = true) : Rr X d MGo_record 2 L (.int x :: .ref a :: st) (Wd mu la ro et) = Rr X d MGo_record 5 L st (Wd (up2 mu a 3 x) la ro et) := R_pfI d_MGo_record_2 ff_4_21 hq
theorem r_MGo_record_5 {l1 l2 l3 : Value} {x : Nat} : Rr X d MGo_record 5 [.ref x, l1, l2, l3] st h = Rr X d MGo_record 6 [.ref x, l1, l2, l3] (.ref x :: st) h := Rr_nx d_MGo_record_5 rfl
theorem r_MGo_record_6 {l0 l2 l3 : Value} {x : Nat} : Rr X d MGo_record 6 [l0, .ref x, l2, l3] st h = Rr X d MGo_record 7 [l0, .ref x, l2, l3] (.ref x :: st) h := Rr_nx d_MGo_record_6 rfl
theorem r_MGo_record_6n {l0 l2 l3 : Value} : Rr X d MGo_record 6 [l0, .null, l2, l3] st h = Rr X d MGo_record 7 [l0, .null, l2, l3] (.null :: st) h := Rr_nx d_MGo_record_6 rfl
theorem r_MGo_record_7 : Rr X d MGo_record 7 L st h = Rr X d MGo_record 8 L (.int (0) :: st) h := Rr_nx d_MGo_record_7 rfl
theorem fc_4_25 : fC 4 25 = some (0, 4, 2, MGo_note) := rfl
theorem r_MGo_record_8 {y0 : Nat} {y1 : Int32} {a : Nat} (hO : qO a 4 = true) (hc : ckS st = true) : Rr X (d + 1) MGo_record 8 L (.int y1 :: .ref y0 :: .ref a :: st) (Wd mu la ro et) = (Rr X d MGo_note 0 [.ref a, .ref y0, .int y1] [] (Wd mu la ro et)).bind fun q => Rr X (d + 1) MGo_record 11 L (psh q.1 st) q.2 := R_iv (av := [.int y1, .ref y0]) d_MGo_record_8 fc_4_25 hO (ckS_le hc) rfl (Nat.le_of_ble_eq_true rfl) (Nat.le_of_ble_eq_true rfl)
theorem r_MGo_record_11 : Rr X d MGo_record 11 L st h = Rr X d MGo_record 12 L (.int (1) :: st) h := Rr_nx d_MGo_record_11 rfl
theorem r_MGo_record_12 {l0 l1 l2 l3 : Value} {x : Int32} : Rr X d MGo_record 12 [l0, l1, l2, l3] (.int x :: st) h = Rr X d MGo_record 13 (sL [l0, l1, l2, l3] 3 (.int x)) st h := Rr_nx d_MGo_record_12 rfl
theorem r_MGo_record_13 {l0 l1 l2 : Value} {x : Int32} : Rr X d MGo_record 13 [l0, l1, l2, .int x] st h = Rr X d MGo_record 14 [l0, l1, l2, .int x] (.int x :: st) h := Rr_nx d_MGo_record_13 rfl
theorem r_MGo_record_14 {l0 l1 l3 : Value} {x : Int32} : Rr X d MGo_record 14 [l0, l1, .int x, l3] st h = Rr X d MGo_record 15 [l0, l1, .int x, l3] (.int x :: st) h := Rr_nx d_MGo_record_14 rfl
theorem r_MGo_record_15 {x y : Int32} : Rr X d MGo_record 15 L (.int y :: .int x :: st) h = if y < x then Rr X d MGo_record 34 L st h else Rr X d MGo_record 18 L st h := R_ic_gt d_MGo_record_15 (by decide)
theorem r_MGo_record_18 {l0 l2 l3 : Value} {x : Nat} : Rr X d MGo_record 18 [l0, .ref x, l2, l3] st h = Rr X d MGo_record 19 [l0, .ref x, l2, l3] (.ref x :: st) h := Rr_nx d_MGo_record_18 rfl
theorem r_MGo_record_18n {l0 l2 l3 : Value} : Rr X d MGo_record 18 [l0, .null, l2, l3] st h = Rr X d MGo_record 19 [l0, .null, l2, l3] (.null :: st) h := Rr_nx d_MGo_record_18 rfl
theorem fc_4_29 : fC 4 29 = some (0, 5, 0, MMo_step) := rfl
theorem r_MGo_record_19 {a : Nat} (hO : qO a 5 = true) (hc : ckS st = true) : Rr X (d + 1) MGo_record 19 L (.ref a :: st) (Wd mu la ro et) = (Rr X d MMo_step 0 [.ref a, mkU] [] (Wd mu la ro et)).bind fun q => Rr X (d + 1) MGo_record 22 L (psh q.1 st) q.2 := R_iv (av := []) d_MGo_record_19 fc_4_29 hO (ckS_le hc) rfl (Nat.le_of_ble_eq_true rfl) (Nat.le_of_ble_eq_true rfl)
theorem r_MGo_record_22 {l1 l2 l3 : Value} {x : Nat} : Rr X d MGo_record 22 [.ref x, l1, l2, l3] st h = Rr X d MGo_record 23 [.ref x, l1, l2, l3] (.ref x :: st) h := Rr_nx d_MGo_record_22 rfl
theorem r_MGo_record_23 {l0 l2 l3 : Value} {x : Nat} : Rr X d MGo_record 23 [l0, .ref x, l2, l3] st h = Rr X d MGo_record 24 [l0, .ref x, l2, l3] (.ref x :: st) h := Rr_nx d_MGo_record_23 rfl
theorem r_MGo_record_23n {l0 l2 l3 : Value} : Rr X d MGo_record 23 [l0, .null, l2, l3] st h = Rr X d MGo_record 24 [l0, .null, l2, l3] (.null :: st) h := Rr_nx d_MGo_record_23 rfl
theorem r_MGo_record_24 {l0 l1 l2 : Value} {x : Int32} : Rr X d MGo_record 24 [l0, l1, l2, .int x] st h = Rr X d MGo_record 25 [l0, l1, l2, .int x] (.int x :: st) h := Rr_nx d_MGo_record_24 rfl
theorem r_MGo_record_25 {y0 : Nat} {y1 : Int32} {a : Nat} (hO : qO a 4 = true) (hc : ckS st = true) : Rr X (d + 1) MGo_record 25 L (.int y1 :: .ref y0 :: .ref a :: st) (Wd mu la ro et) = (Rr X d MGo_note 0 [.ref a, .ref y0, .int y1] [] (Wd mu la ro et)).bind fun q => Rr X (d + 1) MGo_record 28 L (psh q.1 st) q.2 := R_iv (av := [.int y1, .ref y0]) d_MGo_record_25 fc_4_25 hO (ckS_le hc) rfl (Nat.le_of_ble_eq_true rfl) (Nat.le_of_ble_eq_true rfl)
theorem r_MGo_record_28 {l0 l1 l2 : Value} {x : Int32} : Rr X d MGo_record 28 [l0, l1, l2, .int x] st h = Rr X d MGo_record 31 (sL [l0, l1, l2, .int x] 3 (.int (x + (1)))) st h := Rr_nx d_MGo_record_28 rfl
theorem r_MGo_record_31 : Rr X d MGo_record 31 L st h = Rr X d MGo_record 13 L st h := R_goto d_MGo_record_31 (by decide)
theorem r_MGo_record_34 {l1 l2 l3 : Value} {x : Nat} : Rr X d MGo_record 34 [.ref x, l1, l2, l3] st h = Rr X d MGo_record 35 [.ref x, l1, l2, l3] (.ref x :: st) h := Rr_nx d_MGo_record_34 rfl
theorem r_MGo_record_35 {l0 l2 l3 : Value} {x : Nat} : Rr X d MGo_record 35 [l0, .ref x, l2, l3] st h = Rr X d MGo_record 36 [l0, .ref x, l2, l3] (.ref x :: st) h := Rr_nx d_MGo_record_35 rfl
theorem r_MGo_record_35n {l0 l2 l3 : Value} : Rr X d MGo_record 35 [l0, .null, l2, l3] st h = Rr X d MGo_record 36 [l0, .null, l2, l3] (.null :: st) h := Rr_nx d_MGo_record_35 rfl
theorem ff_4_34 : fF 4 34 = some (5, 12, 0, 0) := rfl
theorem r_MGo_record_36 {a : Nat} (hq : qI a 5 12 = true) : Rr X d MGo_record 36 L (.ref a :: st) (Wd mu la ro et) = Rr X d MGo_record 39 L (.int (mu a 12) :: st) (Wd mu la ro et) := R_gfI d_MGo_record_36 ff_4_34 hq
theorem ff_4_37 : fF 4 37 = some (4, 4, 0, 0) := rfl
theorem r_MGo_record_39 {a : Nat} {x : Int32} (hq : qI a 4 4 = true) : Rr X d MGo_record 39 L (.int x :: .ref a :: st) (Wd mu la ro et) = Rr X d MGo_record 42 L st (Wd (up2 mu a 4 x) la ro et) := R_pfI d_MGo_record_39 ff_4_37 hq
theorem r_MGo_record_42 {l1 l2 l3 : Value} {x : Nat} : Rr X d MGo_record 42 [.ref x, l1, l2, l3] st h = Rr X d MGo_record 43 [.ref x, l1, l2, l3] (.ref x :: st) h := Rr_nx d_MGo_record_42 rfl
theorem r_MGo_record_43 {l0 l2 l3 : Value} {x : Nat} : Rr X d MGo_record 43 [l0, .ref x, l2, l3] st h = Rr X d MGo_record 44 [l0, .ref x, l2, l3] (.ref x :: st) h := Rr_nx d_MGo_record_43 rfl
theorem r_MGo_record_43n {l0 l2 l3 : Value} : Rr X d MGo_record 43 [l0, .null, l2, l3] st h = Rr X d MGo_record 44 [l0, .null, l2, l3] (.null :: st) h := Rr_nx d_MGo_record_43 rfl
theorem ff_4_38 : fF 4 38 = some (5, 13, 0, 0) := rfl
theorem r_MGo_record_44 {a : Nat} (hq : qI a 5 13 = true) : Rr X d MGo_record 44 L (.ref a :: st) (Wd mu la ro et) = Rr X d MGo_record 47 L (.int (mu a 13) :: st) (Wd mu la ro et) := R_gfI d_MGo_record_44 ff_4_38 hq
theorem ff_4_41 : fF 4 41 = some (4, 5, 0, 0) := rfl
theorem r_MGo_record_47 {a : Nat} {x : Int32} (hq : qI a 4 5 = true) : Rr X d MGo_record 47 L (.int x :: .ref a :: st) (Wd mu la ro et) = Rr X d MGo_record 50 L st (Wd (up2 mu a 5 x) la ro et) := R_pfI d_MGo_record_47 ff_4_41 hq
theorem r_MGo_record_50 {l1 l2 l3 : Value} {x : Nat} : Rr X d MGo_record 50 [.ref x, l1, l2, l3] st h = Rr X d MGo_record 51 [.ref x, l1, l2, l3] (.ref x :: st) h := Rr_nx d_MGo_record_50 rfl
theorem r_MGo_record_51 {l0 l2 l3 : Value} {x : Nat} : Rr X d MGo_record 51 [l0, .ref x, l2, l3] st h = Rr X d MGo_record 52 [l0, .ref x, l2, l3] (.ref x :: st) h := Rr_nx d_MGo_record_51 rfl
theorem r_MGo_record_51n {l0 l2 l3 : Value} : Rr X d MGo_record 51 [l0, .null, l2, l3] st h = Rr X d MGo_record 52 [l0, .null, l2, l3] (.null :: st) h := Rr_nx d_MGo_record_51 rfl
theorem ff_4_42 : fF 4 42 = some (5, 14, 0, 0) := rfl
theorem r_MGo_record_52 {a : Nat} (hq : qI a 5 14 = true) : Rr X d MGo_record 52 L (.ref a :: st) (Wd mu la ro et) = Rr X d MGo_record 55 L (.int (mu a 14) :: st) (Wd mu la ro et) := R_gfI d_MGo_record_52 ff_4_42 hq
theorem ff_4_45 : fF 4 45 = some (4, 6, 0, 0) := rfl
theorem r_MGo_record_55 {a : Nat} {x : Int32} (hq : qI a 4 6 = true) : Rr X d MGo_record 55 L (.int x :: .ref a :: st) (Wd mu la ro et) = Rr X d MGo_record 58 L st (Wd (up2 mu a 6 x) la ro et) := R_pfI d_MGo_record_55 ff_4_45 hq
theorem r_MGo_record_58 {l1 l2 l3 : Value} {x : Nat} : Rr X d MGo_record 58 [.ref x, l1, l2, l3] st h = Rr X d MGo_record 59 [.ref x, l1, l2, l3] (.ref x :: st) h := Rr_nx d_MGo_record_58 rfl
theorem r_MGo_record_59 {l0 l2 l3 : Value} {x : Nat} : Rr X d MGo_record 59 [l0, .ref x, l2, l3] st h = Rr X d MGo_record 60 [l0, .ref x, l2, l3] (.ref x :: st) h := Rr_nx d_MGo_record_59 rfl
theorem r_MGo_record_59n {l0 l2 l3 : Value} : Rr X d MGo_record 59 [l0, .null, l2, l3] st h = Rr X d MGo_record 60 [l0, .null, l2, l3] (.null :: st) h := Rr_nx d_MGo_record_59 rfl
theorem ff_4_46 : fF 4 46 = some (5, 15, 0, 0) := rfl
theorem r_MGo_record_60 {a : Nat} (hq : qI a 5 15 = true) : Rr X d MGo_record 60 L (.ref a :: st) (Wd mu la ro et) = Rr X d MGo_record 63 L (.int (mu a 15) :: st) (Wd mu la ro et) := R_gfI d_MGo_record_60 ff_4_46 hq
theorem ff_4_49 : fF 4 49 = some (4, 7, 0, 0) := rfl
theorem r_MGo_record_63 {a : Nat} {x : Int32} (hq : qI a 4 7 = true) : Rr X d MGo_record 63 L (.int x :: .ref a :: st) (Wd mu la ro et) = Rr X d MGo_record 66 L st (Wd (up2 mu a 7 x) la ro et) := R_pfI d_MGo_record_63 ff_4_49 hq
theorem r_MGo_record_66 {l1 l2 l3 : Value} {x : Nat} : Rr X d MGo_record 66 [.ref x, l1, l2, l3] st h = Rr X d MGo_record 67 [.ref x, l1, l2, l3] (.ref x :: st) h := Rr_nx d_MGo_record_66 rfl
theorem r_MGo_record_67 {l0 l2 l3 : Value} {x : Nat} : Rr X d MGo_record 67 [l0, .ref x, l2, l3] st h = Rr X d MGo_record 68 [l0, .ref x, l2, l3] (.ref x :: st) h := Rr_nx d_MGo_record_67 rfl
theorem r_MGo_record_67n {l0 l2 l3 : Value} : Rr X d MGo_record 67 [l0, .null, l2, l3] st h = Rr X d MGo_record 68 [l0, .null, l2, l3] (.null :: st) h := Rr_nx d_MGo_record_67 rfl
theorem ff_4_50 : fF 4 50 = some (5, 16, 0, 0) := rfl
theorem r_MGo_record_68 {a : Nat} (hq : qI a 5 16 = true) : Rr X d MGo_record 68 L (.ref a :: st) (Wd mu la ro et) = Rr X d MGo_record 71 L (.int (mu a 16) :: st) (Wd mu la ro et) := R_gfI d_MGo_record_68 ff_4_50 hq
theorem ff_4_53 : fF 4 53 = some (4, 8, 0, 0) := rfl
theorem r_MGo_record_71 {a : Nat} {x : Int32} (hq : qI a 4 8 = true) : Rr X d MGo_record 71 L (.int x :: .ref a :: st) (Wd mu la ro et) = Rr X d MGo_record 74 L st (Wd (up2 mu a 8 x) la ro et) := R_pfI d_MGo_record_71 ff_4_53 hq
theorem r_MGo_record_74 : Rr X d MGo_record 74 L [] h = some (none, h) := Rr_rt d_MGo_record_74 rfl
theorem d_MGo_note_0 : decode MGo_note.2.2.1 0 = .ok (.iload_n 2, 1) := lkT_ok tk_MGo_note rfl
theorem d_MGo_note_1 : decode MGo_note.2.2.1 1 = .ok (.ifCond .lt 40, 3) := lkT_ok tk_MGo_note rfl
theorem d_MGo_note_4 : decode MGo_note.2.2.1 4 = .ok (.iload_n 2, 1) := lkT_ok tk_MGo_note rfl
theorem d_MGo_note_5 : decode MGo_note.2.2.1 5 = .ok (.sipush 400, 3) := lkT_ok tk_MGo_note rfl
theorem d_MGo_note_8 : decode MGo_note.2.2.1 8 = .ok (.if_icmp .gt 33, 3) := lkT_ok tk_MGo_note rfl
theorem d_MGo_note_11 : decode MGo_note.2.2.1 11 = .ok (.aload_n 0, 1) := lkT_ok tk_MGo_note rfl
theorem d_MGo_note_12 : decode MGo_note.2.2.1 12 = .ok (.getfield 9, 3) := lkT_ok tk_MGo_note rfl
theorem d_MGo_note_15 : decode MGo_note.2.2.1 15 = .ok (.iload_n 2, 1) := lkT_ok tk_MGo_note rfl
theorem d_MGo_note_16 : decode MGo_note.2.2.1 16 = .ok (.aload_n 1, 1) := lkT_ok tk_MGo_note rfl
theorem d_MGo_note_17 : decode MGo_note.2.2.1 17 = .ok (.getfield 54, 3) := lkT_ok tk_MGo_note rfl
theorem d_MGo_note_20 : decode MGo_note.2.2.1 20 = .ok (.iastore, 1) := lkT_ok tk_MGo_note rfl
theorem d_MGo_note_21 : decode MGo_note.2.2.1 21 = .ok (.aload_n 0, 1) := lkT_ok tk_MGo_note rfl
theorem d_MGo_note_22 : decode MGo_note.2.2.1 22 = .ok (.getfield 15, 3) := lkT_ok tk_MGo_note rfl
theorem d_MGo_note_25 : decode MGo_note.2.2.1 25 = .ok (.iload_n 2, 1) := lkT_ok tk_MGo_note rfl
theorem d_MGo_note_26 : decode MGo_note.2.2.1 26 = .ok (.aload_n 1, 1) := lkT_ok tk_MGo_note rfl
theorem d_MGo_note_27 : decode MGo_note.2.2.1 27 = .ok (.getfield 57, 3) := lkT_ok tk_MGo_note rfl
theorem d_MGo_note_30 : decode MGo_note.2.2.1 30 = .ok (.iastore, 1) := lkT_ok tk_MGo_note rfl
theorem d_MGo_note_31 : decode MGo_note.2.2.1 31 = .ok (.aload_n 0, 1) := lkT_ok tk_MGo_note rfl
theorem d_MGo_note_32 : decode MGo_note.2.2.1 32 = .ok (.getfield 18, 3) := lkT_ok tk_MGo_note rfl
theorem d_MGo_note_35 : decode MGo_note.2.2.1 35 = .ok (.iload_n 2, 1) := lkT_ok tk_MGo_note rfl
theorem d_MGo_note_36 : decode MGo_note.2.2.1 36 = .ok (.aload_n 1, 1) := lkT_ok tk_MGo_note rfl
theorem d_MGo_note_37 : decode MGo_note.2.2.1 37 = .ok (.getfield 60, 3) := lkT_ok tk_MGo_note rfl
theorem d_MGo_note_40 : decode MGo_note.2.2.1 40 = .ok (.iastore, 1) := lkT_ok tk_MGo_note rfl
theorem d_MGo_note_41 : decode MGo_note.2.2.1 41 = .ok (.return_, 1) := lkT_ok tk_MGo_note rfl
theorem r_MGo_note_0 {l0 l1 : Value} {x : Int32} : Rr X d MGo_note 0 [l0, l1, .int x] st h = Rr X d MGo_note 1 [l0, l1, .int x] (.int x :: st) h := Rr_nx d_MGo_note_0 rfl
theorem r_MGo_note_1 {x : Int32} : Rr X d MGo_note 1 L (.int x :: st) h = if x < 0 then Rr X d MGo_note 41 L st h else Rr X d MGo_note 4 L st h := R_if_lt d_MGo_note_1 (by decide)
theorem r_MGo_note_4 {l0 l1 : Value} {x : Int32} : Rr X d MGo_note 4 [l0, l1, .int x] st h = Rr X d MGo_note 5 [l0, l1, .int x] (.int x :: st) h := Rr_nx d_MGo_note_4 rfl
theorem r_MGo_note_5 : Rr X d MGo_note 5 L st h = Rr X d MGo_note 8 L (.int (400) :: st) h := Rr_nx d_MGo_note_5 rfl
theorem r_MGo_note_8 {x y : Int32} : Rr X d MGo_note 8 L (.int y :: .int x :: st) h = if y < x then Rr X d MGo_note 41 L st h else Rr X d MGo_note 11 L st h := R_ic_gt d_MGo_note_8 (by decide)
theorem r_MGo_note_11 {l1 l2 : Value} {x : Nat} : Rr X d MGo_note 11 [.ref x, l1, l2] st h = Rr X d MGo_note 12 [.ref x, l1, l2] (.ref x :: st) h := Rr_nx d_MGo_note_11 rfl
theorem ff_4_9 : fF 4 9 = some (4, 0, 1, 1) := rfl
theorem r_MGo_note_12 {a : Nat} (hq : (qR a 4 0).isSome = true) : Rr X d MGo_note 12 L (.ref a :: st) (Wd mu la ro et) = Rr X d MGo_note 15 L (.ref (qRd a 4 0) :: st) (Wd mu la ro et) := R_gfR d_MGo_note_12 ff_4_9 hq
theorem r_MGo_note_15 {l0 l1 : Value} {x : Int32} : Rr X d MGo_note 15 [l0, l1, .int x] st h = Rr X d MGo_note 16 [l0, l1, .int x] (.int x :: st) h := Rr_nx d_MGo_note_15 rfl
theorem r_MGo_note_16 {l0 l2 : Value} {x : Nat} : Rr X d MGo_note 16 [l0, .ref x, l2] st h = Rr X d MGo_note 17 [l0, .ref x, l2] (.ref x :: st) h := Rr_nx d_MGo_note_16 rfl
theorem r_MGo_note_16n {l0 l2 : Value} : Rr X d MGo_note 16 [l0, .null, l2] st h = Rr X d MGo_note 17 [l0, .null, l2] (.null :: st) h := Rr_nx d_MGo_note_16 rfl
theorem ff_4_54 : fF 4 54 = some (5, 7, 0, 0) := rfl
theorem r_MGo_note_17 {a : Nat} (hq : qI a 5 7 = true) : Rr X d MGo_note 17 L (.ref a :: st) (Wd mu la ro et) = Rr X d MGo_note 20 L (.int (mu a 7) :: st) (Wd mu la ro et) := R_gfI d_MGo_note_17 ff_4_54 hq
theorem r_MGo_note_20 {a : Nat} {j x : Int32} (hq : (qA a 0).isSome = true) : Rr X d MGo_note 20 L (.int x :: .int j :: .ref a :: st) (Wd mu la ro et) = if j < 0 ∨ qAd a 0 ≤ j.toNatClampNeg then none else Rr X d MGo_note 21 L st (Wd (up2 mu a j.toNatClampNeg (x)) la ro et) := R_iasW d_MGo_note_20 hq
theorem r_MGo_note_21 {l1 l2 : Value} {x : Nat} : Rr X d MGo_note 21 [.ref x, l1, l2] st h = Rr X d MGo_note 22 [.ref x, l1, l2] (.ref x :: st) h := Rr_nx d_MGo_note_21 rfl
theorem ff_4_15 : fF 4 15 = some (4, 1, 1, 1) := rfl
theorem r_MGo_note_22 {a : Nat} (hq : (qR a 4 1).isSome = true) : Rr X d MGo_note 22 L (.ref a :: st) (Wd mu la ro et) = Rr X d MGo_note 25 L (.ref (qRd a 4 1) :: st) (Wd mu la ro et) := R_gfR d_MGo_note_22 ff_4_15 hq
theorem r_MGo_note_25 {l0 l1 : Value} {x : Int32} : Rr X d MGo_note 25 [l0, l1, .int x] st h = Rr X d MGo_note 26 [l0, l1, .int x] (.int x :: st) h := Rr_nx d_MGo_note_25 rfl
theorem r_MGo_note_26 {l0 l2 : Value} {x : Nat} : Rr X d MGo_note 26 [l0, .ref x, l2] st h = Rr X d MGo_note 27 [l0, .ref x, l2] (.ref x :: st) h := Rr_nx d_MGo_note_26 rfl
theorem r_MGo_note_26n {l0 l2 : Value} : Rr X d MGo_note 26 [l0, .null, l2] st h = Rr X d MGo_note 27 [l0, .null, l2] (.null :: st) h := Rr_nx d_MGo_note_26 rfl
theorem ff_4_57 : fF 4 57 = some (5, 8, 0, 0) := rfl
theorem r_MGo_note_27 {a : Nat} (hq : qI a 5 8 = true) : Rr X d MGo_note 27 L (.ref a :: st) (Wd mu la ro et) = Rr X d MGo_note 30 L (.int (mu a 8) :: st) (Wd mu la ro et) := R_gfI d_MGo_note_27 ff_4_57 hq
theorem r_MGo_note_30 {a : Nat} {j x : Int32} (hq : (qA a 0).isSome = true) : Rr X d MGo_note 30 L (.int x :: .int j :: .ref a :: st) (Wd mu la ro et) = if j < 0 ∨ qAd a 0 ≤ j.toNatClampNeg then none else Rr X d MGo_note 31 L st (Wd (up2 mu a j.toNatClampNeg (x)) la ro et) := R_iasW d_MGo_note_30 hq
theorem r_MGo_note_31 {l1 l2 : Value} {x : Nat} : Rr X d MGo_note 31 [.ref x, l1, l2] st h = Rr X d MGo_note 32 [.ref x, l1, l2] (.ref x :: st) h := Rr_nx d_MGo_note_31 rfl
theorem ff_4_18 : fF 4 18 = some (4, 2, 1, 1) := rfl
theorem r_MGo_note_32 {a : Nat} (hq : (qR a 4 2).isSome = true) : Rr X d MGo_note 32 L (.ref a :: st) (Wd mu la ro et) = Rr X d MGo_note 35 L (.ref (qRd a 4 2) :: st) (Wd mu la ro et) := R_gfR d_MGo_note_32 ff_4_18 hq
theorem r_MGo_note_35 {l0 l1 : Value} {x : Int32} : Rr X d MGo_note 35 [l0, l1, .int x] st h = Rr X d MGo_note 36 [l0, l1, .int x] (.int x :: st) h := Rr_nx d_MGo_note_35 rfl
theorem r_MGo_note_36 {l0 l2 : Value} {x : Nat} : Rr X d MGo_note 36 [l0, .ref x, l2] st h = Rr X d MGo_note 37 [l0, .ref x, l2] (.ref x :: st) h := Rr_nx d_MGo_note_36 rfl
theorem r_MGo_note_36n {l0 l2 : Value} : Rr X d MGo_note 36 [l0, .null, l2] st h = Rr X d MGo_note 37 [l0, .null, l2] (.null :: st) h := Rr_nx d_MGo_note_36 rfl
theorem ff_4_60 : fF 4 60 = some (5, 9, 0, 0) := rfl
theorem r_MGo_note_37 {a : Nat} (hq : qI a 5 9 = true) : Rr X d MGo_note 37 L (.ref a :: st) (Wd mu la ro et) = Rr X d MGo_note 40 L (.int (mu a 9) :: st) (Wd mu la ro et) := R_gfI d_MGo_note_37 ff_4_60 hq
theorem r_MGo_note_40 {a : Nat} {j x : Int32} (hq : (qA a 0).isSome = true) : Rr X d MGo_note 40 L (.int x :: .int j :: .ref a :: st) (Wd mu la ro et) = if j < 0 ∨ qAd a 0 ≤ j.toNatClampNeg then none else Rr X d MGo_note 41 L st (Wd (up2 mu a j.toNatClampNeg (x)) la ro et) := R_iasW d_MGo_note_40 hq
theorem r_MGo_note_41 : Rr X d MGo_note 41 L [] h = some (none, h) := Rr_rt d_MGo_note_41 rfl
theorem d_MTo_firstBack_0 : decode MTo_firstBack.2.2.1 0 = .ok (.aload_n 0, 1) := lkT_ok tk_MTo_firstBack rfl
theorem d_MTo_firstBack_1 : decode MTo_firstBack.2.2.1 1 = .ok (.iload_n 1, 1) := lkT_ok tk_MTo_firstBack rfl
theorem d_MTo_firstBack_2 : decode MTo_firstBack.2.2.1 2 = .ok (.iload_n 2, 1) := lkT_ok tk_MTo_firstBack rfl
theorem d_MTo_firstBack_3 : decode MTo_firstBack.2.2.1 3 = .ok (.invokevirtual 145, 3) := lkT_ok tk_MTo_firstBack rfl
theorem d_MTo_firstBack_6 : decode MTo_firstBack.2.2.1 6 = .ok (.iconst 0, 1) := lkT_ok tk_MTo_firstBack rfl
theorem d_MTo_firstBack_7 : decode MTo_firstBack.2.2.1 7 = .ok (.istore_n 3, 1) := lkT_ok tk_MTo_firstBack rfl
theorem d_MTo_firstBack_8 : decode MTo_firstBack.2.2.1 8 = .ok (.iload_n 3, 1) := lkT_ok tk_MTo_firstBack rfl
theorem d_MTo_firstBack_9 : decode MTo_firstBack.2.2.1 9 = .ok (.sipush 400, 3) := lkT_ok tk_MTo_firstBack rfl
theorem d_MTo_firstBack_12 : decode MTo_firstBack.2.2.1 12 = .ok (.if_icmp .ge 26, 3) := lkT_ok tk_MTo_firstBack rfl
theorem d_MTo_firstBack_15 : decode MTo_firstBack.2.2.1 15 = .ok (.aload_n 0, 1) := lkT_ok tk_MTo_firstBack rfl
theorem d_MTo_firstBack_16 : decode MTo_firstBack.2.2.1 16 = .ok (.getfield 37, 3) := lkT_ok tk_MTo_firstBack rfl
theorem d_MTo_firstBack_19 : decode MTo_firstBack.2.2.1 19 = .ok (.getfield 184, 3) := lkT_ok tk_MTo_firstBack rfl
theorem d_MTo_firstBack_22 : decode MTo_firstBack.2.2.1 22 = .ok (.ifCond .ne 16, 3) := lkT_ok tk_MTo_firstBack rfl
theorem d_MTo_firstBack_25 : decode MTo_firstBack.2.2.1 25 = .ok (.aload_n 0, 1) := lkT_ok tk_MTo_firstBack rfl
theorem d_MTo_firstBack_26 : decode MTo_firstBack.2.2.1 26 = .ok (.getfield 37, 3) := lkT_ok tk_MTo_firstBack rfl
theorem d_MTo_firstBack_29 : decode MTo_firstBack.2.2.1 29 = .ok (.invokevirtual 315, 3) := lkT_ok tk_MTo_firstBack rfl
theorem d_MTo_firstBack_32 : decode MTo_firstBack.2.2.1 32 = .ok (.iinc 3 1, 3) := lkT_ok tk_MTo_firstBack rfl
theorem d_MTo_firstBack_35 : decode MTo_firstBack.2.2.1 35 = .ok (.goto (-27), 3) := lkT_ok tk_MTo_firstBack rfl
theorem d_MTo_firstBack_38 : decode MTo_firstBack.2.2.1 38 = .ok (.aload_n 0, 1) := lkT_ok tk_MTo_firstBack rfl
theorem d_MTo_firstBack_39 : decode MTo_firstBack.2.2.1 39 = .ok (.getfield 37, 3) := lkT_ok tk_MTo_firstBack rfl
theorem d_MTo_firstBack_42 : decode MTo_firstBack.2.2.1 42 = .ok (.getfield 184, 3) := lkT_ok tk_MTo_firstBack rfl
theorem d_MTo_firstBack_45 : decode MTo_firstBack.2.2.1 45 = .ok (.ifCond .ne 7, 3) := lkT_ok tk_MTo_firstBack rfl
theorem d_MTo_firstBack_48 : decode MTo_firstBack.2.2.1 48 = .ok (.iconst 0, 1) := lkT_ok tk_MTo_firstBack rfl
theorem d_MTo_firstBack_49 : decode MTo_firstBack.2.2.1 49 = .ok (.goto 10, 3) := lkT_ok tk_MTo_firstBack rfl
theorem d_MTo_firstBack_52 : decode MTo_firstBack.2.2.1 52 = .ok (.aload_n 0, 1) := lkT_ok tk_MTo_firstBack rfl
theorem d_MTo_firstBack_53 : decode MTo_firstBack.2.2.1 53 = .ok (.getfield 37, 3) := lkT_ok tk_MTo_firstBack rfl
theorem d_MTo_firstBack_56 : decode MTo_firstBack.2.2.1 56 = .ok (.getfield 318, 3) := lkT_ok tk_MTo_firstBack rfl
theorem d_MTo_firstBack_59 : decode MTo_firstBack.2.2.1 59 = .ok (.ireturn, 1) := lkT_ok tk_MTo_firstBack rfl
theorem r_MTo_firstBack_0 {l1 l2 l3 : Value} {x : Nat} : Rr X d MTo_firstBack 0 [.ref x, l1, l2, l3] st h = Rr X d MTo_firstBack 1 [.ref x, l1, l2, l3] (.ref x :: st) h := Rr_nx d_MTo_firstBack_0 rfl
theorem r_MTo_firstBack_1 {l0 l2 l3 : Value} {x : Int32} : Rr X d MTo_firstBack 1 [l0, .int x, l2, l3] st h = Rr X d MTo_firstBack 2 [l0, .int x, l2, l3] (.int x :: st) h := Rr_nx d_MTo_firstBack_1 rfl
theorem r_MTo_firstBack_2 {l0 l1 l3 : Value} {x : Int32} : Rr X d MTo_firstBack 2 [l0, l1, .int x, l3] st h = Rr X d MTo_firstBack 3 [l0, l1, .int x, l3] (.int x :: st) h := Rr_nx d_MTo_firstBack_2 rfl
theorem r_MTo_firstBack_3 {y0 : Int32} {y1 : Int32} {a : Nat} (hO : qO a 9 = true) (hc : ckS st = true) : Rr X (d + 1) MTo_firstBack 3 L (.int y1 :: .int y0 :: .ref a :: st) (Wd mu la ro et) = (Rr X d MTo_start 0 [.ref a, .int y0, .int y1] [] (Wd mu la ro et)).bind fun q => Rr X (d + 1) MTo_firstBack 6 L (psh q.1 st) q.2 := R_iv (av := [.int y1, .int y0]) d_MTo_firstBack_3 fc_9_145 hO (ckS_le hc) rfl (Nat.le_of_ble_eq_true rfl) (Nat.le_of_ble_eq_true rfl)
theorem r_MTo_firstBack_6 : Rr X d MTo_firstBack 6 L st h = Rr X d MTo_firstBack 7 L (.int (0) :: st) h := Rr_nx d_MTo_firstBack_6 rfl
theorem r_MTo_firstBack_7 {l0 l1 l2 l3 : Value} {x : Int32} : Rr X d MTo_firstBack 7 [l0, l1, l2, l3] (.int x :: st) h = Rr X d MTo_firstBack 8 (sL [l0, l1, l2, l3] 3 (.int x)) st h := Rr_nx d_MTo_firstBack_7 rfl
theorem r_MTo_firstBack_8 {l0 l1 l2 : Value} {x : Int32} : Rr X d MTo_firstBack 8 [l0, l1, l2, .int x] st h = Rr X d MTo_firstBack 9 [l0, l1, l2, .int x] (.int x :: st) h := Rr_nx d_MTo_firstBack_8 rfl
theorem r_MTo_firstBack_9 : Rr X d MTo_firstBack 9 L st h = Rr X d MTo_firstBack 12 L (.int (400) :: st) h := Rr_nx d_MTo_firstBack_9 rfl
theorem r_MTo_firstBack_12 {x y : Int32} : Rr X d MTo_firstBack 12 L (.int y :: .int x :: st) h = if y ≤ x then Rr X d MTo_firstBack 38 L st h else Rr X d MTo_firstBack 15 L st h := R_ic_ge d_MTo_firstBack_12 (by decide)
theorem r_MTo_firstBack_15 {l1 l2 l3 : Value} {x : Nat} : Rr X d MTo_firstBack 15 [.ref x, l1, l2, l3] st h = Rr X d MTo_firstBack 16 [.ref x, l1, l2, l3] (.ref x :: st) h := Rr_nx d_MTo_firstBack_15 rfl
theorem r_MTo_firstBack_16 {a : Nat} (hq : (qR a 9 4).isSome = true) : Rr X d MTo_firstBack 16 L (.ref a :: st) (Wd mu la ro et) = Rr X d MTo_firstBack 19 L (.ref (qRd a 9 4) :: st) (Wd mu la ro et) := R_gfR d_MTo_firstBack_16 ff_9_37 hq
theorem ff_9_184 : fF 9 184 = some (5, 12, 0, 0) := rfl
theorem r_MTo_firstBack_19 {a : Nat} (hq : qI a 5 12 = true) : Rr X d MTo_firstBack 19 L (.ref a :: st) (Wd mu la ro et) = Rr X d MTo_firstBack 22 L (.int (mu a 12) :: st) (Wd mu la ro et) := R_gfI d_MTo_firstBack_19 ff_9_184 hq
theorem r_MTo_firstBack_22 {x : Int32} : Rr X d MTo_firstBack 22 L (.int x :: st) h = if ¬ x = 0 then Rr X d MTo_firstBack 38 L st h else Rr X d MTo_firstBack 25 L st h := R_if_ne d_MTo_firstBack_22 (by decide)
theorem r_MTo_firstBack_25 {l1 l2 l3 : Value} {x : Nat} : Rr X d MTo_firstBack 25 [.ref x, l1, l2, l3] st h = Rr X d MTo_firstBack 26 [.ref x, l1, l2, l3] (.ref x :: st) h := Rr_nx d_MTo_firstBack_25 rfl
theorem r_MTo_firstBack_26 {a : Nat} (hq : (qR a 9 4).isSome = true) : Rr X d MTo_firstBack 26 L (.ref a :: st) (Wd mu la ro et) = Rr X d MTo_firstBack 29 L (.ref (qRd a 9 4) :: st) (Wd mu la ro et) := R_gfR d_MTo_firstBack_26 ff_9_37 hq
theorem fc_9_315 : fC 9 315 = some (0, 5, 0, MMo_step) := rfl
theorem r_MTo_firstBack_29 {a : Nat} (hO : qO a 5 = true) (hc : ckS st = true) : Rr X (d + 1) MTo_firstBack 29 L (.ref a :: st) (Wd mu la ro et) = (Rr X d MMo_step 0 [.ref a, mkU] [] (Wd mu la ro et)).bind fun q => Rr X (d + 1) MTo_firstBack 32 L (psh q.1 st) q.2 := R_iv (av := []) d_MTo_firstBack_29 fc_9_315 hO (ckS_le hc) rfl (Nat.le_of_ble_eq_true rfl) (Nat.le_of_ble_eq_true rfl)
theorem r_MTo_firstBack_32 {l0 l1 l2 : Value} {x : Int32} : Rr X d MTo_firstBack 32 [l0, l1, l2, .int x] st h = Rr X d MTo_firstBack 35 (sL [l0, l1, l2, .int x] 3 (.int (x + (1)))) st h := Rr_nx d_MTo_firstBack_32 rfl
theorem r_MTo_firstBack_35 : Rr X d MTo_firstBack 35 L st h = Rr X d MTo_firstBack 8 L st h := R_goto d_MTo_firstBack_35 (by decide)
theorem r_MTo_firstBack_38 {l1 l2 l3 : Value} {x : Nat} : Rr X d MTo_firstBack 38 [.ref x, l1, l2, l3] st h = Rr X d MTo_firstBack 39 [.ref x, l1, l2, l3] (.ref x :: st) h := Rr_nx d_MTo_firstBack_38 rfl
theorem r_MTo_firstBack_39 {a : Nat} (hq : (qR a 9 4).isSome = true) : Rr X d MTo_firstBack 39 L (.ref a :: st) (Wd mu la ro et) = Rr X d MTo_firstBack 42 L (.ref (qRd a 9 4) :: st) (Wd mu la ro et) := R_gfR d_MTo_firstBack_39 ff_9_37 hq
theorem r_MTo_firstBack_42 {a : Nat} (hq : qI a 5 12 = true) : Rr X d MTo_firstBack 42 L (.ref a :: st) (Wd mu la ro et) = Rr X d MTo_firstBack 45 L (.int (mu a 12) :: st) (Wd mu la ro et) := R_gfI d_MTo_firstBack_42 ff_9_184 hq
theorem r_MTo_firstBack_45 {x : Int32} : Rr X d MTo_firstBack 45 L (.int x :: st) h = if ¬ x = 0 then Rr X d MTo_firstBack 52 L st h else Rr X d MTo_firstBack 48 L st h := R_if_ne d_MTo_firstBack_45 (by decide)
theorem r_MTo_firstBack_48 : Rr X d MTo_firstBack 48 L st h = Rr X d MTo_firstBack 49 L (.int (0) :: st) h := Rr_nx d_MTo_firstBack_48 rfl
theorem r_MTo_firstBack_49 : Rr X d MTo_firstBack 49 L st h = Rr X d MTo_firstBack 59 L st h := R_goto d_MTo_firstBack_49 (by decide)
theorem r_MTo_firstBack_52 {l1 l2 l3 : Value} {x : Nat} : Rr X d MTo_firstBack 52 [.ref x, l1, l2, l3] st h = Rr X d MTo_firstBack 53 [.ref x, l1, l2, l3] (.ref x :: st) h := Rr_nx d_MTo_firstBack_52 rfl
theorem r_MTo_firstBack_53 {a : Nat} (hq : (qR a 9 4).isSome = true) : Rr X d MTo_firstBack 53 L (.ref a :: st) (Wd mu la ro et) = Rr X d MTo_firstBack 56 L (.ref (qRd a 9 4) :: st) (Wd mu la ro et) := R_gfR d_MTo_firstBack_53 ff_9_37 hq
theorem ff_9_318 : fF 9 318 = some (5, 10, 0, 0) := rfl
theorem r_MTo_firstBack_56 {a : Nat} (hq : qI a 5 10 = true) : Rr X d MTo_firstBack 56 L (.ref a :: st) (Wd mu la ro et) = Rr X d MTo_firstBack 59 L (.int (mu a 10) :: st) (Wd mu la ro et) := R_gfI d_MTo_firstBack_56 ff_9_318 hq
theorem r_MTo_firstBack_59 {x : Int32} : Rr X d MTo_firstBack 59 L [.int x] h = some (some (.int x), h) := R_ir d_MTo_firstBack_59 rfl
end RULES
