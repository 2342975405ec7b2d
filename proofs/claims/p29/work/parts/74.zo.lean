section RULES
variable {X : Tok} {d : Nat} {st L : List Value} {h : Hp} {mu : Nat → Nat → Int32} {la : Nat → Nat → Int64} {ro : Nat → Nat → Option Nat} {et : Nat → Option va_E}
theorem d_MTo_act_0 : decode MTo_act.2.2.1 0 = .ok (.aload_n 0, 1) := lkT_ok tk_MTo_act rfl
theorem d_MTo_act_1 : decode MTo_act.2.2.1 1 = .ok (.getfield 65, 3) := lkT_ok tk_MTo_act rfl
theorem d_MTo_act_4 : decode MTo_act.2.2.1 4 = .ok (.iload_n 1, 1) := lkT_ok tk_MTo_act rfl
theorem d_MTo_act_5 : decode MTo_act.2.2.1 5 = .ok (.iload_n 2, 1) := lkT_ok tk_MTo_act rfl
theorem d_MTo_act_6 : decode MTo_act.2.2.1 6 = .ok (.iload_n 3, 1) := lkT_ok tk_MTo_act rfl
theorem d_MTo_act_7 : decode MTo_act.2.2.1 7 = .ok (.invokevirtual 249, 3) := lkT_ok tk_MTo_act rfl
theorem d_MTo_act_10 : decode MTo_act.2.2.1 10 = .ok (.ireturn, 1) := lkT_ok tk_MTo_act rfl
theorem r_MTo_act_0 {l1 l2 l3 : Value} {x : Nat} : Rr X d MTo_act 0 [.ref x, l1, l2, l3] st h = Rr X d MTo_act 1 [.ref x, l1, l2, l3] (.ref x :: st) h := Rr_nx d_MTo_act_0 rfl
theorem ff_9_65 : fF 9 65 = some (9, 8, 1, 1) := rfl
theorem r_MTo_act_1 {a : Nat} (hq : (qR a 9 8).isSome = true) : Rr X d MTo_act 1 L (.ref a :: st) (Wd mu la ro et) = Rr X d MTo_act 4 L (.ref (qRd a 9 8) :: st) (Wd mu la ro et) := R_gfR d_MTo_act_1 ff_9_65 hq
theorem r_MTo_act_4 {l0 l2 l3 : Value} {x : Int32} : Rr X d MTo_act 4 [l0, .int x, l2, l3] st h = Rr X d MTo_act 5 [l0, .int x, l2, l3] (.int x :: st) h := Rr_nx d_MTo_act_4 rfl
theorem r_MTo_act_5 {l0 l1 l3 : Value} {x : Int32} : Rr X d MTo_act 5 [l0, l1, .int x, l3] st h = Rr X d MTo_act 6 [l0, l1, .int x, l3] (.int x :: st) h := Rr_nx d_MTo_act_5 rfl
theorem r_MTo_act_6 {l0 l1 l2 : Value} {x : Int32} : Rr X d MTo_act 6 [l0, l1, l2, .int x] st h = Rr X d MTo_act 7 [l0, l1, l2, .int x] (.int x :: st) h := Rr_nx d_MTo_act_6 rfl
theorem fc_9_249 : fC 9 249 = some (0, 0, 3, MBo_perform) := rfl
theorem r_MTo_act_7 {y0 : Int32} {y1 : Int32} {y2 : Int32} {a : Nat} (hO : qO a 0 = true) (hc : ckS st = true) : Rr X (d + 1) MTo_act 7 L (.int y2 :: .int y1 :: .int y0 :: .ref a :: st) (Wd mu la ro et) = (Rr X d MBo_perform 0 [.ref a, .int y0, .int y1, .int y2] [] (Wd mu la ro et)).bind fun q => Rr X (d + 1) MTo_act 10 L (psh q.1 st) q.2 := R_iv (av := [.int y2, .int y1, .int y0]) d_MTo_act_7 fc_9_249 hO (ckS_le hc) rfl (Nat.le_of_ble_eq_true rfl) (Nat.le_of_ble_eq_true rfl)
theorem r_MTo_act_10 {x : Int32} : Rr X d MTo_act 10 L [.int x] h = some (some (.int x), h) := R_ir d_MTo_act_10 rfl
theorem d_MBo_perform_0 : decode MBo_perform.2.2.1 0 = .ok (.aload_n 0, 1) := lkT_ok tk_MBo_perform rfl
theorem d_MBo_perform_1 : decode MBo_perform.2.2.1 1 = .ok (.iconst 0, 1) := lkT_ok tk_MBo_perform rfl
theorem d_MBo_perform_2 : decode MBo_perform.2.2.1 2 = .ok (.putfield 32, 3) := lkT_ok tk_MBo_perform rfl
theorem d_MBo_perform_5 : decode MBo_perform.2.2.1 5 = .ok (.aload_n 0, 1) := lkT_ok tk_MBo_perform rfl
theorem d_MBo_perform_6 : decode MBo_perform.2.2.1 6 = .ok (.aload_n 0, 1) := lkT_ok tk_MBo_perform rfl
theorem d_MBo_perform_7 : decode MBo_perform.2.2.1 7 = .ok (.iload_n 1, 1) := lkT_ok tk_MBo_perform rfl
theorem d_MBo_perform_8 : decode MBo_perform.2.2.1 8 = .ok (.invokevirtual 35, 3) := lkT_ok tk_MBo_perform rfl
theorem d_MBo_perform_11 : decode MBo_perform.2.2.1 11 = .ok (.putfield 38, 3) := lkT_ok tk_MBo_perform rfl
theorem d_MBo_perform_14 : decode MBo_perform.2.2.1 14 = .ok (.aload_n 0, 1) := lkT_ok tk_MBo_perform rfl
theorem d_MBo_perform_15 : decode MBo_perform.2.2.1 15 = .ok (.iload_n 1, 1) := lkT_ok tk_MBo_perform rfl
theorem d_MBo_perform_16 : decode MBo_perform.2.2.1 16 = .ok (.putfield 41, 3) := lkT_ok tk_MBo_perform rfl
theorem d_MBo_perform_19 : decode MBo_perform.2.2.1 19 = .ok (.aload_n 0, 1) := lkT_ok tk_MBo_perform rfl
theorem d_MBo_perform_20 : decode MBo_perform.2.2.1 20 = .ok (.getfield 38, 3) := lkT_ok tk_MBo_perform rfl
theorem d_MBo_perform_23 : decode MBo_perform.2.2.1 23 = .ok (.iconst (-1), 1) := lkT_ok tk_MBo_perform rfl
theorem d_MBo_perform_24 : decode MBo_perform.2.2.1 24 = .ok (.if_icmp .eq 12, 3) := lkT_ok tk_MBo_perform rfl
theorem d_MBo_perform_27 : decode MBo_perform.2.2.1 27 = .ok (.iload_n 2, 1) := lkT_ok tk_MBo_perform rfl
theorem d_MBo_perform_28 : decode MBo_perform.2.2.1 28 = .ok (.ifCond .lt 8, 3) := lkT_ok tk_MBo_perform rfl
theorem d_MBo_perform_31 : decode MBo_perform.2.2.1 31 = .ok (.iload_n 2, 1) := lkT_ok tk_MBo_perform rfl
theorem d_MBo_perform_32 : decode MBo_perform.2.2.1 32 = .ok (.iconst 4, 1) := lkT_ok tk_MBo_perform rfl
theorem d_MBo_perform_33 : decode MBo_perform.2.2.1 33 = .ok (.if_icmp .lt 7, 3) := lkT_ok tk_MBo_perform rfl
theorem d_MBo_perform_36 : decode MBo_perform.2.2.1 36 = .ok (.iconst 0, 1) := lkT_ok tk_MBo_perform rfl
theorem d_MBo_perform_37 : decode MBo_perform.2.2.1 37 = .ok (.goto 14, 3) := lkT_ok tk_MBo_perform rfl
theorem d_MBo_perform_40 : decode MBo_perform.2.2.1 40 = .ok (.aload_n 0, 1) := lkT_ok tk_MBo_perform rfl
theorem d_MBo_perform_41 : decode MBo_perform.2.2.1 41 = .ok (.aload_n 0, 1) := lkT_ok tk_MBo_perform rfl
theorem d_MBo_perform_42 : decode MBo_perform.2.2.1 42 = .ok (.getfield 38, 3) := lkT_ok tk_MBo_perform rfl
theorem d_MBo_perform_45 : decode MBo_perform.2.2.1 45 = .ok (.iload_n 2, 1) := lkT_ok tk_MBo_perform rfl
theorem d_MBo_perform_46 : decode MBo_perform.2.2.1 46 = .ok (.iload_n 3, 1) := lkT_ok tk_MBo_perform rfl
theorem d_MBo_perform_47 : decode MBo_perform.2.2.1 47 = .ok (.iconst 0, 1) := lkT_ok tk_MBo_perform rfl
theorem d_MBo_perform_48 : decode MBo_perform.2.2.1 48 = .ok (.invokevirtual 44, 3) := lkT_ok tk_MBo_perform rfl
theorem d_MBo_perform_51 : decode MBo_perform.2.2.1 51 = .ok (.ireturn, 1) := lkT_ok tk_MBo_perform rfl
theorem r_MBo_perform_0 {l1 l2 l3 : Value} {x : Nat} : Rr X d MBo_perform 0 [.ref x, l1, l2, l3] st h = Rr X d MBo_perform 1 [.ref x, l1, l2, l3] (.ref x :: st) h := Rr_nx d_MBo_perform_0 rfl
theorem r_MBo_perform_1 : Rr X d MBo_perform 1 L st h = Rr X d MBo_perform 2 L (.int (0) :: st) h := Rr_nx d_MBo_perform_1 rfl
theorem ff_0_32 : fF 0 32 = some (0, 3, 0, 0) := rfl
theorem r_MBo_perform_2 {a : Nat} {x : Int32} (hq : qI a 0 3 = true) : Rr X d MBo_perform 2 L (.int x :: .ref a :: st) (Wd mu la ro et) = Rr X d MBo_perform 5 L st (Wd (up2 mu a 3 x) la ro et) := R_pfI d_MBo_perform_2 ff_0_32 hq
theorem r_MBo_perform_5 {l1 l2 l3 : Value} {x : Nat} : Rr X d MBo_perform 5 [.ref x, l1, l2, l3] st h = Rr X d MBo_perform 6 [.ref x, l1, l2, l3] (.ref x :: st) h := Rr_nx d_MBo_perform_5 rfl
theorem r_MBo_perform_6 {l1 l2 l3 : Value} {x : Nat} : Rr X d MBo_perform 6 [.ref x, l1, l2, l3] st h = Rr X d MBo_perform 7 [.ref x, l1, l2, l3] (.ref x :: st) h := Rr_nx d_MBo_perform_6 rfl
theorem r_MBo_perform_7 {l0 l2 l3 : Value} {x : Int32} : Rr X d MBo_perform 7 [l0, .int x, l2, l3] st h = Rr X d MBo_perform 8 [l0, .int x, l2, l3] (.int x :: st) h := Rr_nx d_MBo_perform_7 rfl
theorem fc_0_35 : fC 0 35 = some (0, 0, 1, MBo_kindOf) := rfl
theorem r_MBo_perform_8 {y0 : Int32} {a : Nat} (hO : qO a 0 = true) (hc : ckS st = true) : Rr X (d + 1) MBo_perform 8 L (.int y0 :: .ref a :: st) (Wd mu la ro et) = (Rr X d MBo_kindOf 0 [.ref a, .int y0] [] (Wd mu la ro et)).bind fun q => Rr X (d + 1) MBo_perform 11 L (psh q.1 st) q.2 := R_iv (av := [.int y0]) d_MBo_perform_8 fc_0_35 hO (ckS_le hc) rfl (Nat.le_of_ble_eq_true rfl) (Nat.le_of_ble_eq_true rfl)
theorem ff_0_38 : fF 0 38 = some (0, 5, 0, 0) := rfl
theorem r_MBo_perform_11 {a : Nat} {x : Int32} (hq : qI a 0 5 = true) : Rr X d MBo_perform 11 L (.int x :: .ref a :: st) (Wd mu la ro et) = Rr X d MBo_perform 14 L st (Wd (up2 mu a 5 x) la ro et) := R_pfI d_MBo_perform_11 ff_0_38 hq
theorem r_MBo_perform_14 {l1 l2 l3 : Value} {x : Nat} : Rr X d MBo_perform 14 [.ref x, l1, l2, l3] st h = Rr X d MBo_perform 15 [.ref x, l1, l2, l3] (.ref x :: st) h := Rr_nx d_MBo_perform_14 rfl
theorem r_MBo_perform_15 {l0 l2 l3 : Value} {x : Int32} : Rr X d MBo_perform 15 [l0, .int x, l2, l3] st h = Rr X d MBo_perform 16 [l0, .int x, l2, l3] (.int x :: st) h := Rr_nx d_MBo_perform_15 rfl
theorem ff_0_41 : fF 0 41 = some (0, 4, 0, 0) := rfl
theorem r_MBo_perform_16 {a : Nat} {x : Int32} (hq : qI a 0 4 = true) : Rr X d MBo_perform 16 L (.int x :: .ref a :: st) (Wd mu la ro et) = Rr X d MBo_perform 19 L st (Wd (up2 mu a 4 x) la ro et) := R_pfI d_MBo_perform_16 ff_0_41 hq
theorem r_MBo_perform_19 {l1 l2 l3 : Value} {x : Nat} : Rr X d MBo_perform 19 [.ref x, l1, l2, l3] st h = Rr X d MBo_perform 20 [.ref x, l1, l2, l3] (.ref x :: st) h := Rr_nx d_MBo_perform_19 rfl
theorem r_MBo_perform_20 {a : Nat} (hq : qI a 0 5 = true) : Rr X d MBo_perform 20 L (.ref a :: st) (Wd mu la ro et) = Rr X d MBo_perform 23 L (.int (mu a 5) :: st) (Wd mu la ro et) := R_gfI d_MBo_perform_20 ff_0_38 hq
theorem r_MBo_perform_23 : Rr X d MBo_perform 23 L st h = Rr X d MBo_perform 24 L (.int (-1) :: st) h := Rr_nx d_MBo_perform_23 rfl
theorem r_MBo_perform_24 {x y : Int32} : Rr X d MBo_perform 24 L (.int y :: .int x :: st) h = if x = y then Rr X d MBo_perform 36 L st h else Rr X d MBo_perform 27 L st h := R_ic_eq d_MBo_perform_24 (by decide)
theorem r_MBo_perform_27 {l0 l1 l3 : Value} {x : Int32} : Rr X d MBo_perform 27 [l0, l1, .int x, l3] st h = Rr X d MBo_perform 28 [l0, l1, .int x, l3] (.int x :: st) h := Rr_nx d_MBo_perform_27 rfl
theorem r_MBo_perform_28 {x : Int32} : Rr X d MBo_perform 28 L (.int x :: st) h = if x < 0 then Rr X d MBo_perform 36 L st h else Rr X d MBo_perform 31 L st h := R_if_lt d_MBo_perform_28 (by decide)
theorem r_MBo_perform_31 {l0 l1 l3 : Value} {x : Int32} : Rr X d MBo_perform 31 [l0, l1, .int x, l3] st h = Rr X d MBo_perform 32 [l0, l1, .int x, l3] (.int x :: st) h := Rr_nx d_MBo_perform_31 rfl
theorem r_MBo_perform_32 : Rr X d MBo_perform 32 L st h = Rr X d MBo_perform 33 L (.int (4) :: st) h := Rr_nx d_MBo_perform_32 rfl
theorem r_MBo_perform_33 {x y : Int32} : Rr X d MBo_perform 33 L (.int y :: .int x :: st) h = if x < y then Rr X d MBo_perform 40 L st h else Rr X d MBo_perform 36 L st h := R_ic_lt d_MBo_perform_33 (by decide)
theorem r_MBo_perform_36 : Rr X d MBo_perform 36 L st h = Rr X d MBo_perform 37 L (.int (0) :: st) h := Rr_nx d_MBo_perform_36 rfl
theorem r_MBo_perform_37 : Rr X d MBo_perform 37 L st h = Rr X d MBo_perform 51 L st h := R_goto d_MBo_perform_37 (by decide)
theorem r_MBo_perform_40 {l1 l2 l3 : Value} {x : Nat} : Rr X d MBo_perform 40 [.ref x, l1, l2, l3] st h = Rr X d MBo_perform 41 [.ref x, l1, l2, l3] (.ref x :: st) h := Rr_nx d_MBo_perform_40 rfl
theorem r_MBo_perform_41 {l1 l2 l3 : Value} {x : Nat} : Rr X d MBo_perform 41 [.ref x, l1, l2, l3] st h = Rr X d MBo_perform 42 [.ref x, l1, l2, l3] (.ref x :: st) h := Rr_nx d_MBo_perform_41 rfl
theorem r_MBo_perform_42 {a : Nat} (hq : qI a 0 5 = true) : Rr X d MBo_perform 42 L (.ref a :: st) (Wd mu la ro et) = Rr X d MBo_perform 45 L (.int (mu a 5) :: st) (Wd mu la ro et) := R_gfI d_MBo_perform_42 ff_0_38 hq
theorem r_MBo_perform_45 {l0 l1 l3 : Value} {x : Int32} : Rr X d MBo_perform 45 [l0, l1, .int x, l3] st h = Rr X d MBo_perform 46 [l0, l1, .int x, l3] (.int x :: st) h := Rr_nx d_MBo_perform_45 rfl
theorem r_MBo_perform_46 {l0 l1 l2 : Value} {x : Int32} : Rr X d MBo_perform 46 [l0, l1, l2, .int x] st h = Rr X d MBo_perform 47 [l0, l1, l2, .int x] (.int x :: st) h := Rr_nx d_MBo_perform_46 rfl
theorem r_MBo_perform_47 : Rr X d MBo_perform 47 L st h = Rr X d MBo_perform 48 L (.int (0) :: st) h := Rr_nx d_MBo_perform_47 rfl
theorem fc_0_44 : fC 0 44 = some (0, 0, 4, MBo_ask) := rfl
theorem r_MBo_perform_48 {y0 : Int32} {y1 : Int32} {y2 : Int32} {y3 : Int32} {a : Nat} (hO : qO a 0 = true) (hc : ckS st = true) : Rr X (d + 1) MBo_perform 48 L (.int y3 :: .int y2 :: .int y1 :: .int y0 :: .ref a :: st) (Wd mu la ro et) = (Rr X d MBo_ask 0 [.ref a, .int y0, .int y1, .int y2, .int y3, mkU, mkU] [] (Wd mu la ro et)).bind fun q => Rr X (d + 1) MBo_perform 51 L (psh q.1 st) q.2 := R_iv (av := [.int y3, .int y2, .int y1, .int y0]) d_MBo_perform_48 fc_0_44 hO (ckS_le hc) rfl (Nat.le_of_ble_eq_true rfl) (Nat.le_of_ble_eq_true rfl)
theorem r_MBo_perform_51 {x : Int32} : Rr X d MBo_perform 51 L [.int x] h = some (some (.int x), h) := R_ir d_MBo_perform_51 rfl
theorem d_MBo_kindOf_0 : decode MBo_kindOf.2.2.1 0 = .ok (.iload_n 1, 1) := lkT_ok tk_MBo_kindOf rfl
theorem d_MBo_kindOf_1 : decode MBo_kindOf.2.2.1 1 = .ok (.ifCond .lt 26, 3) := lkT_ok tk_MBo_kindOf rfl
theorem d_MBo_kindOf_4 : decode MBo_kindOf.2.2.1 4 = .ok (.iload_n 1, 1) := lkT_ok tk_MBo_kindOf rfl
theorem d_MBo_kindOf_5 : decode MBo_kindOf.2.2.1 5 = .ok (.aload_n 0, 1) := lkT_ok tk_MBo_kindOf rfl
theorem d_MBo_kindOf_6 : decode MBo_kindOf.2.2.1 6 = .ok (.getfield 18, 3) := lkT_ok tk_MBo_kindOf rfl
theorem d_MBo_kindOf_9 : decode MBo_kindOf.2.2.1 9 = .ok (.if_icmp .ge 18, 3) := lkT_ok tk_MBo_kindOf rfl
theorem d_MBo_kindOf_12 : decode MBo_kindOf.2.2.1 12 = .ok (.iload_n 1, 1) := lkT_ok tk_MBo_kindOf rfl
theorem d_MBo_kindOf_13 : decode MBo_kindOf.2.2.1 13 = .ok (.bipush 50, 2) := lkT_ok tk_MBo_kindOf rfl
theorem d_MBo_kindOf_15 : decode MBo_kindOf.2.2.1 15 = .ok (.if_icmp .ge 12, 3) := lkT_ok tk_MBo_kindOf rfl
theorem d_MBo_kindOf_18 : decode MBo_kindOf.2.2.1 18 = .ok (.aload_n 0, 1) := lkT_ok tk_MBo_kindOf rfl
theorem d_MBo_kindOf_19 : decode MBo_kindOf.2.2.1 19 = .ok (.getfield 11, 3) := lkT_ok tk_MBo_kindOf rfl
theorem d_MBo_kindOf_22 : decode MBo_kindOf.2.2.1 22 = .ok (.iload_n 1, 1) := lkT_ok tk_MBo_kindOf rfl
theorem d_MBo_kindOf_23 : decode MBo_kindOf.2.2.1 23 = .ok (.iaload, 1) := lkT_ok tk_MBo_kindOf rfl
theorem d_MBo_kindOf_24 : decode MBo_kindOf.2.2.1 24 = .ok (.goto 4, 3) := lkT_ok tk_MBo_kindOf rfl
theorem d_MBo_kindOf_27 : decode MBo_kindOf.2.2.1 27 = .ok (.iconst (-1), 1) := lkT_ok tk_MBo_kindOf rfl
theorem d_MBo_kindOf_28 : decode MBo_kindOf.2.2.1 28 = .ok (.ireturn, 1) := lkT_ok tk_MBo_kindOf rfl
theorem r_MBo_kindOf_0 {l0 : Value} {x : Int32} : Rr X d MBo_kindOf 0 [l0, .int x] st h = Rr X d MBo_kindOf 1 [l0, .int x] (.int x :: st) h := Rr_nx d_MBo_kindOf_0 rfl
theorem r_MBo_kindOf_1 {x : Int32} : Rr X d MBo_kindOf 1 L (.int x :: st) h = if x < 0 then Rr X d MBo_kindOf 27 L st h else Rr X d MBo_kindOf 4 L st h := R_if_lt d_MBo_kindOf_1 (by decide)
theorem r_MBo_kindOf_4 {l0 : Value} {x : Int32} : Rr X d MBo_kindOf 4 [l0, .int x] st h = Rr X d MBo_kindOf 5 [l0, .int x] (.int x :: st) h := Rr_nx d_MBo_kindOf_4 rfl
theorem r_MBo_kindOf_5 {l1 : Value} {x : Nat} : Rr X d MBo_kindOf 5 [.ref x, l1] st h = Rr X d MBo_kindOf 6 [.ref x, l1] (.ref x :: st) h := Rr_nx d_MBo_kindOf_5 rfl
theorem ff_0_18 : fF 0 18 = some (0, 2, 0, 0) := rfl
theorem r_MBo_kindOf_6 {a : Nat} (hq : qI a 0 2 = true) : Rr X d MBo_kindOf 6 L (.ref a :: st) (Wd mu la ro et) = Rr X d MBo_kindOf 9 L (.int (mu a 2) :: st) (Wd mu la ro et) := R_gfI d_MBo_kindOf_6 ff_0_18 hq
theorem r_MBo_kindOf_9 {x y : Int32} : Rr X d MBo_kindOf 9 L (.int y :: .int x :: st) h = if y ≤ x then Rr X d MBo_kindOf 27 L st h else Rr X d MBo_kindOf 12 L st h := R_ic_ge d_MBo_kindOf_9 (by decide)
theorem r_MBo_kindOf_12 {l0 : Value} {x : Int32} : Rr X d MBo_kindOf 12 [l0, .int x] st h = Rr X d MBo_kindOf 13 [l0, .int x] (.int x :: st) h := Rr_nx d_MBo_kindOf_12 rfl
theorem r_MBo_kindOf_13 : Rr X d MBo_kindOf 13 L st h = Rr X d MBo_kindOf 15 L (.int (50) :: st) h := Rr_nx d_MBo_kindOf_13 rfl
theorem r_MBo_kindOf_15 {x y : Int32} : Rr X d MBo_kindOf 15 L (.int y :: .int x :: st) h = if y ≤ x then Rr X d MBo_kindOf 27 L st h else Rr X d MBo_kindOf 18 L st h := R_ic_ge d_MBo_kindOf_15 (by decide)
theorem r_MBo_kindOf_18 {l1 : Value} {x : Nat} : Rr X d MBo_kindOf 18 [.ref x, l1] st h = Rr X d MBo_kindOf 19 [.ref x, l1] (.ref x :: st) h := Rr_nx d_MBo_kindOf_18 rfl
theorem ff_0_11 : fF 0 11 = some (0, 0, 1, 1) := rfl
theorem r_MBo_kindOf_19 {a : Nat} (hq : (qR a 0 0).isSome = true) : Rr X d MBo_kindOf 19 L (.ref a :: st) (Wd mu la ro et) = Rr X d MBo_kindOf 22 L (.ref (qRd a 0 0) :: st) (Wd mu la ro et) := R_gfR d_MBo_kindOf_19 ff_0_11 hq
theorem r_MBo_kindOf_22 {l0 : Value} {x : Int32} : Rr X d MBo_kindOf 22 [l0, .int x] st h = Rr X d MBo_kindOf 23 [l0, .int x] (.int x :: st) h := Rr_nx d_MBo_kindOf_22 rfl
theorem r_MBo_kindOf_23 {a : Nat} {j : Int32} (hq : (qA a 0).isSome = true) : Rr X d MBo_kindOf 23 L (.int j :: .ref a :: st) (Wd mu la ro et) = if j < 0 ∨ qAd a 0 ≤ j.toNatClampNeg then none else Rr X d MBo_kindOf 24 L (.int (mu a j.toNatClampNeg) :: st) (Wd mu la ro et) := R_ialW d_MBo_kindOf_23 hq
theorem r_MBo_kindOf_23a {j : Int32} (hx : X 1 = some (8, fun j => abL.getD j 0)) : Rr X d MBo_kindOf 23 L (.int j :: .float 1 :: st) h = if j < 0 ∨ 8 ≤ j.toNatClampNeg then none else Rr X d MBo_kindOf 24 L (.int (abL.getD j.toNatClampNeg 0) :: st) h := R_ialX d_MBo_kindOf_23 hx
theorem r_MBo_kindOf_23o {j : Int32} (hx : X 2 = some (32, fun j => owL.getD j 0)) : Rr X d MBo_kindOf 23 L (.int j :: .float 2 :: st) h = if j < 0 ∨ 32 ≤ j.toNatClampNeg then none else Rr X d MBo_kindOf 24 L (.int (owL.getD j.toNatClampNeg 0) :: st) h := R_ialX d_MBo_kindOf_23 hx
theorem r_MBo_kindOf_24 : Rr X d MBo_kindOf 24 L st h = Rr X d MBo_kindOf 28 L st h := R_goto d_MBo_kindOf_24 (by decide)
theorem r_MBo_kindOf_27 : Rr X d MBo_kindOf 27 L st h = Rr X d MBo_kindOf 28 L (.int (-1) :: st) h := Rr_nx d_MBo_kindOf_27 rfl
theorem r_MBo_kindOf_28 {x : Int32} : Rr X d MBo_kindOf 28 L [.int x] h = some (some (.int x), h) := R_ir d_MBo_kindOf_28 rfl
theorem d_MBo_above_0 : decode MBo_above.2.2.1 0 = .ok (.iload_n 0, 1) := lkT_ok tk_MBo_above rfl
theorem d_MBo_above_1 : decode MBo_above.2.2.1 1 = .ok (.ifCond .lt 19, 3) := lkT_ok tk_MBo_above rfl
theorem d_MBo_above_4 : decode MBo_above.2.2.1 4 = .ok (.iload_n 0, 1) := lkT_ok tk_MBo_above rfl
theorem d_MBo_above_5 : decode MBo_above.2.2.1 5 = .ok (.getstatic 22, 3) := lkT_ok tk_MBo_above rfl
theorem d_MBo_above_8 : decode MBo_above.2.2.1 8 = .ok (.arraylength, 1) := lkT_ok tk_MBo_above rfl
theorem d_MBo_above_9 : decode MBo_above.2.2.1 9 = .ok (.if_icmp .ge 11, 3) := lkT_ok tk_MBo_above rfl
theorem d_MBo_above_12 : decode MBo_above.2.2.1 12 = .ok (.getstatic 22, 3) := lkT_ok tk_MBo_above rfl
theorem d_MBo_above_15 : decode MBo_above.2.2.1 15 = .ok (.iload_n 0, 1) := lkT_ok tk_MBo_above rfl
theorem d_MBo_above_16 : decode MBo_above.2.2.1 16 = .ok (.iaload, 1) := lkT_ok tk_MBo_above rfl
theorem d_MBo_above_17 : decode MBo_above.2.2.1 17 = .ok (.goto 4, 3) := lkT_ok tk_MBo_above rfl
theorem d_MBo_above_20 : decode MBo_above.2.2.1 20 = .ok (.iconst (-1), 1) := lkT_ok tk_MBo_above rfl
theorem d_MBo_above_21 : decode MBo_above.2.2.1 21 = .ok (.ireturn, 1) := lkT_ok tk_MBo_above rfl
theorem r_MBo_above_0 {x : Int32} : Rr X d MBo_above 0 [.int x] st h = Rr X d MBo_above 1 [.int x] (.int x :: st) h := Rr_nx d_MBo_above_0 rfl
theorem r_MBo_above_1 {x : Int32} : Rr X d MBo_above 1 L (.int x :: st) h = if x < 0 then Rr X d MBo_above 20 L st h else Rr X d MBo_above 4 L st h := R_if_lt d_MBo_above_1 (by decide)
theorem r_MBo_above_4 {x : Int32} : Rr X d MBo_above 4 [.int x] st h = Rr X d MBo_above 5 [.int x] (.int x :: st) h := Rr_nx d_MBo_above_4 rfl
theorem r_MBo_above_5 : Rr X d MBo_above 5 L st h = Rr X d MBo_above 8 L (.float 1 :: st) h := Rr_nx d_MBo_above_5 rfl
theorem r_MBo_above_8 {a : Nat} (hq : (qL a).isSome = true) : Rr X d MBo_above 8 L (.ref a :: st) (Wd mu la ro et) = Rr X d MBo_above 9 L (.int (Int32.ofNat (qLd a)) :: st) (Wd mu la ro et) := R_lenW d_MBo_above_8 hq
theorem r_MBo_above_8a (hx : X 1 = some (8, fun j => abL.getD j 0)) : Rr X d MBo_above 8 L (.float 1 :: st) h = Rr X d MBo_above 9 L (.int (Int32.ofNat 8) :: st) h := R_lenX d_MBo_above_8 hx
theorem r_MBo_above_8o (hx : X 2 = some (32, fun j => owL.getD j 0)) : Rr X d MBo_above 8 L (.float 2 :: st) h = Rr X d MBo_above 9 L (.int (Int32.ofNat 32) :: st) h := R_lenX d_MBo_above_8 hx
theorem r_MBo_above_9 {x y : Int32} : Rr X d MBo_above 9 L (.int y :: .int x :: st) h = if y ≤ x then Rr X d MBo_above 20 L st h else Rr X d MBo_above 12 L st h := R_ic_ge d_MBo_above_9 (by decide)
theorem r_MBo_above_12 : Rr X d MBo_above 12 L st h = Rr X d MBo_above 15 L (.float 1 :: st) h := Rr_nx d_MBo_above_12 rfl
theorem r_MBo_above_15 {x : Int32} : Rr X d MBo_above 15 [.int x] st h = Rr X d MBo_above 16 [.int x] (.int x :: st) h := Rr_nx d_MBo_above_15 rfl
theorem r_MBo_above_16 {a : Nat} {j : Int32} (hq : (qA a 0).isSome = true) : Rr X d MBo_above 16 L (.int j :: .ref a :: st) (Wd mu la ro et) = if j < 0 ∨ qAd a 0 ≤ j.toNatClampNeg then none else Rr X d MBo_above 17 L (.int (mu a j.toNatClampNeg) :: st) (Wd mu la ro et) := R_ialW d_MBo_above_16 hq
theorem r_MBo_above_16a {j : Int32} (hx : X 1 = some (8, fun j => abL.getD j 0)) : Rr X d MBo_above 16 L (.int j :: .float 1 :: st) h = if j < 0 ∨ 8 ≤ j.toNatClampNeg then none else Rr X d MBo_above 17 L (.int (abL.getD j.toNatClampNeg 0) :: st) h := R_ialX d_MBo_above_16 hx
theorem r_MBo_above_16o {j : Int32} (hx : X 2 = some (32, fun j => owL.getD j 0)) : Rr X d MBo_above 16 L (.int j :: .float 2 :: st) h = if j < 0 ∨ 32 ≤ j.toNatClampNeg then none else Rr X d MBo_above 17 L (.int (owL.getD j.toNatClampNeg 0) :: st) h := R_ialX d_MBo_above_16 hx
theorem r_MBo_above_17 : Rr X d MBo_above 17 L st h = Rr X d MBo_above 21 L st h := R_goto d_MBo_above_17 (by decide)
theorem r_MBo_above_20 : Rr X d MBo_above 20 L st h = Rr X d MBo_above 21 L (.int (-1) :: st) h := Rr_nx d_MBo_above_20 rfl
theorem r_MBo_above_21 {x : Int32} : Rr X d MBo_above 21 L [.int x] h = some (some (.int x), h) := R_ir d_MBo_above_21 rfl
theorem d_MBo_ask_0 : decode MBo_ask.2.2.1 0 = .ok (.iload_n 1, 1) := lkT_ok tk_MBo_ask rfl
theorem d_MBo_ask_1 : decode MBo_ask.2.2.1 1 = .ok (.istore 5, 2) := lkT_ok tk_MBo_ask rfl
theorem d_MBo_ask_3 : decode MBo_ask.2.2.1 3 = .ok (.iconst 0, 1) := lkT_ok tk_MBo_ask rfl
theorem d_MBo_ask_4 : decode MBo_ask.2.2.1 4 = .ok (.istore 6, 2) := lkT_ok tk_MBo_ask rfl
theorem d_MBo_ask_6 : decode MBo_ask.2.2.1 6 = .ok (.iload 6, 2) := lkT_ok tk_MBo_ask rfl
theorem d_MBo_ask_8 : decode MBo_ask.2.2.1 8 = .ok (.getstatic 22, 3) := lkT_ok tk_MBo_ask rfl
theorem d_MBo_ask_11 : decode MBo_ask.2.2.1 11 = .ok (.arraylength, 1) := lkT_ok tk_MBo_ask rfl
theorem d_MBo_ask_12 : decode MBo_ask.2.2.1 12 = .ok (.if_icmp .ge 25, 3) := lkT_ok tk_MBo_ask rfl
theorem d_MBo_ask_15 : decode MBo_ask.2.2.1 15 = .ok (.iload 5, 2) := lkT_ok tk_MBo_ask rfl
theorem d_MBo_ask_17 : decode MBo_ask.2.2.1 17 = .ok (.iload_n 2, 1) := lkT_ok tk_MBo_ask rfl
theorem d_MBo_ask_18 : decode MBo_ask.2.2.1 18 = .ok (.invokestatic 48, 3) := lkT_ok tk_MBo_ask rfl
theorem d_MBo_ask_21 : decode MBo_ask.2.2.1 21 = .ok (.ifCond .ne 16, 3) := lkT_ok tk_MBo_ask rfl
theorem d_MBo_ask_24 : decode MBo_ask.2.2.1 24 = .ok (.iload 5, 2) := lkT_ok tk_MBo_ask rfl
theorem d_MBo_ask_26 : decode MBo_ask.2.2.1 26 = .ok (.invokestatic 25, 3) := lkT_ok tk_MBo_ask rfl
theorem d_MBo_ask_29 : decode MBo_ask.2.2.1 29 = .ok (.istore 5, 2) := lkT_ok tk_MBo_ask rfl
theorem d_MBo_ask_31 : decode MBo_ask.2.2.1 31 = .ok (.iinc 6 1, 3) := lkT_ok tk_MBo_ask rfl
theorem d_MBo_ask_34 : decode MBo_ask.2.2.1 34 = .ok (.goto (-28), 3) := lkT_ok tk_MBo_ask rfl
theorem d_MBo_ask_37 : decode MBo_ask.2.2.1 37 = .ok (.iload 5, 2) := lkT_ok tk_MBo_ask rfl
theorem d_MBo_ask_39 : decode MBo_ask.2.2.1 39 = .ok (.iload_n 2, 1) := lkT_ok tk_MBo_ask rfl
theorem d_MBo_ask_40 : decode MBo_ask.2.2.1 40 = .ok (.invokestatic 48, 3) := lkT_ok tk_MBo_ask rfl
theorem d_MBo_ask_43 : decode MBo_ask.2.2.1 43 = .ok (.istore 6, 2) := lkT_ok tk_MBo_ask rfl
theorem d_MBo_ask_45 : decode MBo_ask.2.2.1 45 = .ok (.iload 6, 2) := lkT_ok tk_MBo_ask rfl
theorem d_MBo_ask_47 : decode MBo_ask.2.2.1 47 = .ok (.ifCond .eq 10, 3) := lkT_ok tk_MBo_ask rfl
theorem d_MBo_ask_50 : decode MBo_ask.2.2.1 50 = .ok (.iload 4, 2) := lkT_ok tk_MBo_ask rfl
theorem d_MBo_ask_52 : decode MBo_ask.2.2.1 52 = .ok (.bipush 40, 2) := lkT_ok tk_MBo_ask rfl
theorem d_MBo_ask_54 : decode MBo_ask.2.2.1 54 = .ok (.if_icmp .le 5, 3) := lkT_ok tk_MBo_ask rfl
theorem d_MBo_ask_57 : decode MBo_ask.2.2.1 57 = .ok (.iconst 0, 1) := lkT_ok tk_MBo_ask rfl
theorem d_MBo_ask_58 : decode MBo_ask.2.2.1 58 = .ok (.ireturn, 1) := lkT_ok tk_MBo_ask rfl
theorem d_MBo_ask_59 : decode MBo_ask.2.2.1 59 = .ok (.aload_n 0, 1) := lkT_ok tk_MBo_ask rfl
theorem d_MBo_ask_60 : decode MBo_ask.2.2.1 60 = .ok (.getfield 32, 3) := lkT_ok tk_MBo_ask rfl
theorem d_MBo_ask_63 : decode MBo_ask.2.2.1 63 = .ok (.ifCond .lt 23, 3) := lkT_ok tk_MBo_ask rfl
theorem d_MBo_ask_66 : decode MBo_ask.2.2.1 66 = .ok (.aload_n 0, 1) := lkT_ok tk_MBo_ask rfl
theorem d_MBo_ask_67 : decode MBo_ask.2.2.1 67 = .ok (.getfield 32, 3) := lkT_ok tk_MBo_ask rfl
theorem d_MBo_ask_70 : decode MBo_ask.2.2.1 70 = .ok (.bipush 24, 2) := lkT_ok tk_MBo_ask rfl
theorem d_MBo_ask_72 : decode MBo_ask.2.2.1 72 = .ok (.if_icmp .ge 14, 3) := lkT_ok tk_MBo_ask rfl
theorem d_MBo_ask_75 : decode MBo_ask.2.2.1 75 = .ok (.aload_n 0, 1) := lkT_ok tk_MBo_ask rfl
theorem d_MBo_ask_76 : decode MBo_ask.2.2.1 76 = .ok (.getfield 15, 3) := lkT_ok tk_MBo_ask rfl
theorem d_MBo_ask_79 : decode MBo_ask.2.2.1 79 = .ok (.aload_n 0, 1) := lkT_ok tk_MBo_ask rfl
theorem d_MBo_ask_80 : decode MBo_ask.2.2.1 80 = .ok (.getfield 32, 3) := lkT_ok tk_MBo_ask rfl
theorem d_MBo_ask_83 : decode MBo_ask.2.2.1 83 = .ok (.iload 6, 2) := lkT_ok tk_MBo_ask rfl
theorem d_MBo_ask_85 : decode MBo_ask.2.2.1 85 = .ok (.iastore, 1) := lkT_ok tk_MBo_ask rfl
theorem d_MBo_ask_86 : decode MBo_ask.2.2.1 86 = .ok (.aload_n 0, 1) := lkT_ok tk_MBo_ask rfl
theorem d_MBo_ask_87 : decode MBo_ask.2.2.1 87 = .ok (.dup, 1) := lkT_ok tk_MBo_ask rfl
theorem d_MBo_ask_88 : decode MBo_ask.2.2.1 88 = .ok (.getfield 32, 3) := lkT_ok tk_MBo_ask rfl
theorem d_MBo_ask_91 : decode MBo_ask.2.2.1 91 = .ok (.iconst 1, 1) := lkT_ok tk_MBo_ask rfl
theorem d_MBo_ask_92 : decode MBo_ask.2.2.1 92 = .ok (.iadd, 1) := lkT_ok tk_MBo_ask rfl
theorem d_MBo_ask_93 : decode MBo_ask.2.2.1 93 = .ok (.putfield 32, 3) := lkT_ok tk_MBo_ask rfl
theorem d_MBo_ask_96 : decode MBo_ask.2.2.1 96 = .ok (.aload_n 0, 1) := lkT_ok tk_MBo_ask rfl
theorem d_MBo_ask_97 : decode MBo_ask.2.2.1 97 = .ok (.iload 6, 2) := lkT_ok tk_MBo_ask rfl
theorem d_MBo_ask_99 : decode MBo_ask.2.2.1 99 = .ok (.iload 5, 2) := lkT_ok tk_MBo_ask rfl
theorem d_MBo_ask_101 : decode MBo_ask.2.2.1 101 = .ok (.invokestatic 25, 3) := lkT_ok tk_MBo_ask rfl
theorem d_MBo_ask_104 : decode MBo_ask.2.2.1 104 = .ok (.iload_n 3, 1) := lkT_ok tk_MBo_ask rfl
theorem d_MBo_ask_105 : decode MBo_ask.2.2.1 105 = .ok (.iload 4, 2) := lkT_ok tk_MBo_ask rfl
theorem d_MBo_ask_107 : decode MBo_ask.2.2.1 107 = .ok (.iconst 1, 1) := lkT_ok tk_MBo_ask rfl
theorem d_MBo_ask_108 : decode MBo_ask.2.2.1 108 = .ok (.iadd, 1) := lkT_ok tk_MBo_ask rfl
theorem d_MBo_ask_109 : decode MBo_ask.2.2.1 109 = .ok (.invokevirtual 52, 3) := lkT_ok tk_MBo_ask rfl
theorem d_MBo_ask_112 : decode MBo_ask.2.2.1 112 = .ok (.ireturn, 1) := lkT_ok tk_MBo_ask rfl
theorem r_MBo_ask_0 {l0 l2 l3 l4 l5 l6 : Value} {x : Int32} : Rr X d MBo_ask 0 [l0, .int x, l2, l3, l4, l5, l6] st h = Rr X d MBo_ask 1 [l0, .int x, l2, l3, l4, l5, l6] (.int x :: st) h := Rr_nx d_MBo_ask_0 rfl
theorem r_MBo_ask_1 {l0 l1 l2 l3 l4 l5 l6 : Value} {x : Int32} : Rr X d MBo_ask 1 [l0, l1, l2, l3, l4, l5, l6] (.int x :: st) h = Rr X d MBo_ask 3 (sL [l0, l1, l2, l3, l4, l5, l6] 5 (.int x)) st h := Rr_nx d_MBo_ask_1 rfl
theorem r_MBo_ask_3 : Rr X d MBo_ask 3 L st h = Rr X d MBo_ask 4 L (.int (0) :: st) h := Rr_nx d_MBo_ask_3 rfl
theorem r_MBo_ask_4 {l0 l1 l2 l3 l4 l5 l6 : Value} {x : Int32} : Rr X d MBo_ask 4 [l0, l1, l2, l3, l4, l5, l6] (.int x :: st) h = Rr X d MBo_ask 6 (sL [l0, l1, l2, l3, l4, l5, l6] 6 (.int x)) st h := Rr_nx d_MBo_ask_4 rfl
theorem r_MBo_ask_6 {l0 l1 l2 l3 l4 l5 : Value} {x : Int32} : Rr X d MBo_ask 6 [l0, l1, l2, l3, l4, l5, .int x] st h = Rr X d MBo_ask 8 [l0, l1, l2, l3, l4, l5, .int x] (.int x :: st) h := Rr_nx d_MBo_ask_6 rfl
theorem r_MBo_ask_8 : Rr X d MBo_ask 8 L st h = Rr X d MBo_ask 11 L (.float 1 :: st) h := Rr_nx d_MBo_ask_8 rfl
theorem r_MBo_ask_11 {a : Nat} (hq : (qL a).isSome = true) : Rr X d MBo_ask 11 L (.ref a :: st) (Wd mu la ro et) = Rr X d MBo_ask 12 L (.int (Int32.ofNat (qLd a)) :: st) (Wd mu la ro et) := R_lenW d_MBo_ask_11 hq
theorem r_MBo_ask_11a (hx : X 1 = some (8, fun j => abL.getD j 0)) : Rr X d MBo_ask 11 L (.float 1 :: st) h = Rr X d MBo_ask 12 L (.int (Int32.ofNat 8) :: st) h := R_lenX d_MBo_ask_11 hx
theorem r_MBo_ask_11o (hx : X 2 = some (32, fun j => owL.getD j 0)) : Rr X d MBo_ask 11 L (.float 2 :: st) h = Rr X d MBo_ask 12 L (.int (Int32.ofNat 32) :: st) h := R_lenX d_MBo_ask_11 hx
theorem r_MBo_ask_12 {x y : Int32} : Rr X d MBo_ask 12 L (.int y :: .int x :: st) h = if y ≤ x then Rr X d MBo_ask 37 L st h else Rr X d MBo_ask 15 L st h := R_ic_ge d_MBo_ask_12 (by decide)
theorem r_MBo_ask_15 {l0 l1 l2 l3 l4 l6 : Value} {x : Int32} : Rr X d MBo_ask 15 [l0, l1, l2, l3, l4, .int x, l6] st h = Rr X d MBo_ask 17 [l0, l1, l2, l3, l4, .int x, l6] (.int x :: st) h := Rr_nx d_MBo_ask_15 rfl
theorem r_MBo_ask_17 {l0 l1 l3 l4 l5 l6 : Value} {x : Int32} : Rr X d MBo_ask 17 [l0, l1, .int x, l3, l4, l5, l6] st h = Rr X d MBo_ask 18 [l0, l1, .int x, l3, l4, l5, l6] (.int x :: st) h := Rr_nx d_MBo_ask_17 rfl
theorem fc_0_48 : fC 0 48 = some (1, 0, 2, MBo_ownNumber) := rfl
theorem r_MBo_ask_18 {y0 : Int32} {y1 : Int32} (hc : ckS st = true) : Rr X (d + 1) MBo_ask 18 L (.int y1 :: .int y0 :: st) h = (Rr X d MBo_ownNumber 0 [.int y0, .int y1, mkU] [] h).bind fun q => Rr X (d + 1) MBo_ask 21 L (psh q.1 st) q.2 := R_is (av := [.int y1, .int y0]) d_MBo_ask_18 (Or.inl fc_0_48) (ckS_le hc) rfl (Nat.le_of_ble_eq_true rfl) (Nat.le_of_ble_eq_true rfl)
theorem r_MBo_ask_21 {x : Int32} : Rr X d MBo_ask 21 L (.int x :: st) h = if ¬ x = 0 then Rr X d MBo_ask 37 L st h else Rr X d MBo_ask 24 L st h := R_if_ne d_MBo_ask_21 (by decide)
theorem r_MBo_ask_24 {l0 l1 l2 l3 l4 l6 : Value} {x : Int32} : Rr X d MBo_ask 24 [l0, l1, l2, l3, l4, .int x, l6] st h = Rr X d MBo_ask 26 [l0, l1, l2, l3, l4, .int x, l6] (.int x :: st) h := Rr_nx d_MBo_ask_24 rfl
theorem fc_0_25 : fC 0 25 = some (1, 0, 1, MBo_above) := rfl
theorem r_MBo_ask_26 {y0 : Int32} (hc : ckS st = true) : Rr X (d + 1) MBo_ask 26 L (.int y0 :: st) h = (Rr X d MBo_above 0 [.int y0] [] h).bind fun q => Rr X (d + 1) MBo_ask 29 L (psh q.1 st) q.2 := R_is (av := [.int y0]) d_MBo_ask_26 (Or.inl fc_0_25) (ckS_le hc) rfl (Nat.le_of_ble_eq_true rfl) (Nat.le_of_ble_eq_true rfl)
theorem r_MBo_ask_29 {l0 l1 l2 l3 l4 l5 l6 : Value} {x : Int32} : Rr X d MBo_ask 29 [l0, l1, l2, l3, l4, l5, l6] (.int x :: st) h = Rr X d MBo_ask 31 (sL [l0, l1, l2, l3, l4, l5, l6] 5 (.int x)) st h := Rr_nx d_MBo_ask_29 rfl
theorem r_MBo_ask_31 {l0 l1 l2 l3 l4 l5 : Value} {x : Int32} : Rr X d MBo_ask 31 [l0, l1, l2, l3, l4, l5, .int x] st h = Rr X d MBo_ask 34 (sL [l0, l1, l2, l3, l4, l5, .int x] 6 (.int (x + (1)))) st h := Rr_nx d_MBo_ask_31 rfl
theorem r_MBo_ask_34 : Rr X d MBo_ask 34 L st h = Rr X d MBo_ask 6 L st h := R_goto d_MBo_ask_34 (by decide)
theorem r_MBo_ask_37 {l0 l1 l2 l3 l4 l6 : Value} {x : Int32} : Rr X d MBo_ask 37 [l0, l1, l2, l3, l4, .int x, l6] st h = Rr X d MBo_ask 39 [l0, l1, l2, l3, l4, .int x, l6] (.int x :: st) h := Rr_nx d_MBo_ask_37 rfl
theorem r_MBo_ask_39 {l0 l1 l3 l4 l5 l6 : Value} {x : Int32} : Rr X d MBo_ask 39 [l0, l1, .int x, l3, l4, l5, l6] st h = Rr X d MBo_ask 40 [l0, l1, .int x, l3, l4, l5, l6] (.int x :: st) h := Rr_nx d_MBo_ask_39 rfl
theorem r_MBo_ask_40 {y0 : Int32} {y1 : Int32} (hc : ckS st = true) : Rr X (d + 1) MBo_ask 40 L (.int y1 :: .int y0 :: st) h = (Rr X d MBo_ownNumber 0 [.int y0, .int y1, mkU] [] h).bind fun q => Rr X (d + 1) MBo_ask 43 L (psh q.1 st) q.2 := R_is (av := [.int y1, .int y0]) d_MBo_ask_40 (Or.inl fc_0_48) (ckS_le hc) rfl (Nat.le_of_ble_eq_true rfl) (Nat.le_of_ble_eq_true rfl)
theorem r_MBo_ask_43 {l0 l1 l2 l3 l4 l5 l6 : Value} {x : Int32} : Rr X d MBo_ask 43 [l0, l1, l2, l3, l4, l5, l6] (.int x :: st) h = Rr X d MBo_ask 45 (sL [l0, l1, l2, l3, l4, l5, l6] 6 (.int x)) st h := Rr_nx d_MBo_ask_43 rfl
theorem r_MBo_ask_45 {l0 l1 l2 l3 l4 l5 : Value} {x : Int32} : Rr X d MBo_ask 45 [l0, l1, l2, l3, l4, l5, .int x] st h = Rr X d MBo_ask 47 [l0, l1, l2, l3, l4, l5, .int x] (.int x :: st) h := Rr_nx d_MBo_ask_45 rfl
theorem r_MBo_ask_47 {x : Int32} : Rr X d MBo_ask 47 L (.int x :: st) h = if x = 0 then Rr X d MBo_ask 57 L st h else Rr X d MBo_ask 50 L st h := R_if_eq d_MBo_ask_47 (by decide)
theorem r_MBo_ask_50 {l0 l1 l2 l3 l5 l6 : Value} {x : Int32} : Rr X d MBo_ask 50 [l0, l1, l2, l3, .int x, l5, l6] st h = Rr X d MBo_ask 52 [l0, l1, l2, l3, .int x, l5, l6] (.int x :: st) h := Rr_nx d_MBo_ask_50 rfl
theorem r_MBo_ask_52 : Rr X d MBo_ask 52 L st h = Rr X d MBo_ask 54 L (.int (40) :: st) h := Rr_nx d_MBo_ask_52 rfl
theorem r_MBo_ask_54 {x y : Int32} : Rr X d MBo_ask 54 L (.int y :: .int x :: st) h = if x ≤ y then Rr X d MBo_ask 59 L st h else Rr X d MBo_ask 57 L st h := R_ic_le d_MBo_ask_54 (by decide)
theorem r_MBo_ask_57 : Rr X d MBo_ask 57 L st h = Rr X d MBo_ask 58 L (.int (0) :: st) h := Rr_nx d_MBo_ask_57 rfl
theorem r_MBo_ask_58 {x : Int32} : Rr X d MBo_ask 58 L [.int x] h = some (some (.int x), h) := R_ir d_MBo_ask_58 rfl
theorem r_MBo_ask_59 {l1 l2 l3 l4 l5 l6 : Value} {x : Nat} : Rr X d MBo_ask 59 [.ref x, l1, l2, l3, l4, l5, l6] st h = Rr X d MBo_ask 60 [.ref x, l1, l2, l3, l4, l5, l6] (.ref x :: st) h := Rr_nx d_MBo_ask_59 rfl
theorem r_MBo_ask_60 {a : Nat} (hq : qI a 0 3 = true) : Rr X d MBo_ask 60 L (.ref a :: st) (Wd mu la ro et) = Rr X d MBo_ask 63 L (.int (mu a 3) :: st) (Wd mu la ro et) := R_gfI d_MBo_ask_60 ff_0_32 hq
theorem r_MBo_ask_63 {x : Int32} : Rr X d MBo_ask 63 L (.int x :: st) h = if x < 0 then Rr X d MBo_ask 86 L st h else Rr X d MBo_ask 66 L st h := R_if_lt d_MBo_ask_63 (by decide)
theorem r_MBo_ask_66 {l1 l2 l3 l4 l5 l6 : Value} {x : Nat} : Rr X d MBo_ask 66 [.ref x, l1, l2, l3, l4, l5, l6] st h = Rr X d MBo_ask 67 [.ref x, l1, l2, l3, l4, l5, l6] (.ref x :: st) h := Rr_nx d_MBo_ask_66 rfl
theorem r_MBo_ask_67 {a : Nat} (hq : qI a 0 3 = true) : Rr X d MBo_ask 67 L (.ref a :: st) (Wd mu la ro et) = Rr X d MBo_ask 70 L (.int (mu a 3) :: st) (Wd mu la ro et) := R_gfI d_MBo_ask_67 ff_0_32 hq
theorem r_MBo_ask_70 : Rr X d MBo_ask 70 L st h = Rr X d MBo_ask 72 L (.int (24) :: st) h := Rr_nx d_MBo_ask_70 rfl
theorem r_MBo_ask_72 {x y : Int32} : Rr X d MBo_ask 72 L (.int y :: .int x :: st) h = if y ≤ x then Rr X d MBo_ask 86 L st h else Rr X d MBo_ask 75 L st h := R_ic_ge d_MBo_ask_72 (by decide)
theorem r_MBo_ask_75 {l1 l2 l3 l4 l5 l6 : Value} {x : Nat} : Rr X d MBo_ask 75 [.ref x, l1, l2, l3, l4, l5, l6] st h = Rr X d MBo_ask 76 [.ref x, l1, l2, l3, l4, l5, l6] (.ref x :: st) h := Rr_nx d_MBo_ask_75 rfl
theorem ff_0_15 : fF 0 15 = some (0, 1, 1, 1) := rfl
theorem r_MBo_ask_76 {a : Nat} (hq : (qR a 0 1).isSome = true) : Rr X d MBo_ask 76 L (.ref a :: st) (Wd mu la ro et) = Rr X d MBo_ask 79 L (.ref (qRd a 0 1) :: st) (Wd mu la ro et) := R_gfR d_MBo_ask_76 ff_0_15 hq
theorem r_MBo_ask_79 {l1 l2 l3 l4 l5 l6 : Value} {x : Nat} : Rr X d MBo_ask 79 [.ref x, l1, l2, l3, l4, l5, l6] st h = Rr X d MBo_ask 80 [.ref x, l1, l2, l3, l4, l5, l6] (.ref x :: st) h := Rr_nx d_MBo_ask_79 rfl
theorem r_MBo_ask_80 {a : Nat} (hq : qI a 0 3 = true) : Rr X d MBo_ask 80 L (.ref a :: st) (Wd mu la ro et) = Rr X d MBo_ask 83 L (.int (mu a 3) :: st) (Wd mu la ro et) := R_gfI d_MBo_ask_80 ff_0_32 hq
theorem r_MBo_ask_83 {l0 l1 l2 l3 l4 l5 : Value} {x : Int32} : Rr X d MBo_ask 83 [l0, l1, l2, l3, l4, l5, .int x] st h = Rr X d MBo_ask 85 [l0, l1, l2, l3, l4, l5, .int x] (.int x :: st) h := Rr_nx d_MBo_ask_83 rfl
theorem r_MBo_ask_85 {a : Nat} {j x : Int32} (hq : (qA a 0).isSome = true) : Rr X d MBo_ask 85 L (.int x :: .int j :: .ref a :: st) (Wd mu la ro et) = if j < 0 ∨ qAd a 0 ≤ j.toNatClampNeg then none else Rr X d MBo_ask 86 L st (Wd (up2 mu a j.toNatClampNeg (x)) la ro et) := R_iasW d_MBo_ask_85 hq
theorem r_MBo_ask_86 {l1 l2 l3 l4 l5 l6 : Value} {x : Nat} : Rr X d MBo_ask 86 [.ref x, l1, l2, l3, l4, l5, l6] st h = Rr X d MBo_ask 87 [.ref x, l1, l2, l3, l4, l5, l6] (.ref x :: st) h := Rr_nx d_MBo_ask_86 rfl
theorem r_MBo_ask_87 {x : Nat} : Rr X d MBo_ask 87 L (.ref x :: st) h = Rr X d MBo_ask 88 L (.ref x :: .ref x :: st) h := Rr_nx d_MBo_ask_87 rfl
theorem r_MBo_ask_87i {x : Int32} : Rr X d MBo_ask 87 L (.int x :: st) h = Rr X d MBo_ask 88 L (.int x :: .int x :: st) h := Rr_nx d_MBo_ask_87 rfl
theorem r_MBo_ask_88 {a : Nat} (hq : qI a 0 3 = true) : Rr X d MBo_ask 88 L (.ref a :: st) (Wd mu la ro et) = Rr X d MBo_ask 91 L (.int (mu a 3) :: st) (Wd mu la ro et) := R_gfI d_MBo_ask_88 ff_0_32 hq
theorem r_MBo_ask_91 : Rr X d MBo_ask 91 L st h = Rr X d MBo_ask 92 L (.int (1) :: st) h := Rr_nx d_MBo_ask_91 rfl
theorem r_MBo_ask_92 {x y : Int32} : Rr X d MBo_ask 92 L (.int y :: .int x :: st) h = Rr X d MBo_ask 93 L (.int (x + y) :: st) h := Rr_nx d_MBo_ask_92 rfl
theorem r_MBo_ask_93 {a : Nat} {x : Int32} (hq : qI a 0 3 = true) : Rr X d MBo_ask 93 L (.int x :: .ref a :: st) (Wd mu la ro et) = Rr X d MBo_ask 96 L st (Wd (up2 mu a 3 x) la ro et) := R_pfI d_MBo_ask_93 ff_0_32 hq
theorem r_MBo_ask_96 {l1 l2 l3 l4 l5 l6 : Value} {x : Nat} : Rr X d MBo_ask 96 [.ref x, l1, l2, l3, l4, l5, l6] st h = Rr X d MBo_ask 97 [.ref x, l1, l2, l3, l4, l5, l6] (.ref x :: st) h := Rr_nx d_MBo_ask_96 rfl
theorem r_MBo_ask_97 {l0 l1 l2 l3 l4 l5 : Value} {x : Int32} : Rr X d MBo_ask 97 [l0, l1, l2, l3, l4, l5, .int x] st h = Rr X d MBo_ask 99 [l0, l1, l2, l3, l4, l5, .int x] (.int x :: st) h := Rr_nx d_MBo_ask_97 rfl
theorem r_MBo_ask_99 {l0 l1 l2 l3 l4 l6 : Value} {x : Int32} : Rr X d MBo_ask 99 [l0, l1, l2, l3, l4, .int x, l6] st h = Rr X d MBo_ask 101 [l0, l1, l2, l3, l4, .int x, l6] (.int x :: st) h := Rr_nx d_MBo_ask_99 rfl
theorem r_MBo_ask_101 {y0 : Int32} (hc : ckS st = true) : Rr X (d + 1) MBo_ask 101 L (.int y0 :: st) h = (Rr X d MBo_above 0 [.int y0] [] h).bind fun q => Rr X (d + 1) MBo_ask 104 L (psh q.1 st) q.2 := R_is (av := [.int y0]) d_MBo_ask_101 (Or.inl fc_0_25) (ckS_le hc) rfl (Nat.le_of_ble_eq_true rfl) (Nat.le_of_ble_eq_true rfl)
theorem r_MBo_ask_104 {l0 l1 l2 l4 l5 l6 : Value} {x : Int32} : Rr X d MBo_ask 104 [l0, l1, l2, .int x, l4, l5, l6] st h = Rr X d MBo_ask 105 [l0, l1, l2, .int x, l4, l5, l6] (.int x :: st) h := Rr_nx d_MBo_ask_104 rfl
theorem r_MBo_ask_105 {l0 l1 l2 l3 l5 l6 : Value} {x : Int32} : Rr X d MBo_ask 105 [l0, l1, l2, l3, .int x, l5, l6] st h = Rr X d MBo_ask 107 [l0, l1, l2, l3, .int x, l5, l6] (.int x :: st) h := Rr_nx d_MBo_ask_105 rfl
theorem r_MBo_ask_107 : Rr X d MBo_ask 107 L st h = Rr X d MBo_ask 108 L (.int (1) :: st) h := Rr_nx d_MBo_ask_107 rfl
theorem r_MBo_ask_108 {x y : Int32} : Rr X d MBo_ask 108 L (.int y :: .int x :: st) h = Rr X d MBo_ask 109 L (.int (x + y) :: st) h := Rr_nx d_MBo_ask_108 rfl
theorem fc_0_52 : fC 0 52 = some (0, 0, 4, MBo_run) := rfl
theorem r_MBo_ask_109 {y0 : Int32} {y1 : Int32} {y2 : Int32} {y3 : Int32} {a : Nat} (hO : qO a 0 = true) (hc : ckS st = true) : Rr X (d + 1) MBo_ask 109 L (.int y3 :: .int y2 :: .int y1 :: .int y0 :: .ref a :: st) (Wd mu la ro et) = (Rr X d MBo_run 0 [.ref a, .int y0, .int y1, .int y2, .int y3] [] (Wd mu la ro et)).bind fun q => Rr X (d + 1) MBo_ask 112 L (psh q.1 st) q.2 := R_iv (av := [.int y3, .int y2, .int y1, .int y0]) d_MBo_ask_109 fc_0_52 hO (ckS_le hc) rfl (Nat.le_of_ble_eq_true rfl) (Nat.le_of_ble_eq_true rfl)
theorem r_MBo_ask_112 {x : Int32} : Rr X d MBo_ask 112 L [.int x] h = some (some (.int x), h) := R_ir d_MBo_ask_112 rfl
theorem d_MBo_run_0 : decode MBo_run.2.2.1 0 = .ok (.iload_n 1, 1) := lkT_ok tk_MBo_run rfl
theorem d_MBo_run_1 : decode MBo_run.2.2.1 1 = .ok (.lookupswitch 330 #[(1, 123), (2, 130), (10, 156), (11, 171), (20, 178), (30, 190), (40, 201), (41, 213), (50, 225), (60, 237), (61, 249), (70, 272), (80, 284), (81, 307)], 123) := lkT_ok tk_MBo_run rfl
theorem d_MBo_run_124 : decode MBo_run.2.2.1 124 = .ok (.iload_n 3, 1) := lkT_ok tk_MBo_run rfl
theorem d_MBo_run_125 : decode MBo_run.2.2.1 125 = .ok (.aload_n 0, 1) := lkT_ok tk_MBo_run rfl
theorem d_MBo_run_126 : decode MBo_run.2.2.1 126 = .ok (.getfield 41, 3) := lkT_ok tk_MBo_run rfl
theorem d_MBo_run_129 : decode MBo_run.2.2.1 129 = .ok (.iadd, 1) := lkT_ok tk_MBo_run rfl
theorem d_MBo_run_130 : decode MBo_run.2.2.1 130 = .ok (.ireturn, 1) := lkT_ok tk_MBo_run rfl
theorem d_MBo_run_131 : decode MBo_run.2.2.1 131 = .ok (.aload_n 0, 1) := lkT_ok tk_MBo_run rfl
theorem d_MBo_run_132 : decode MBo_run.2.2.1 132 = .ok (.aload_n 0, 1) := lkT_ok tk_MBo_run rfl
theorem d_MBo_run_133 : decode MBo_run.2.2.1 133 = .ok (.getfield 38, 3) := lkT_ok tk_MBo_run rfl
theorem d_MBo_run_136 : decode MBo_run.2.2.1 136 = .ok (.iconst 1, 1) := lkT_ok tk_MBo_run rfl
theorem d_MBo_run_137 : decode MBo_run.2.2.1 137 = .ok (.iload_n 3, 1) := lkT_ok tk_MBo_run rfl
theorem d_MBo_run_138 : decode MBo_run.2.2.1 138 = .ok (.iload 4, 2) := lkT_ok tk_MBo_run rfl
theorem d_MBo_run_140 : decode MBo_run.2.2.1 140 = .ok (.invokevirtual 44, 3) := lkT_ok tk_MBo_run rfl
theorem d_MBo_run_143 : decode MBo_run.2.2.1 143 = .ok (.aload_n 0, 1) := lkT_ok tk_MBo_run rfl
theorem d_MBo_run_144 : decode MBo_run.2.2.1 144 = .ok (.aload_n 0, 1) := lkT_ok tk_MBo_run rfl
theorem d_MBo_run_145 : decode MBo_run.2.2.1 145 = .ok (.getfield 38, 3) := lkT_ok tk_MBo_run rfl
theorem d_MBo_run_148 : decode MBo_run.2.2.1 148 = .ok (.iconst 2, 1) := lkT_ok tk_MBo_run rfl
theorem d_MBo_run_149 : decode MBo_run.2.2.1 149 = .ok (.iconst 1, 1) := lkT_ok tk_MBo_run rfl
theorem d_MBo_run_150 : decode MBo_run.2.2.1 150 = .ok (.iload 4, 2) := lkT_ok tk_MBo_run rfl
theorem d_MBo_run_152 : decode MBo_run.2.2.1 152 = .ok (.invokevirtual 44, 3) := lkT_ok tk_MBo_run rfl
theorem d_MBo_run_155 : decode MBo_run.2.2.1 155 = .ok (.isub, 1) := lkT_ok tk_MBo_run rfl
theorem d_MBo_run_156 : decode MBo_run.2.2.1 156 = .ok (.ireturn, 1) := lkT_ok tk_MBo_run rfl
theorem d_MBo_run_157 : decode MBo_run.2.2.1 157 = .ok (.aload_n 0, 1) := lkT_ok tk_MBo_run rfl
theorem d_MBo_run_158 : decode MBo_run.2.2.1 158 = .ok (.aload_n 0, 1) := lkT_ok tk_MBo_run rfl
theorem d_MBo_run_159 : decode MBo_run.2.2.1 159 = .ok (.getfield 38, 3) := lkT_ok tk_MBo_run rfl
theorem d_MBo_run_162 : decode MBo_run.2.2.1 162 = .ok (.iconst 0, 1) := lkT_ok tk_MBo_run rfl
theorem d_MBo_run_163 : decode MBo_run.2.2.1 163 = .ok (.iload_n 3, 1) := lkT_ok tk_MBo_run rfl
theorem d_MBo_run_164 : decode MBo_run.2.2.1 164 = .ok (.iload 4, 2) := lkT_ok tk_MBo_run rfl
theorem d_MBo_run_166 : decode MBo_run.2.2.1 166 = .ok (.invokevirtual 44, 3) := lkT_ok tk_MBo_run rfl
theorem d_MBo_run_169 : decode MBo_run.2.2.1 169 = .ok (.iconst 2, 1) := lkT_ok tk_MBo_run rfl
theorem d_MBo_run_170 : decode MBo_run.2.2.1 170 = .ok (.imul, 1) := lkT_ok tk_MBo_run rfl
theorem d_MBo_run_171 : decode MBo_run.2.2.1 171 = .ok (.ireturn, 1) := lkT_ok tk_MBo_run rfl
theorem d_MBo_run_172 : decode MBo_run.2.2.1 172 = .ok (.iload_n 3, 1) := lkT_ok tk_MBo_run rfl
theorem d_MBo_run_173 : decode MBo_run.2.2.1 173 = .ok (.aload_n 0, 1) := lkT_ok tk_MBo_run rfl
theorem d_MBo_run_174 : decode MBo_run.2.2.1 174 = .ok (.getfield 41, 3) := lkT_ok tk_MBo_run rfl
theorem d_MBo_run_177 : decode MBo_run.2.2.1 177 = .ok (.ixor, 1) := lkT_ok tk_MBo_run rfl
theorem d_MBo_run_178 : decode MBo_run.2.2.1 178 = .ok (.ireturn, 1) := lkT_ok tk_MBo_run rfl
theorem d_MBo_run_179 : decode MBo_run.2.2.1 179 = .ok (.aload_n 0, 1) := lkT_ok tk_MBo_run rfl
theorem d_MBo_run_180 : decode MBo_run.2.2.1 180 = .ok (.iload_n 2, 1) := lkT_ok tk_MBo_run rfl
theorem d_MBo_run_181 : decode MBo_run.2.2.1 181 = .ok (.iconst 0, 1) := lkT_ok tk_MBo_run rfl
theorem d_MBo_run_182 : decode MBo_run.2.2.1 182 = .ok (.iload_n 3, 1) := lkT_ok tk_MBo_run rfl
theorem d_MBo_run_183 : decode MBo_run.2.2.1 183 = .ok (.iload 4, 2) := lkT_ok tk_MBo_run rfl
theorem d_MBo_run_185 : decode MBo_run.2.2.1 185 = .ok (.invokevirtual 44, 3) := lkT_ok tk_MBo_run rfl
theorem d_MBo_run_188 : decode MBo_run.2.2.1 188 = .ok (.iconst 3, 1) := lkT_ok tk_MBo_run rfl
theorem d_MBo_run_189 : decode MBo_run.2.2.1 189 = .ok (.iadd, 1) := lkT_ok tk_MBo_run rfl
theorem d_MBo_run_190 : decode MBo_run.2.2.1 190 = .ok (.ireturn, 1) := lkT_ok tk_MBo_run rfl
theorem d_MBo_run_191 : decode MBo_run.2.2.1 191 = .ok (.aload_n 0, 1) := lkT_ok tk_MBo_run rfl
theorem d_MBo_run_192 : decode MBo_run.2.2.1 192 = .ok (.iload_n 2, 1) := lkT_ok tk_MBo_run rfl
theorem d_MBo_run_193 : decode MBo_run.2.2.1 193 = .ok (.iconst 1, 1) := lkT_ok tk_MBo_run rfl
theorem d_MBo_run_194 : decode MBo_run.2.2.1 194 = .ok (.iload_n 3, 1) := lkT_ok tk_MBo_run rfl
theorem d_MBo_run_195 : decode MBo_run.2.2.1 195 = .ok (.iload 4, 2) := lkT_ok tk_MBo_run rfl
theorem d_MBo_run_197 : decode MBo_run.2.2.1 197 = .ok (.invokevirtual 44, 3) := lkT_ok tk_MBo_run rfl
theorem d_MBo_run_200 : decode MBo_run.2.2.1 200 = .ok (.ineg, 1) := lkT_ok tk_MBo_run rfl
theorem d_MBo_run_201 : decode MBo_run.2.2.1 201 = .ok (.ireturn, 1) := lkT_ok tk_MBo_run rfl
theorem d_MBo_run_202 : decode MBo_run.2.2.1 202 = .ok (.aload_n 0, 1) := lkT_ok tk_MBo_run rfl
theorem d_MBo_run_203 : decode MBo_run.2.2.1 203 = .ok (.iload_n 2, 1) := lkT_ok tk_MBo_run rfl
theorem d_MBo_run_204 : decode MBo_run.2.2.1 204 = .ok (.iconst 2, 1) := lkT_ok tk_MBo_run rfl
theorem d_MBo_run_205 : decode MBo_run.2.2.1 205 = .ok (.iload_n 3, 1) := lkT_ok tk_MBo_run rfl
theorem d_MBo_run_206 : decode MBo_run.2.2.1 206 = .ok (.iload 4, 2) := lkT_ok tk_MBo_run rfl
theorem d_MBo_run_208 : decode MBo_run.2.2.1 208 = .ok (.invokevirtual 44, 3) := lkT_ok tk_MBo_run rfl
theorem d_MBo_run_211 : decode MBo_run.2.2.1 211 = .ok (.iconst 3, 1) := lkT_ok tk_MBo_run rfl
theorem d_MBo_run_212 : decode MBo_run.2.2.1 212 = .ok (.imul, 1) := lkT_ok tk_MBo_run rfl
theorem d_MBo_run_213 : decode MBo_run.2.2.1 213 = .ok (.ireturn, 1) := lkT_ok tk_MBo_run rfl
theorem d_MBo_run_214 : decode MBo_run.2.2.1 214 = .ok (.aload_n 0, 1) := lkT_ok tk_MBo_run rfl
theorem d_MBo_run_215 : decode MBo_run.2.2.1 215 = .ok (.iload_n 2, 1) := lkT_ok tk_MBo_run rfl
theorem d_MBo_run_216 : decode MBo_run.2.2.1 216 = .ok (.iconst 1, 1) := lkT_ok tk_MBo_run rfl
theorem d_MBo_run_217 : decode MBo_run.2.2.1 217 = .ok (.iload_n 3, 1) := lkT_ok tk_MBo_run rfl
theorem d_MBo_run_218 : decode MBo_run.2.2.1 218 = .ok (.iconst 1, 1) := lkT_ok tk_MBo_run rfl
theorem d_MBo_run_219 : decode MBo_run.2.2.1 219 = .ok (.iadd, 1) := lkT_ok tk_MBo_run rfl
theorem d_MBo_run_220 : decode MBo_run.2.2.1 220 = .ok (.iload 4, 2) := lkT_ok tk_MBo_run rfl
theorem d_MBo_run_222 : decode MBo_run.2.2.1 222 = .ok (.invokevirtual 44, 3) := lkT_ok tk_MBo_run rfl
theorem d_MBo_run_225 : decode MBo_run.2.2.1 225 = .ok (.ireturn, 1) := lkT_ok tk_MBo_run rfl
theorem d_MBo_run_226 : decode MBo_run.2.2.1 226 = .ok (.aload_n 0, 1) := lkT_ok tk_MBo_run rfl
theorem d_MBo_run_227 : decode MBo_run.2.2.1 227 = .ok (.iload_n 2, 1) := lkT_ok tk_MBo_run rfl
theorem d_MBo_run_228 : decode MBo_run.2.2.1 228 = .ok (.iconst 3, 1) := lkT_ok tk_MBo_run rfl
theorem d_MBo_run_229 : decode MBo_run.2.2.1 229 = .ok (.iload_n 3, 1) := lkT_ok tk_MBo_run rfl
theorem d_MBo_run_230 : decode MBo_run.2.2.1 230 = .ok (.iload 4, 2) := lkT_ok tk_MBo_run rfl
theorem d_MBo_run_232 : decode MBo_run.2.2.1 232 = .ok (.invokevirtual 44, 3) := lkT_ok tk_MBo_run rfl
theorem d_MBo_run_235 : decode MBo_run.2.2.1 235 = .ok (.iconst 5, 1) := lkT_ok tk_MBo_run rfl
theorem d_MBo_run_236 : decode MBo_run.2.2.1 236 = .ok (.ixor, 1) := lkT_ok tk_MBo_run rfl
theorem d_MBo_run_237 : decode MBo_run.2.2.1 237 = .ok (.ireturn, 1) := lkT_ok tk_MBo_run rfl
theorem d_MBo_run_238 : decode MBo_run.2.2.1 238 = .ok (.aload_n 0, 1) := lkT_ok tk_MBo_run rfl
theorem d_MBo_run_239 : decode MBo_run.2.2.1 239 = .ok (.iload_n 2, 1) := lkT_ok tk_MBo_run rfl
theorem d_MBo_run_240 : decode MBo_run.2.2.1 240 = .ok (.iconst 0, 1) := lkT_ok tk_MBo_run rfl
theorem d_MBo_run_241 : decode MBo_run.2.2.1 241 = .ok (.iload_n 3, 1) := lkT_ok tk_MBo_run rfl
theorem d_MBo_run_242 : decode MBo_run.2.2.1 242 = .ok (.iload 4, 2) := lkT_ok tk_MBo_run rfl
theorem d_MBo_run_244 : decode MBo_run.2.2.1 244 = .ok (.invokevirtual 44, 3) := lkT_ok tk_MBo_run rfl
theorem d_MBo_run_247 : decode MBo_run.2.2.1 247 = .ok (.iconst 2, 1) := lkT_ok tk_MBo_run rfl
theorem d_MBo_run_248 : decode MBo_run.2.2.1 248 = .ok (.imul, 1) := lkT_ok tk_MBo_run rfl
theorem d_MBo_run_249 : decode MBo_run.2.2.1 249 = .ok (.ireturn, 1) := lkT_ok tk_MBo_run rfl
theorem d_MBo_run_250 : decode MBo_run.2.2.1 250 = .ok (.aload_n 0, 1) := lkT_ok tk_MBo_run rfl
theorem d_MBo_run_251 : decode MBo_run.2.2.1 251 = .ok (.iload_n 2, 1) := lkT_ok tk_MBo_run rfl
theorem d_MBo_run_252 : decode MBo_run.2.2.1 252 = .ok (.iconst 2, 1) := lkT_ok tk_MBo_run rfl
theorem d_MBo_run_253 : decode MBo_run.2.2.1 253 = .ok (.iload_n 3, 1) := lkT_ok tk_MBo_run rfl
theorem d_MBo_run_254 : decode MBo_run.2.2.1 254 = .ok (.iload 4, 2) := lkT_ok tk_MBo_run rfl
theorem d_MBo_run_256 : decode MBo_run.2.2.1 256 = .ok (.invokevirtual 44, 3) := lkT_ok tk_MBo_run rfl
theorem d_MBo_run_259 : decode MBo_run.2.2.1 259 = .ok (.aload_n 0, 1) := lkT_ok tk_MBo_run rfl
theorem d_MBo_run_260 : decode MBo_run.2.2.1 260 = .ok (.aload_n 0, 1) := lkT_ok tk_MBo_run rfl
theorem d_MBo_run_261 : decode MBo_run.2.2.1 261 = .ok (.getfield 38, 3) := lkT_ok tk_MBo_run rfl
theorem d_MBo_run_264 : decode MBo_run.2.2.1 264 = .ok (.iconst 0, 1) := lkT_ok tk_MBo_run rfl
theorem d_MBo_run_265 : decode MBo_run.2.2.1 265 = .ok (.iconst 1, 1) := lkT_ok tk_MBo_run rfl
theorem d_MBo_run_266 : decode MBo_run.2.2.1 266 = .ok (.iload 4, 2) := lkT_ok tk_MBo_run rfl
theorem d_MBo_run_268 : decode MBo_run.2.2.1 268 = .ok (.invokevirtual 44, 3) := lkT_ok tk_MBo_run rfl
theorem d_MBo_run_271 : decode MBo_run.2.2.1 271 = .ok (.iadd, 1) := lkT_ok tk_MBo_run rfl
theorem d_MBo_run_272 : decode MBo_run.2.2.1 272 = .ok (.ireturn, 1) := lkT_ok tk_MBo_run rfl
theorem d_MBo_run_273 : decode MBo_run.2.2.1 273 = .ok (.aload_n 0, 1) := lkT_ok tk_MBo_run rfl
theorem d_MBo_run_274 : decode MBo_run.2.2.1 274 = .ok (.iload_n 2, 1) := lkT_ok tk_MBo_run rfl
theorem d_MBo_run_275 : decode MBo_run.2.2.1 275 = .ok (.iconst 2, 1) := lkT_ok tk_MBo_run rfl
theorem d_MBo_run_276 : decode MBo_run.2.2.1 276 = .ok (.iload_n 3, 1) := lkT_ok tk_MBo_run rfl
theorem d_MBo_run_277 : decode MBo_run.2.2.1 277 = .ok (.iload 4, 2) := lkT_ok tk_MBo_run rfl
theorem d_MBo_run_279 : decode MBo_run.2.2.1 279 = .ok (.invokevirtual 44, 3) := lkT_ok tk_MBo_run rfl
theorem d_MBo_run_282 : decode MBo_run.2.2.1 282 = .ok (.iconst 1, 1) := lkT_ok tk_MBo_run rfl
theorem d_MBo_run_283 : decode MBo_run.2.2.1 283 = .ok (.isub, 1) := lkT_ok tk_MBo_run rfl
theorem d_MBo_run_284 : decode MBo_run.2.2.1 284 = .ok (.ireturn, 1) := lkT_ok tk_MBo_run rfl
theorem d_MBo_run_285 : decode MBo_run.2.2.1 285 = .ok (.aload_n 0, 1) := lkT_ok tk_MBo_run rfl
theorem d_MBo_run_286 : decode MBo_run.2.2.1 286 = .ok (.iload_n 2, 1) := lkT_ok tk_MBo_run rfl
theorem d_MBo_run_287 : decode MBo_run.2.2.1 287 = .ok (.iconst 1, 1) := lkT_ok tk_MBo_run rfl
theorem d_MBo_run_288 : decode MBo_run.2.2.1 288 = .ok (.iload_n 3, 1) := lkT_ok tk_MBo_run rfl
theorem d_MBo_run_289 : decode MBo_run.2.2.1 289 = .ok (.iload 4, 2) := lkT_ok tk_MBo_run rfl
theorem d_MBo_run_291 : decode MBo_run.2.2.1 291 = .ok (.invokevirtual 44, 3) := lkT_ok tk_MBo_run rfl
theorem d_MBo_run_294 : decode MBo_run.2.2.1 294 = .ok (.aload_n 0, 1) := lkT_ok tk_MBo_run rfl
theorem d_MBo_run_295 : decode MBo_run.2.2.1 295 = .ok (.aload_n 0, 1) := lkT_ok tk_MBo_run rfl
theorem d_MBo_run_296 : decode MBo_run.2.2.1 296 = .ok (.getfield 38, 3) := lkT_ok tk_MBo_run rfl
theorem d_MBo_run_299 : decode MBo_run.2.2.1 299 = .ok (.iconst 2, 1) := lkT_ok tk_MBo_run rfl
theorem d_MBo_run_300 : decode MBo_run.2.2.1 300 = .ok (.iconst 2, 1) := lkT_ok tk_MBo_run rfl
theorem d_MBo_run_301 : decode MBo_run.2.2.1 301 = .ok (.iload 4, 2) := lkT_ok tk_MBo_run rfl
theorem d_MBo_run_303 : decode MBo_run.2.2.1 303 = .ok (.invokevirtual 44, 3) := lkT_ok tk_MBo_run rfl
theorem d_MBo_run_306 : decode MBo_run.2.2.1 306 = .ok (.iadd, 1) := lkT_ok tk_MBo_run rfl
theorem d_MBo_run_307 : decode MBo_run.2.2.1 307 = .ok (.ireturn, 1) := lkT_ok tk_MBo_run rfl
theorem d_MBo_run_308 : decode MBo_run.2.2.1 308 = .ok (.aload_n 0, 1) := lkT_ok tk_MBo_run rfl
theorem d_MBo_run_309 : decode MBo_run.2.2.1 309 = .ok (.iload_n 2, 1) := lkT_ok tk_MBo_run rfl
theorem d_MBo_run_310 : decode MBo_run.2.2.1 310 = .ok (.iconst 3, 1) := lkT_ok tk_MBo_run rfl
theorem d_MBo_run_311 : decode MBo_run.2.2.1 311 = .ok (.iload_n 3, 1) := lkT_ok tk_MBo_run rfl
theorem d_MBo_run_312 : decode MBo_run.2.2.1 312 = .ok (.iload 4, 2) := lkT_ok tk_MBo_run rfl
theorem d_MBo_run_314 : decode MBo_run.2.2.1 314 = .ok (.invokevirtual 44, 3) := lkT_ok tk_MBo_run rfl
theorem d_MBo_run_317 : decode MBo_run.2.2.1 317 = .ok (.aload_n 0, 1) := lkT_ok tk_MBo_run rfl
theorem d_MBo_run_318 : decode MBo_run.2.2.1 318 = .ok (.aload_n 0, 1) := lkT_ok tk_MBo_run rfl
theorem d_MBo_run_319 : decode MBo_run.2.2.1 319 = .ok (.getfield 38, 3) := lkT_ok tk_MBo_run rfl
theorem d_MBo_run_322 : decode MBo_run.2.2.1 322 = .ok (.iconst 0, 1) := lkT_ok tk_MBo_run rfl
theorem d_MBo_run_323 : decode MBo_run.2.2.1 323 = .ok (.iconst 1, 1) := lkT_ok tk_MBo_run rfl
theorem d_MBo_run_324 : decode MBo_run.2.2.1 324 = .ok (.iload 4, 2) := lkT_ok tk_MBo_run rfl
theorem d_MBo_run_326 : decode MBo_run.2.2.1 326 = .ok (.invokevirtual 44, 3) := lkT_ok tk_MBo_run rfl
theorem d_MBo_run_329 : decode MBo_run.2.2.1 329 = .ok (.isub, 1) := lkT_ok tk_MBo_run rfl
theorem d_MBo_run_330 : decode MBo_run.2.2.1 330 = .ok (.ireturn, 1) := lkT_ok tk_MBo_run rfl
theorem d_MBo_run_331 : decode MBo_run.2.2.1 331 = .ok (.iconst 0, 1) := lkT_ok tk_MBo_run rfl
theorem d_MBo_run_332 : decode MBo_run.2.2.1 332 = .ok (.ireturn, 1) := lkT_ok tk_MBo_run rfl
theorem r_MBo_run_0 {l0 l2 l3 l4 : Value} {x : Int32} : Rr X d MBo_run 0 [l0, .int x, l2, l3, l4] st h = Rr X d MBo_run 1 [l0, .int x, l2, l3, l4] (.int x :: st) h := Rr_nx d_MBo_run_0 rfl
theorem r_MBo_run_1_1 : Rr X d MBo_run 1 L (.int (1) :: st) h = Rr X d MBo_run 124 L st h := R_lkp (off := 123) d_MBo_run_1 (by decide) (by decide) (by decide)
theorem r_MBo_run_1_2 : Rr X d MBo_run 1 L (.int (2) :: st) h = Rr X d MBo_run 131 L st h := R_lkp (off := 130) d_MBo_run_1 (by decide) (by decide) (by decide)
theorem r_MBo_run_1_10 : Rr X d MBo_run 1 L (.int (10) :: st) h = Rr X d MBo_run 157 L st h := R_lkp (off := 156) d_MBo_run_1 (by decide) (by decide) (by decide)
theorem r_MBo_run_1_11 : Rr X d MBo_run 1 L (.int (11) :: st) h = Rr X d MBo_run 172 L st h := R_lkp (off := 171) d_MBo_run_1 (by decide) (by decide) (by decide)
theorem r_MBo_run_1_20 : Rr X d MBo_run 1 L (.int (20) :: st) h = Rr X d MBo_run 179 L st h := R_lkp (off := 178) d_MBo_run_1 (by decide) (by decide) (by decide)
theorem r_MBo_run_1_30 : Rr X d MBo_run 1 L (.int (30) :: st) h = Rr X d MBo_run 191 L st h := R_lkp (off := 190) d_MBo_run_1 (by decide) (by decide) (by decide)
theorem r_MBo_run_1_40 : Rr X d MBo_run 1 L (.int (40) :: st) h = Rr X d MBo_run 202 L st h := R_lkp (off := 201) d_MBo_run_1 (by decide) (by decide) (by decide)
theorem r_MBo_run_1_41 : Rr X d MBo_run 1 L (.int (41) :: st) h = Rr X d MBo_run 214 L st h := R_lkp (off := 213) d_MBo_run_1 (by decide) (by decide) (by decide)
theorem r_MBo_run_1_50 : Rr X d MBo_run 1 L (.int (50) :: st) h = Rr X d MBo_run 226 L st h := R_lkp (off := 225) d_MBo_run_1 (by decide) (by decide) (by decide)
theorem r_MBo_run_1_60 : Rr X d MBo_run 1 L (.int (60) :: st) h = Rr X d MBo_run 238 L st h := R_lkp (off := 237) d_MBo_run_1 (by decide) (by decide) (by decide)
theorem r_MBo_run_1_61 : Rr X d MBo_run 1 L (.int (61) :: st) h = Rr X d MBo_run 250 L st h := R_lkp (off := 249) d_MBo_run_1 (by decide) (by decide) (by decide)
theorem r_MBo_run_1_70 : Rr X d MBo_run 1 L (.int (70) :: st) h = Rr X d MBo_run 273 L st h := R_lkp (off := 272) d_MBo_run_1 (by decide) (by decide) (by decide)
theorem r_MBo_run_1_80 : Rr X d MBo_run 1 L (.int (80) :: st) h = Rr X d MBo_run 285 L st h := R_lkp (off := 284) d_MBo_run_1 (by decide) (by decide) (by decide)
theorem r_MBo_run_1_81 : Rr X d MBo_run 1 L (.int (81) :: st) h = Rr X d MBo_run 308 L st h := R_lkp (off := 307) d_MBo_run_1 (by decide) (by decide) (by decide)
theorem r_MBo_run_1_m1 : Rr X d MBo_run 1 L (.int (-1) :: st) h = Rr X d MBo_run 331 L st h := R_lkp (off := 330) d_MBo_run_1 (by decide) (by decide) (by decide)
theorem r_MBo_run_1D {x : Int32} (hx : Op.lookupswitch.offset [(1, 123), (2, 130), (10, 156), (11, 171), (20, 178), (30, 190), (40, 201), (41, 213), (50, 225), (60, 237), (61, 249), (70, 272), (80, 284), (81, 307)] (330) x.toInt = 330) : Rr X d MBo_run 1 L (.int x :: st) h = Rr X d MBo_run 331 L st h := R_lkp d_MBo_run_1 (by decide) hx (by decide)
theorem r_MBo_run_124 {l0 l1 l2 l4 : Value} {x : Int32} : Rr X d MBo_run 124 [l0, l1, l2, .int x, l4] st h = Rr X d MBo_run 125 [l0, l1, l2, .int x, l4] (.int x :: st) h := Rr_nx d_MBo_run_124 rfl
theorem r_MBo_run_125 {l1 l2 l3 l4 : Value} {x : Nat} : Rr X d MBo_run 125 [.ref x, l1, l2, l3, l4] st h = Rr X d MBo_run 126 [.ref x, l1, l2, l3, l4] (.ref x :: st) h := Rr_nx d_MBo_run_125 rfl
theorem r_MBo_run_126 {a : Nat} (hq : qI a 0 4 = true) : Rr X d MBo_run 126 L (.ref a :: st) (Wd mu la ro et) = Rr X d MBo_run 129 L (.int (mu a 4) :: st) (Wd mu la ro et) := R_gfI d_MBo_run_126 ff_0_41 hq
theorem r_MBo_run_129 {x y : Int32} : Rr X d MBo_run 129 L (.int y :: .int x :: st) h = Rr X d MBo_run 130 L (.int (x + y) :: st) h := Rr_nx d_MBo_run_129 rfl
theorem r_MBo_run_130 {x : Int32} : Rr X d MBo_run 130 L [.int x] h = some (some (.int x), h) := R_ir d_MBo_run_130 rfl
theorem r_MBo_run_131 {l1 l2 l3 l4 : Value} {x : Nat} : Rr X d MBo_run 131 [.ref x, l1, l2, l3, l4] st h = Rr X d MBo_run 132 [.ref x, l1, l2, l3, l4] (.ref x :: st) h := Rr_nx d_MBo_run_131 rfl
theorem r_MBo_run_132 {l1 l2 l3 l4 : Value} {x : Nat} : Rr X d MBo_run 132 [.ref x, l1, l2, l3, l4] st h = Rr X d MBo_run 133 [.ref x, l1, l2, l3, l4] (.ref x :: st) h := Rr_nx d_MBo_run_132 rfl
theorem r_MBo_run_133 {a : Nat} (hq : qI a 0 5 = true) : Rr X d MBo_run 133 L (.ref a :: st) (Wd mu la ro et) = Rr X d MBo_run 136 L (.int (mu a 5) :: st) (Wd mu la ro et) := R_gfI d_MBo_run_133 ff_0_38 hq
theorem r_MBo_run_136 : Rr X d MBo_run 136 L st h = Rr X d MBo_run 137 L (.int (1) :: st) h := Rr_nx d_MBo_run_136 rfl
theorem r_MBo_run_137 {l0 l1 l2 l4 : Value} {x : Int32} : Rr X d MBo_run 137 [l0, l1, l2, .int x, l4] st h = Rr X d MBo_run 138 [l0, l1, l2, .int x, l4] (.int x :: st) h := Rr_nx d_MBo_run_137 rfl
theorem r_MBo_run_138 {l0 l1 l2 l3 : Value} {x : Int32} : Rr X d MBo_run 138 [l0, l1, l2, l3, .int x] st h = Rr X d MBo_run 140 [l0, l1, l2, l3, .int x] (.int x :: st) h := Rr_nx d_MBo_run_138 rfl
theorem r_MBo_run_140 {y0 : Int32} {y1 : Int32} {y2 : Int32} {y3 : Int32} {a : Nat} (hO : qO a 0 = true) (hc : ckS st = true) : Rr X (d + 1) MBo_run 140 L (.int y3 :: .int y2 :: .int y1 :: .int y0 :: .ref a :: st) (Wd mu la ro et) = (Rr X d MBo_ask 0 [.ref a, .int y0, .int y1, .int y2, .int y3, mkU, mkU] [] (Wd mu la ro et)).bind fun q => Rr X (d + 1) MBo_run 143 L (psh q.1 st) q.2 := R_iv (av := [.int y3, .int y2, .int y1, .int y0]) d_MBo_run_140 fc_0_44 hO (ckS_le hc) rfl (Nat.le_of_ble_eq_true rfl) (Nat.le_of_ble_eq_true rfl)
theorem r_MBo_run_143 {l1 l2 l3 l4 : Value} {x : Nat} : Rr X d MBo_run 143 [.ref x, l1, l2, l3, l4] st h = Rr X d MBo_run 144 [.ref x, l1, l2, l3, l4] (.ref x :: st) h := Rr_nx d_MBo_run_143 rfl
theorem r_MBo_run_144 {l1 l2 l3 l4 : Value} {x : Nat} : Rr X d MBo_run 144 [.ref x, l1, l2, l3, l4] st h = Rr X d MBo_run 145 [.ref x, l1, l2, l3, l4] (.ref x :: st) h := Rr_nx d_MBo_run_144 rfl
theorem r_MBo_run_145 {a : Nat} (hq : qI a 0 5 = true) : Rr X d MBo_run 145 L (.ref a :: st) (Wd mu la ro et) = Rr X d MBo_run 148 L (.int (mu a 5) :: st) (Wd mu la ro et) := R_gfI d_MBo_run_145 ff_0_38 hq
theorem r_MBo_run_148 : Rr X d MBo_run 148 L st h = Rr X d MBo_run 149 L (.int (2) :: st) h := Rr_nx d_MBo_run_148 rfl
theorem r_MBo_run_149 : Rr X d MBo_run 149 L st h = Rr X d MBo_run 150 L (.int (1) :: st) h := Rr_nx d_MBo_run_149 rfl
theorem r_MBo_run_150 {l0 l1 l2 l3 : Value} {x : Int32} : Rr X d MBo_run 150 [l0, l1, l2, l3, .int x] st h = Rr X d MBo_run 152 [l0, l1, l2, l3, .int x] (.int x :: st) h := Rr_nx d_MBo_run_150 rfl
theorem r_MBo_run_152 {y0 : Int32} {y1 : Int32} {y2 : Int32} {y3 : Int32} {a : Nat} (hO : qO a 0 = true) (hc : ckS st = true) : Rr X (d + 1) MBo_run 152 L (.int y3 :: .int y2 :: .int y1 :: .int y0 :: .ref a :: st) (Wd mu la ro et) = (Rr X d MBo_ask 0 [.ref a, .int y0, .int y1, .int y2, .int y3, mkU, mkU] [] (Wd mu la ro et)).bind fun q => Rr X (d + 1) MBo_run 155 L (psh q.1 st) q.2 := R_iv (av := [.int y3, .int y2, .int y1, .int y0]) d_MBo_run_152 fc_0_44 hO (ckS_le hc) rfl (Nat.le_of_ble_eq_true rfl) (Nat.le_of_ble_eq_true rfl)
theorem r_MBo_run_155 {x y : Int32} : Rr X d MBo_run 155 L (.int y :: .int x :: st) h = Rr X d MBo_run 156 L (.int (x - y) :: st) h := Rr_nx d_MBo_run_155 rfl
theorem r_MBo_run_156 {x : Int32} : Rr X d MBo_run 156 L [.int x] h = some (some (.int x), h) := R_ir d_MBo_run_156 rfl
theorem r_MBo_run_157 {l1 l2 l3 l4 : Value} {x : Nat} : Rr X d MBo_run 157 [.ref x, l1, l2, l3, l4] st h = Rr X d MBo_run 158 [.ref x, l1, l2, l3, l4] (.ref x :: st) h := Rr_nx d_MBo_run_157 rfl
theorem r_MBo_run_158 {l1 l2 l3 l4 : Value} {x : Nat} : Rr X d MBo_run 158 [.ref x, l1, l2, l3, l4] st h = Rr X d MBo_run 159 [.ref x, l1, l2, l3, l4] (.ref x :: st) h := Rr_nx d_MBo_run_158 rfl
theorem r_MBo_run_159 {a : Nat} (hq : qI a 0 5 = true) : Rr X d MBo_run 159 L (.ref a :: st) (Wd mu la ro et) = Rr X d MBo_run 162 L (.int (mu a 5) :: st) (Wd mu la ro et) := R_gfI d_MBo_run_159 ff_0_38 hq
theorem r_MBo_run_162 : Rr X d MBo_run 162 L st h = Rr X d MBo_run 163 L (.int (0) :: st) h := Rr_nx d_MBo_run_162 rfl
theorem r_MBo_run_163 {l0 l1 l2 l4 : Value} {x : Int32} : Rr X d MBo_run 163 [l0, l1, l2, .int x, l4] st h = Rr X d MBo_run 164 [l0, l1, l2, .int x, l4] (.int x :: st) h := Rr_nx d_MBo_run_163 rfl
theorem r_MBo_run_164 {l0 l1 l2 l3 : Value} {x : Int32} : Rr X d MBo_run 164 [l0, l1, l2, l3, .int x] st h = Rr X d MBo_run 166 [l0, l1, l2, l3, .int x] (.int x :: st) h := Rr_nx d_MBo_run_164 rfl
theorem r_MBo_run_166 {y0 : Int32} {y1 : Int32} {y2 : Int32} {y3 : Int32} {a : Nat} (hO : qO a 0 = true) (hc : ckS st = true) : Rr X (d + 1) MBo_run 166 L (.int y3 :: .int y2 :: .int y1 :: .int y0 :: .ref a :: st) (Wd mu la ro et) = (Rr X d MBo_ask 0 [.ref a, .int y0, .int y1, .int y2, .int y3, mkU, mkU] [] (Wd mu la ro et)).bind fun q => Rr X (d + 1) MBo_run 169 L (psh q.1 st) q.2 := R_iv (av := [.int y3, .int y2, .int y1, .int y0]) d_MBo_run_166 fc_0_44 hO (ckS_le hc) rfl (Nat.le_of_ble_eq_true rfl) (Nat.le_of_ble_eq_true rfl)
theorem r_MBo_run_169 : Rr X d MBo_run 169 L st h = Rr X d MBo_run 170 L (.int (2) :: st) h := Rr_nx d_MBo_run_169 rfl
theorem r_MBo_run_170 {x y : Int32} : Rr X d MBo_run 170 L (.int y :: .int x :: st) h = Rr X d MBo_run 171 L (.int (x * y) :: st) h := Rr_nx d_MBo_run_170 rfl
theorem r_MBo_run_171 {x : Int32} : Rr X d MBo_run 171 L [.int x] h = some (some (.int x), h) := R_ir d_MBo_run_171 rfl
theorem r_MBo_run_172 {l0 l1 l2 l4 : Value} {x : Int32} : Rr X d MBo_run 172 [l0, l1, l2, .int x, l4] st h = Rr X d MBo_run 173 [l0, l1, l2, .int x, l4] (.int x :: st) h := Rr_nx d_MBo_run_172 rfl
theorem r_MBo_run_173 {l1 l2 l3 l4 : Value} {x : Nat} : Rr X d MBo_run 173 [.ref x, l1, l2, l3, l4] st h = Rr X d MBo_run 174 [.ref x, l1, l2, l3, l4] (.ref x :: st) h := Rr_nx d_MBo_run_173 rfl
theorem r_MBo_run_174 {a : Nat} (hq : qI a 0 4 = true) : Rr X d MBo_run 174 L (.ref a :: st) (Wd mu la ro et) = Rr X d MBo_run 177 L (.int (mu a 4) :: st) (Wd mu la ro et) := R_gfI d_MBo_run_174 ff_0_41 hq
theorem r_MBo_run_177 {x y : Int32} : Rr X d MBo_run 177 L (.int y :: .int x :: st) h = Rr X d MBo_run 178 L (.int (x ^^^ y) :: st) h := Rr_nx d_MBo_run_177 rfl
theorem r_MBo_run_178 {x : Int32} : Rr X d MBo_run 178 L [.int x] h = some (some (.int x), h) := R_ir d_MBo_run_178 rfl
theorem r_MBo_run_179 {l1 l2 l3 l4 : Value} {x : Nat} : Rr X d MBo_run 179 [.ref x, l1, l2, l3, l4] st h = Rr X d MBo_run 180 [.ref x, l1, l2, l3, l4] (.ref x :: st) h := Rr_nx d_MBo_run_179 rfl
theorem r_MBo_run_180 {l0 l1 l3 l4 : Value} {x : Int32} : Rr X d MBo_run 180 [l0, l1, .int x, l3, l4] st h = Rr X d MBo_run 181 [l0, l1, .int x, l3, l4] (.int x :: st) h := Rr_nx d_MBo_run_180 rfl
theorem r_MBo_run_181 : Rr X d MBo_run 181 L st h = Rr X d MBo_run 182 L (.int (0) :: st) h := Rr_nx d_MBo_run_181 rfl
theorem r_MBo_run_182 {l0 l1 l2 l4 : Value} {x : Int32} : Rr X d MBo_run 182 [l0, l1, l2, .int x, l4] st h = Rr X d MBo_run 183 [l0, l1, l2, .int x, l4] (.int x :: st) h := Rr_nx d_MBo_run_182 rfl
theorem r_MBo_run_183 {l0 l1 l2 l3 : Value} {x : Int32} : Rr X d MBo_run 183 [l0, l1, l2, l3, .int x] st h = Rr X d MBo_run 185 [l0, l1, l2, l3, .int x] (.int x :: st) h := Rr_nx d_MBo_run_183 rfl
theorem r_MBo_run_185 {y0 : Int32} {y1 : Int32} {y2 : Int32} {y3 : Int32} {a : Nat} (hO : qO a 0 = true) (hc : ckS st = true) : Rr X (d + 1) MBo_run 185 L (.int y3 :: .int y2 :: .int y1 :: .int y0 :: .ref a :: st) (Wd mu la ro et) = (Rr X d MBo_ask 0 [.ref a, .int y0, .int y1, .int y2, .int y3, mkU, mkU] [] (Wd mu la ro et)).bind fun q => Rr X (d + 1) MBo_run 188 L (psh q.1 st) q.2 := R_iv (av := [.int y3, .int y2, .int y1, .int y0]) d_MBo_run_185 fc_0_44 hO (ckS_le hc) rfl (Nat.le_of_ble_eq_true rfl) (Nat.le_of_ble_eq_true rfl)
theorem r_MBo_run_188 : Rr X d MBo_run 188 L st h = Rr X d MBo_run 189 L (.int (3) :: st) h := Rr_nx d_MBo_run_188 rfl
theorem r_MBo_run_189 {x y : Int32} : Rr X d MBo_run 189 L (.int y :: .int x :: st) h = Rr X d MBo_run 190 L (.int (x + y) :: st) h := Rr_nx d_MBo_run_189 rfl
theorem r_MBo_run_190 {x : Int32} : Rr X d MBo_run 190 L [.int x] h = some (some (.int x), h) := R_ir d_MBo_run_190 rfl
theorem r_MBo_run_191 {l1 l2 l3 l4 : Value} {x : Nat} : Rr X d MBo_run 191 [.ref x, l1, l2, l3, l4] st h = Rr X d MBo_run 192 [.ref x, l1, l2, l3, l4] (.ref x :: st) h := Rr_nx d_MBo_run_191 rfl
theorem r_MBo_run_192 {l0 l1 l3 l4 : Value} {x : Int32} : Rr X d MBo_run 192 [l0, l1, .int x, l3, l4] st h = Rr X d MBo_run 193 [l0, l1, .int x, l3, l4] (.int x :: st) h := Rr_nx d_MBo_run_192 rfl
theorem r_MBo_run_193 : Rr X d MBo_run 193 L st h = Rr X d MBo_run 194 L (.int (1) :: st) h := Rr_nx d_MBo_run_193 rfl
theorem r_MBo_run_194 {l0 l1 l2 l4 : Value} {x : Int32} : Rr X d MBo_run 194 [l0, l1, l2, .int x, l4] st h = Rr X d MBo_run 195 [l0, l1, l2, .int x, l4] (.int x :: st) h := Rr_nx d_MBo_run_194 rfl
theorem r_MBo_run_195 {l0 l1 l2 l3 : Value} {x : Int32} : Rr X d MBo_run 195 [l0, l1, l2, l3, .int x] st h = Rr X d MBo_run 197 [l0, l1, l2, l3, .int x] (.int x :: st) h := Rr_nx d_MBo_run_195 rfl
theorem r_MBo_run_197 {y0 : Int32} {y1 : Int32} {y2 : Int32} {y3 : Int32} {a : Nat} (hO : qO a 0 = true) (hc : ckS st = true) : Rr X (d + 1) MBo_run 197 L (.int y3 :: .int y2 :: .int y1 :: .int y0 :: .ref a :: st) (Wd mu la ro et) = (Rr X d MBo_ask 0 [.ref a, .int y0, .int y1, .int y2, .int y3, mkU, mkU] [] (Wd mu la ro et)).bind fun q => Rr X (d + 1) MBo_run 200 L (psh q.1 st) q.2 := R_iv (av := [.int y3, .int y2, .int y1, .int y0]) d_MBo_run_197 fc_0_44 hO (ckS_le hc) rfl (Nat.le_of_ble_eq_true rfl) (Nat.le_of_ble_eq_true rfl)
theorem r_MBo_run_200 {x : Int32} : Rr X d MBo_run 200 L (.int x :: st) h = Rr X d MBo_run 201 L (.int (-x) :: st) h := Rr_nx d_MBo_run_200 rfl
theorem r_MBo_run_201 {x : Int32} : Rr X d MBo_run 201 L [.int x] h = some (some (.int x), h) := R_ir d_MBo_run_201 rfl
theorem r_MBo_run_202 {l1 l2 l3 l4 : Value} {x : Nat} : Rr X d MBo_run 202 [.ref x, l1, l2, l3, l4] st h = Rr X d MBo_run 203 [.ref x, l1, l2, l3, l4] (.ref x :: st) h := Rr_nx d_MBo_run_202 rfl
theorem r_MBo_run_203 {l0 l1 l3 l4 : Value} {x : Int32} : Rr X d MBo_run 203 [l0, l1, .int x, l3, l4] st h = Rr X d MBo_run 204 [l0, l1, .int x, l3, l4] (.int x :: st) h := Rr_nx d_MBo_run_203 rfl
theorem r_MBo_run_204 : Rr X d MBo_run 204 L st h = Rr X d MBo_run 205 L (.int (2) :: st) h := Rr_nx d_MBo_run_204 rfl
theorem r_MBo_run_205 {l0 l1 l2 l4 : Value} {x : Int32} : Rr X d MBo_run 205 [l0, l1, l2, .int x, l4] st h = Rr X d MBo_run 206 [l0, l1, l2, .int x, l4] (.int x :: st) h := Rr_nx d_MBo_run_205 rfl
theorem r_MBo_run_206 {l0 l1 l2 l3 : Value} {x : Int32} : Rr X d MBo_run 206 [l0, l1, l2, l3, .int x] st h = Rr X d MBo_run 208 [l0, l1, l2, l3, .int x] (.int x :: st) h := Rr_nx d_MBo_run_206 rfl
theorem r_MBo_run_208 {y0 : Int32} {y1 : Int32} {y2 : Int32} {y3 : Int32} {a : Nat} (hO : qO a 0 = true) (hc : ckS st = true) : Rr X (d + 1) MBo_run 208 L (.int y3 :: .int y2 :: .int y1 :: .int y0 :: .ref a :: st) (Wd mu la ro et) = (Rr X d MBo_ask 0 [.ref a, .int y0, .int y1, .int y2, .int y3, mkU, mkU] [] (Wd mu la ro et)).bind fun q => Rr X (d + 1) MBo_run 211 L (psh q.1 st) q.2 := R_iv (av := [.int y3, .int y2, .int y1, .int y0]) d_MBo_run_208 fc_0_44 hO (ckS_le hc) rfl (Nat.le_of_ble_eq_true rfl) (Nat.le_of_ble_eq_true rfl)
theorem r_MBo_run_211 : Rr X d MBo_run 211 L st h = Rr X d MBo_run 212 L (.int (3) :: st) h := Rr_nx d_MBo_run_211 rfl
theorem r_MBo_run_212 {x y : Int32} : Rr X d MBo_run 212 L (.int y :: .int x :: st) h = Rr X d MBo_run 213 L (.int (x * y) :: st) h := Rr_nx d_MBo_run_212 rfl
theorem r_MBo_run_213 {x : Int32} : Rr X d MBo_run 213 L [.int x] h = some (some (.int x), h) := R_ir d_MBo_run_213 rfl
theorem r_MBo_run_214 {l1 l2 l3 l4 : Value} {x : Nat} : Rr X d MBo_run 214 [.ref x, l1, l2, l3, l4] st h = Rr X d MBo_run 215 [.ref x, l1, l2, l3, l4] (.ref x :: st) h := Rr_nx d_MBo_run_214 rfl
theorem r_MBo_run_215 {l0 l1 l3 l4 : Value} {x : Int32} : Rr X d MBo_run 215 [l0, l1, .int x, l3, l4] st h = Rr X d MBo_run 216 [l0, l1, .int x, l3, l4] (.int x :: st) h := Rr_nx d_MBo_run_215 rfl
theorem r_MBo_run_216 : Rr X d MBo_run 216 L st h = Rr X d MBo_run 217 L (.int (1) :: st) h := Rr_nx d_MBo_run_216 rfl
theorem r_MBo_run_217 {l0 l1 l2 l4 : Value} {x : Int32} : Rr X d MBo_run 217 [l0, l1, l2, .int x, l4] st h = Rr X d MBo_run 218 [l0, l1, l2, .int x, l4] (.int x :: st) h := Rr_nx d_MBo_run_217 rfl
theorem r_MBo_run_218 : Rr X d MBo_run 218 L st h = Rr X d MBo_run 219 L (.int (1) :: st) h := Rr_nx d_MBo_run_218 rfl
theorem r_MBo_run_219 {x y : Int32} : Rr X d MBo_run 219 L (.int y :: .int x :: st) h = Rr X d MBo_run 220 L (.int (x + y) :: st) h := Rr_nx d_MBo_run_219 rfl
theorem r_MBo_run_220 {l0 l1 l2 l3 : Value} {x : Int32} : Rr X d MBo_run 220 [l0, l1, l2, l3, .int x] st h = Rr X d MBo_run 222 [l0, l1, l2, l3, .int x] (.int x :: st) h := Rr_nx d_MBo_run_220 rfl
theorem r_MBo_run_222 {y0 : Int32} {y1 : Int32} {y2 : Int32} {y3 : Int32} {a : Nat} (hO : qO a 0 = true) (hc : ckS st = true) : Rr X (d + 1) MBo_run 222 L (.int y3 :: .int y2 :: .int y1 :: .int y0 :: .ref a :: st) (Wd mu la ro et) = (Rr X d MBo_ask 0 [.ref a, .int y0, .int y1, .int y2, .int y3, mkU, mkU] [] (Wd mu la ro et)).bind fun q => Rr X (d + 1) MBo_run 225 L (psh q.1 st) q.2 := R_iv (av := [.int y3, .int y2, .int y1, .int y0]) d_MBo_run_222 fc_0_44 hO (ckS_le hc) rfl (Nat.le_of_ble_eq_true rfl) (Nat.le_of_ble_eq_true rfl)
theorem r_MBo_run_225 {x : Int32} : Rr X d MBo_run 225 L [.int x] h = some (some (.int x), h) := R_ir d_MBo_run_225 rfl
theorem r_MBo_run_226 {l1 l2 l3 l4 : Value} {x : Nat} : Rr X d MBo_run 226 [.ref x, l1, l2, l3, l4] st h = Rr X d MBo_run 227 [.ref x, l1, l2, l3, l4] (.ref x :: st) h := Rr_nx d_MBo_run_226 rfl
theorem r_MBo_run_227 {l0 l1 l3 l4 : Value} {x : Int32} : Rr X d MBo_run 227 [l0, l1, .int x, l3, l4] st h = Rr X d MBo_run 228 [l0, l1, .int x, l3, l4] (.int x :: st) h := Rr_nx d_MBo_run_227 rfl
theorem r_MBo_run_228 : Rr X d MBo_run 228 L st h = Rr X d MBo_run 229 L (.int (3) :: st) h := Rr_nx d_MBo_run_228 rfl
theorem r_MBo_run_229 {l0 l1 l2 l4 : Value} {x : Int32} : Rr X d MBo_run 229 [l0, l1, l2, .int x, l4] st h = Rr X d MBo_run 230 [l0, l1, l2, .int x, l4] (.int x :: st) h := Rr_nx d_MBo_run_229 rfl
theorem r_MBo_run_230 {l0 l1 l2 l3 : Value} {x : Int32} : Rr X d MBo_run 230 [l0, l1, l2, l3, .int x] st h = Rr X d MBo_run 232 [l0, l1, l2, l3, .int x] (.int x :: st) h := Rr_nx d_MBo_run_230 rfl
theorem r_MBo_run_232 {y0 : Int32} {y1 : Int32} {y2 : Int32} {y3 : Int32} {a : Nat} (hO : qO a 0 = true) (hc : ckS st = true) : Rr X (d + 1) MBo_run 232 L (.int y3 :: .int y2 :: .int y1 :: .int y0 :: .ref a :: st) (Wd mu la ro et) = (Rr X d MBo_ask 0 [.ref a, .int y0, .int y1, .int y2, .int y3, mkU, mkU] [] (Wd mu la ro et)).bind fun q => Rr X (d + 1) MBo_run 235 L (psh q.1 st) q.2 := R_iv (av := [.int y3, .int y2, .int y1, .int y0]) d_MBo_run_232 fc_0_44 hO (ckS_le hc) rfl (Nat.le_of_ble_eq_true rfl) (Nat.le_of_ble_eq_true rfl)
theorem r_MBo_run_235 : Rr X d MBo_run 235 L st h = Rr X d MBo_run 236 L (.int (5) :: st) h := Rr_nx d_MBo_run_235 rfl
theorem r_MBo_run_236 {x y : Int32} : Rr X d MBo_run 236 L (.int y :: .int x :: st) h = Rr X d MBo_run 237 L (.int (x ^^^ y) :: st) h := Rr_nx d_MBo_run_236 rfl
theorem r_MBo_run_237 {x : Int32} : Rr X d MBo_run 237 L [.int x] h = some (some (.int x), h) := R_ir d_MBo_run_237 rfl
theorem r_MBo_run_238 {l1 l2 l3 l4 : Value} {x : Nat} : Rr X d MBo_run 238 [.ref x, l1, l2, l3, l4] st h = Rr X d MBo_run 239 [.ref x, l1, l2, l3, l4] (.ref x :: st) h := Rr_nx d_MBo_run_238 rfl
theorem r_MBo_run_239 {l0 l1 l3 l4 : Value} {x : Int32} : Rr X d MBo_run 239 [l0, l1, .int x, l3, l4] st h = Rr X d MBo_run 240 [l0, l1, .int x, l3, l4] (.int x :: st) h := Rr_nx d_MBo_run_239 rfl
theorem r_MBo_run_240 : Rr X d MBo_run 240 L st h = Rr X d MBo_run 241 L (.int (0) :: st) h := Rr_nx d_MBo_run_240 rfl
theorem r_MBo_run_241 {l0 l1 l2 l4 : Value} {x : Int32} : Rr X d MBo_run 241 [l0, l1, l2, .int x, l4] st h = Rr X d MBo_run 242 [l0, l1, l2, .int x, l4] (.int x :: st) h := Rr_nx d_MBo_run_241 rfl
theorem r_MBo_run_242 {l0 l1 l2 l3 : Value} {x : Int32} : Rr X d MBo_run 242 [l0, l1, l2, l3, .int x] st h = Rr X d MBo_run 244 [l0, l1, l2, l3, .int x] (.int x :: st) h := Rr_nx d_MBo_run_242 rfl
theorem r_MBo_run_244 {y0 : Int32} {y1 : Int32} {y2 : Int32} {y3 : Int32} {a : Nat} (hO : qO a 0 = true) (hc : ckS st = true) : Rr X (d + 1) MBo_run 244 L (.int y3 :: .int y2 :: .int y1 :: .int y0 :: .ref a :: st) (Wd mu la ro et) = (Rr X d MBo_ask 0 [.ref a, .int y0, .int y1, .int y2, .int y3, mkU, mkU] [] (Wd mu la ro et)).bind fun q => Rr X (d + 1) MBo_run 247 L (psh q.1 st) q.2 := R_iv (av := [.int y3, .int y2, .int y1, .int y0]) d_MBo_run_244 fc_0_44 hO (ckS_le hc) rfl (Nat.le_of_ble_eq_true rfl) (Nat.le_of_ble_eq_true rfl)
theorem r_MBo_run_247 : Rr X d MBo_run 247 L st h = Rr X d MBo_run 248 L (.int (2) :: st) h := Rr_nx d_MBo_run_247 rfl
theorem r_MBo_run_248 {x y : Int32} : Rr X d MBo_run 248 L (.int y :: .int x :: st) h = Rr X d MBo_run 249 L (.int (x * y) :: st) h := Rr_nx d_MBo_run_248 rfl
theorem r_MBo_run_249 {x : Int32} : Rr X d MBo_run 249 L [.int x] h = some (some (.int x), h) := R_ir d_MBo_run_249 rfl
theorem r_MBo_run_250 {l1 l2 l3 l4 : Value} {x : Nat} : Rr X d MBo_run 250 [.ref x, l1, l2, l3, l4] st h = Rr X d MBo_run 251 [.ref x, l1, l2, l3, l4] (.ref x :: st) h := Rr_nx d_MBo_run_250 rfl
theorem r_MBo_run_251 {l0 l1 l3 l4 : Value} {x : Int32} : Rr X d MBo_run 251 [l0, l1, .int x, l3, l4] st h = Rr X d MBo_run 252 [l0, l1, .int x, l3, l4] (.int x :: st) h := Rr_nx d_MBo_run_251 rfl
theorem r_MBo_run_252 : Rr X d MBo_run 252 L st h = Rr X d MBo_run 253 L (.int (2) :: st) h := Rr_nx d_MBo_run_252 rfl
theorem r_MBo_run_253 {l0 l1 l2 l4 : Value} {x : Int32} : Rr X d MBo_run 253 [l0, l1, l2, .int x, l4] st h = Rr X d MBo_run 254 [l0, l1, l2, .int x, l4] (.int x :: st) h := Rr_nx d_MBo_run_253 rfl
theorem r_MBo_run_254 {l0 l1 l2 l3 : Value} {x : Int32} : Rr X d MBo_run 254 [l0, l1, l2, l3, .int x] st h = Rr X d MBo_run 256 [l0, l1, l2, l3, .int x] (.int x :: st) h := Rr_nx d_MBo_run_254 rfl
theorem r_MBo_run_256 {y0 : Int32} {y1 : Int32} {y2 : Int32} {y3 : Int32} {a : Nat} (hO : qO a 0 = true) (hc : ckS st = true) : Rr X (d + 1) MBo_run 256 L (.int y3 :: .int y2 :: .int y1 :: .int y0 :: .ref a :: st) (Wd mu la ro et) = (Rr X d MBo_ask 0 [.ref a, .int y0, .int y1, .int y2, .int y3, mkU, mkU] [] (Wd mu la ro et)).bind fun q => Rr X (d + 1) MBo_run 259 L (psh q.1 st) q.2 := R_iv (av := [.int y3, .int y2, .int y1, .int y0]) d_MBo_run_256 fc_0_44 hO (ckS_le hc) rfl (Nat.le_of_ble_eq_true rfl) (Nat.le_of_ble_eq_true rfl)
theorem r_MBo_run_259 {l1 l2 l3 l4 : Value} {x : Nat} : Rr X d MBo_run 259 [.ref x, l1, l2, l3, l4] st h = Rr X d MBo_run 260 [.ref x, l1, l2, l3, l4] (.ref x :: st) h := Rr_nx d_MBo_run_259 rfl
theorem r_MBo_run_260 {l1 l2 l3 l4 : Value} {x : Nat} : Rr X d MBo_run 260 [.ref x, l1, l2, l3, l4] st h = Rr X d MBo_run 261 [.ref x, l1, l2, l3, l4] (.ref x :: st) h := Rr_nx d_MBo_run_260 rfl
theorem r_MBo_run_261 {a : Nat} (hq : qI a 0 5 = true) : Rr X d MBo_run 261 L (.ref a :: st) (Wd mu la ro et) = Rr X d MBo_run 264 L (.int (mu a 5) :: st) (Wd mu la ro et) := R_gfI d_MBo_run_261 ff_0_38 hq
theorem r_MBo_run_264 : Rr X d MBo_run 264 L st h = Rr X d MBo_run 265 L (.int (0) :: st) h := Rr_nx d_MBo_run_264 rfl
theorem r_MBo_run_265 : Rr X d MBo_run 265 L st h = Rr X d MBo_run 266 L (.int (1) :: st) h := Rr_nx d_MBo_run_265 rfl
theorem r_MBo_run_266 {l0 l1 l2 l3 : Value} {x : Int32} : Rr X d MBo_run 266 [l0, l1, l2, l3, .int x] st h = Rr X d MBo_run 268 [l0, l1, l2, l3, .int x] (.int x :: st) h := Rr_nx d_MBo_run_266 rfl
theorem r_MBo_run_268 {y0 : Int32} {y1 : Int32} {y2 : Int32} {y3 : Int32} {a : Nat} (hO : qO a 0 = true) (hc : ckS st = true) : Rr X (d + 1) MBo_run 268 L (.int y3 :: .int y2 :: .int y1 :: .int y0 :: .ref a :: st) (Wd mu la ro et) = (Rr X d MBo_ask 0 [.ref a, .int y0, .int y1, .int y2, .int y3, mkU, mkU] [] (Wd mu la ro et)).bind fun q => Rr X (d + 1) MBo_run 271 L (psh q.1 st) q.2 := R_iv (av := [.int y3, .int y2, .int y1, .int y0]) d_MBo_run_268 fc_0_44 hO (ckS_le hc) rfl (Nat.le_of_ble_eq_true rfl) (Nat.le_of_ble_eq_true rfl)
theorem r_MBo_run_271 {x y : Int32} : Rr X d MBo_run 271 L (.int y :: .int x :: st) h = Rr X d MBo_run 272 L (.int (x + y) :: st) h := Rr_nx d_MBo_run_271 rfl
theorem r_MBo_run_272 {x : Int32} : Rr X d MBo_run 272 L [.int x] h = some (some (.int x), h) := R_ir d_MBo_run_272 rfl
theorem r_MBo_run_273 {l1 l2 l3 l4 : Value} {x : Nat} : Rr X d MBo_run 273 [.ref x, l1, l2, l3, l4] st h = Rr X d MBo_run 274 [.ref x, l1, l2, l3, l4] (.ref x :: st) h := Rr_nx d_MBo_run_273 rfl
theorem r_MBo_run_274 {l0 l1 l3 l4 : Value} {x : Int32} : Rr X d MBo_run 274 [l0, l1, .int x, l3, l4] st h = Rr X d MBo_run 275 [l0, l1, .int x, l3, l4] (.int x :: st) h := Rr_nx d_MBo_run_274 rfl
theorem r_MBo_run_275 : Rr X d MBo_run 275 L st h = Rr X d MBo_run 276 L (.int (2) :: st) h := Rr_nx d_MBo_run_275 rfl
theorem r_MBo_run_276 {l0 l1 l2 l4 : Value} {x : Int32} : Rr X d MBo_run 276 [l0, l1, l2, .int x, l4] st h = Rr X d MBo_run 277 [l0, l1, l2, .int x, l4] (.int x :: st) h := Rr_nx d_MBo_run_276 rfl
theorem r_MBo_run_277 {l0 l1 l2 l3 : Value} {x : Int32} : Rr X d MBo_run 277 [l0, l1, l2, l3, .int x] st h = Rr X d MBo_run 279 [l0, l1, l2, l3, .int x] (.int x :: st) h := Rr_nx d_MBo_run_277 rfl
theorem r_MBo_run_279 {y0 : Int32} {y1 : Int32} {y2 : Int32} {y3 : Int32} {a : Nat} (hO : qO a 0 = true) (hc : ckS st = true) : Rr X (d + 1) MBo_run 279 L (.int y3 :: .int y2 :: .int y1 :: .int y0 :: .ref a :: st) (Wd mu la ro et) = (Rr X d MBo_ask 0 [.ref a, .int y0, .int y1, .int y2, .int y3, mkU, mkU] [] (Wd mu la ro et)).bind fun q => Rr X (d + 1) MBo_run 282 L (psh q.1 st) q.2 := R_iv (av := [.int y3, .int y2, .int y1, .int y0]) d_MBo_run_279 fc_0_44 hO (ckS_le hc) rfl (Nat.le_of_ble_eq_true rfl) (Nat.le_of_ble_eq_true rfl)
theorem r_MBo_run_282 : Rr X d MBo_run 282 L st h = Rr X d MBo_run 283 L (.int (1) :: st) h := Rr_nx d_MBo_run_282 rfl
theorem r_MBo_run_283 {x y : Int32} : Rr X d MBo_run 283 L (.int y :: .int x :: st) h = Rr X d MBo_run 284 L (.int (x - y) :: st) h := Rr_nx d_MBo_run_283 rfl
theorem r_MBo_run_284 {x : Int32} : Rr X d MBo_run 284 L [.int x] h = some (some (.int x), h) := R_ir d_MBo_run_284 rfl
theorem r_MBo_run_285 {l1 l2 l3 l4 : Value} {x : Nat} : Rr X d MBo_run 285 [.ref x, l1, l2, l3, l4] st h = Rr X d MBo_run 286 [.ref x, l1, l2, l3, l4] (.ref x :: st) h := Rr_nx d_MBo_run_285 rfl
theorem r_MBo_run_286 {l0 l1 l3 l4 : Value} {x : Int32} : Rr X d MBo_run 286 [l0, l1, .int x, l3, l4] st h = Rr X d MBo_run 287 [l0, l1, .int x, l3, l4] (.int x :: st) h := Rr_nx d_MBo_run_286 rfl
theorem r_MBo_run_287 : Rr X d MBo_run 287 L st h = Rr X d MBo_run 288 L (.int (1) :: st) h := Rr_nx d_MBo_run_287 rfl
theorem r_MBo_run_288 {l0 l1 l2 l4 : Value} {x : Int32} : Rr X d MBo_run 288 [l0, l1, l2, .int x, l4] st h = Rr X d MBo_run 289 [l0, l1, l2, .int x, l4] (.int x :: st) h := Rr_nx d_MBo_run_288 rfl
theorem r_MBo_run_289 {l0 l1 l2 l3 : Value} {x : Int32} : Rr X d MBo_run 289 [l0, l1, l2, l3, .int x] st h = Rr X d MBo_run 291 [l0, l1, l2, l3, .int x] (.int x :: st) h := Rr_nx d_MBo_run_289 rfl
theorem r_MBo_run_291 {y0 : Int32} {y1 : Int32} {y2 : Int32} {y3 : Int32} {a : Nat} (hO : qO a 0 = true) (hc : ckS st = true) : Rr X (d + 1) MBo_run 291 L (.int y3 :: .int y2 :: .int y1 :: .int y0 :: .ref a :: st) (Wd mu la ro et) = (Rr X d MBo_ask 0 [.ref a, .int y0, .int y1, .int y2, .int y3, mkU, mkU] [] (Wd mu la ro et)).bind fun q => Rr X (d + 1) MBo_run 294 L (psh q.1 st) q.2 := R_iv (av := [.int y3, .int y2, .int y1, .int y0]) d_MBo_run_291 fc_0_44 hO (ckS_le hc) rfl (Nat.le_of_ble_eq_true rfl) (Nat.le_of_ble_eq_true rfl)
theorem r_MBo_run_294 {l1 l2 l3 l4 : Value} {x : Nat} : Rr X d MBo_run 294 [.ref x, l1, l2, l3, l4] st h = Rr X d MBo_run 295 [.ref x, l1, l2, l3, l4] (.ref x :: st) h := Rr_nx d_MBo_run_294 rfl
theorem r_MBo_run_295 {l1 l2 l3 l4 : Value} {x : Nat} : Rr X d MBo_run 295 [.ref x, l1, l2, l3, l4] st h = Rr X d MBo_run 296 [.ref x, l1, l2, l3, l4] (.ref x :: st) h := Rr_nx d_MBo_run_295 rfl
theorem r_MBo_run_296 {a : Nat} (hq : qI a 0 5 = true) : Rr X d MBo_run 296 L (.ref a :: st) (Wd mu la ro et) = Rr X d MBo_run 299 L (.int (mu a 5) :: st) (Wd mu la ro et) := R_gfI d_MBo_run_296 ff_0_38 hq
theorem r_MBo_run_299 : Rr X d MBo_run 299 L st h = Rr X d MBo_run 300 L (.int (2) :: st) h := Rr_nx d_MBo_run_299 rfl
theorem r_MBo_run_300 : Rr X d MBo_run 300 L st h = Rr X d MBo_run 301 L (.int (2) :: st) h := Rr_nx d_MBo_run_300 rfl
theorem r_MBo_run_301 {l0 l1 l2 l3 : Value} {x : Int32} : Rr X d MBo_run 301 [l0, l1, l2, l3, .int x] st h = Rr X d MBo_run 303 [l0, l1, l2, l3, .int x] (.int x :: st) h := Rr_nx d_MBo_run_301 rfl
theorem r_MBo_run_303 {y0 : Int32} {y1 : Int32} {y2 : Int32} {y3 : Int32} {a : Nat} (hO : qO a 0 = true) (hc : ckS st = true) : Rr X (d + 1) MBo_run 303 L (.int y3 :: .int y2 :: .int y1 :: .int y0 :: .ref a :: st) (Wd mu la ro et) = (Rr X d MBo_ask 0 [.ref a, .int y0, .int y1, .int y2, .int y3, mkU, mkU] [] (Wd mu la ro et)).bind fun q => Rr X (d + 1) MBo_run 306 L (psh q.1 st) q.2 := R_iv (av := [.int y3, .int y2, .int y1, .int y0]) d_MBo_run_303 fc_0_44 hO (ckS_le hc) rfl (Nat.le_of_ble_eq_true rfl) (Nat.le_of_ble_eq_true rfl)
theorem r_MBo_run_306 {x y : Int32} : Rr X d MBo_run 306 L (.int y :: .int x :: st) h = Rr X d MBo_run 307 L (.int (x + y) :: st) h := Rr_nx d_MBo_run_306 rfl
theorem r_MBo_run_307 {x : Int32} : Rr X d MBo_run 307 L [.int x] h = some (some (.int x), h) := R_ir d_MBo_run_307 rfl
theorem r_MBo_run_308 {l1 l2 l3 l4 : Value} {x : Nat} : Rr X d MBo_run 308 [.ref x, l1, l2, l3, l4] st h = Rr X d MBo_run 309 [.ref x, l1, l2, l3, l4] (.ref x :: st) h := Rr_nx d_MBo_run_308 rfl
theorem r_MBo_run_309 {l0 l1 l3 l4 : Value} {x : Int32} : Rr X d MBo_run 309 [l0, l1, .int x, l3, l4] st h = Rr X d MBo_run 310 [l0, l1, .int x, l3, l4] (.int x :: st) h := Rr_nx d_MBo_run_309 rfl
theorem r_MBo_run_310 : Rr X d MBo_run 310 L st h = Rr X d MBo_run 311 L (.int (3) :: st) h := Rr_nx d_MBo_run_310 rfl
theorem r_MBo_run_311 {l0 l1 l2 l4 : Value} {x : Int32} : Rr X d MBo_run 311 [l0, l1, l2, .int x, l4] st h = Rr X d MBo_run 312 [l0, l1, l2, .int x, l4] (.int x :: st) h := Rr_nx d_MBo_run_311 rfl
theorem r_MBo_run_312 {l0 l1 l2 l3 : Value} {x : Int32} : Rr X d MBo_run 312 [l0, l1, l2, l3, .int x] st h = Rr X d MBo_run 314 [l0, l1, l2, l3, .int x] (.int x :: st) h := Rr_nx d_MBo_run_312 rfl
theorem r_MBo_run_314 {y0 : Int32} {y1 : Int32} {y2 : Int32} {y3 : Int32} {a : Nat} (hO : qO a 0 = true) (hc : ckS st = true) : Rr X (d + 1) MBo_run 314 L (.int y3 :: .int y2 :: .int y1 :: .int y0 :: .ref a :: st) (Wd mu la ro et) = (Rr X d MBo_ask 0 [.ref a, .int y0, .int y1, .int y2, .int y3, mkU, mkU] [] (Wd mu la ro et)).bind fun q => Rr X (d + 1) MBo_run 317 L (psh q.1 st) q.2 := R_iv (av := [.int y3, .int y2, .int y1, .int y0]) d_MBo_run_314 fc_0_44 hO (ckS_le hc) rfl (Nat.le_of_ble_eq_true rfl) (Nat.le_of_ble_eq_true rfl)
theorem r_MBo_run_317 {l1 l2 l3 l4 : Value} {x : Nat} : Rr X d MBo_run 317 [.ref x, l1, l2, l3, l4] st h = Rr X d MBo_run 318 [.ref x, l1, l2, l3, l4] (.ref x :: st) h := Rr_nx d_MBo_run_317 rfl
theorem r_MBo_run_318 {l1 l2 l3 l4 : Value} {x : Nat} : Rr X d MBo_run 318 [.ref x, l1, l2, l3, l4] st h = Rr X d MBo_run 319 [.ref x, l1, l2, l3, l4] (.ref x :: st) h := Rr_nx d_MBo_run_318 rfl
theorem r_MBo_run_319 {a : Nat} (hq : qI a 0 5 = true) : Rr X d MBo_run 319 L (.ref a :: st) (Wd mu la ro et) = Rr X d MBo_run 322 L (.int (mu a 5) :: st) (Wd mu la ro et) := R_gfI d_MBo_run_319 ff_0_38 hq
theorem r_MBo_run_322 : Rr X d MBo_run 322 L st h = Rr X d MBo_run 323 L (.int (0) :: st) h := Rr_nx d_MBo_run_322 rfl
theorem r_MBo_run_323 : Rr X d MBo_run 323 L st h = Rr X d MBo_run 324 L (.int (1) :: st) h := Rr_nx d_MBo_run_323 rfl
theorem r_MBo_run_324 {l0 l1 l2 l3 : Value} {x : Int32} : Rr X d MBo_run 324 [l0, l1, l2, l3, .int x] st h = Rr X d MBo_run 326 [l0, l1, l2, l3, .int x] (.int x :: st) h := Rr_nx d_MBo_run_324 rfl
theorem r_MBo_run_326 {y0 : Int32} {y1 : Int32} {y2 : Int32} {y3 : Int32} {a : Nat} (hO : qO a 0 = true) (hc : ckS st = true) : Rr X (d + 1) MBo_run 326 L (.int y3 :: .int y2 :: .int y1 :: .int y0 :: .ref a :: st) (Wd mu la ro et) = (Rr X d MBo_ask 0 [.ref a, .int y0, .int y1, .int y2, .int y3, mkU, mkU] [] (Wd mu la ro et)).bind fun q => Rr X (d + 1) MBo_run 329 L (psh q.1 st) q.2 := R_iv (av := [.int y3, .int y2, .int y1, .int y0]) d_MBo_run_326 fc_0_44 hO (ckS_le hc) rfl (Nat.le_of_ble_eq_true rfl) (Nat.le_of_ble_eq_true rfl)
theorem r_MBo_run_329 {x y : Int32} : Rr X d MBo_run 329 L (.int y :: .int x :: st) h = Rr X d MBo_run 330 L (.int (x - y) :: st) h := Rr_nx d_MBo_run_329 rfl
theorem r_MBo_run_330 {x : Int32} : Rr X d MBo_run 330 L [.int x] h = some (some (.int x), h) := R_ir d_MBo_run_330 rfl
theorem r_MBo_run_331 : Rr X d MBo_run 331 L st h = Rr X d MBo_run 332 L (.int (0) :: st) h := Rr_nx d_MBo_run_331 rfl
theorem r_MBo_run_332 {x : Int32} : Rr X d MBo_run 332 L [.int x] h = some (some (.int x), h) := R_ir d_MBo_run_332 rfl
theorem d_MBo_ownNumber_0 : decode MBo_ownNumber.2.2.1 0 = .ok (.iload_n 0, 1) := lkT_ok tk_MBo_ownNumber rfl
theorem d_MBo_ownNumber_1 : decode MBo_ownNumber.2.2.1 1 = .ok (.iconst 4, 1) := lkT_ok tk_MBo_ownNumber rfl
theorem d_MBo_ownNumber_2 : decode MBo_ownNumber.2.2.1 2 = .ok (.imul, 1) := lkT_ok tk_MBo_ownNumber rfl
theorem d_MBo_ownNumber_3 : decode MBo_ownNumber.2.2.1 3 = .ok (.iload_n 1, 1) := lkT_ok tk_MBo_ownNumber rfl
theorem d_MBo_ownNumber_4 : decode MBo_ownNumber.2.2.1 4 = .ok (.iadd, 1) := lkT_ok tk_MBo_ownNumber rfl
theorem d_MBo_ownNumber_5 : decode MBo_ownNumber.2.2.1 5 = .ok (.istore_n 2, 1) := lkT_ok tk_MBo_ownNumber rfl
theorem d_MBo_ownNumber_6 : decode MBo_ownNumber.2.2.1 6 = .ok (.iload_n 0, 1) := lkT_ok tk_MBo_ownNumber rfl
theorem d_MBo_ownNumber_7 : decode MBo_ownNumber.2.2.1 7 = .ok (.ifCond .lt 23, 3) := lkT_ok tk_MBo_ownNumber rfl
theorem d_MBo_ownNumber_10 : decode MBo_ownNumber.2.2.1 10 = .ok (.iload_n 2, 1) := lkT_ok tk_MBo_ownNumber rfl
theorem d_MBo_ownNumber_11 : decode MBo_ownNumber.2.2.1 11 = .ok (.ifCond .lt 19, 3) := lkT_ok tk_MBo_ownNumber rfl
theorem d_MBo_ownNumber_14 : decode MBo_ownNumber.2.2.1 14 = .ok (.iload_n 2, 1) := lkT_ok tk_MBo_ownNumber rfl
theorem d_MBo_ownNumber_15 : decode MBo_ownNumber.2.2.1 15 = .ok (.getstatic 29, 3) := lkT_ok tk_MBo_ownNumber rfl
theorem d_MBo_ownNumber_18 : decode MBo_ownNumber.2.2.1 18 = .ok (.arraylength, 1) := lkT_ok tk_MBo_ownNumber rfl
theorem d_MBo_ownNumber_19 : decode MBo_ownNumber.2.2.1 19 = .ok (.if_icmp .ge 11, 3) := lkT_ok tk_MBo_ownNumber rfl
theorem d_MBo_ownNumber_22 : decode MBo_ownNumber.2.2.1 22 = .ok (.getstatic 29, 3) := lkT_ok tk_MBo_ownNumber rfl
theorem d_MBo_ownNumber_25 : decode MBo_ownNumber.2.2.1 25 = .ok (.iload_n 2, 1) := lkT_ok tk_MBo_ownNumber rfl
theorem d_MBo_ownNumber_26 : decode MBo_ownNumber.2.2.1 26 = .ok (.iaload, 1) := lkT_ok tk_MBo_ownNumber rfl
theorem d_MBo_ownNumber_27 : decode MBo_ownNumber.2.2.1 27 = .ok (.goto 4, 3) := lkT_ok tk_MBo_ownNumber rfl
theorem d_MBo_ownNumber_30 : decode MBo_ownNumber.2.2.1 30 = .ok (.iconst 0, 1) := lkT_ok tk_MBo_ownNumber rfl
theorem d_MBo_ownNumber_31 : decode MBo_ownNumber.2.2.1 31 = .ok (.ireturn, 1) := lkT_ok tk_MBo_ownNumber rfl
theorem r_MBo_ownNumber_0 {l1 l2 : Value} {x : Int32} : Rr X d MBo_ownNumber 0 [.int x, l1, l2] st h = Rr X d MBo_ownNumber 1 [.int x, l1, l2] (.int x :: st) h := Rr_nx d_MBo_ownNumber_0 rfl
theorem r_MBo_ownNumber_1 : Rr X d MBo_ownNumber 1 L st h = Rr X d MBo_ownNumber 2 L (.int (4) :: st) h := Rr_nx d_MBo_ownNumber_1 rfl
theorem r_MBo_ownNumber_2 {x y : Int32} : Rr X d MBo_ownNumber 2 L (.int y :: .int x :: st) h = Rr X d MBo_ownNumber 3 L (.int (x * y) :: st) h := Rr_nx d_MBo_ownNumber_2 rfl
theorem r_MBo_ownNumber_3 {l0 l2 : Value} {x : Int32} : Rr X d MBo_ownNumber 3 [l0, .int x, l2] st h = Rr X d MBo_ownNumber 4 [l0, .int x, l2] (.int x :: st) h := Rr_nx d_MBo_ownNumber_3 rfl
theorem r_MBo_ownNumber_4 {x y : Int32} : Rr X d MBo_ownNumber 4 L (.int y :: .int x :: st) h = Rr X d MBo_ownNumber 5 L (.int (x + y) :: st) h := Rr_nx d_MBo_ownNumber_4 rfl
theorem r_MBo_ownNumber_5 {l0 l1 l2 : Value} {x : Int32} : Rr X d MBo_ownNumber 5 [l0, l1, l2] (.int x :: st) h = Rr X d MBo_ownNumber 6 (sL [l0, l1, l2] 2 (.int x)) st h := Rr_nx d_MBo_ownNumber_5 rfl
theorem r_MBo_ownNumber_6 {l1 l2 : Value} {x : Int32} : Rr X d MBo_ownNumber 6 [.int x, l1, l2] st h = Rr X d MBo_ownNumber 7 [.int x, l1, l2] (.int x :: st) h := Rr_nx d_MBo_ownNumber_6 rfl
theorem r_MBo_ownNumber_7 {x : Int32} : Rr X d MBo_ownNumber 7 L (.int x :: st) h = if x < 0 then Rr X d MBo_ownNumber 30 L st h else Rr X d MBo_ownNumber 10 L st h := R_if_lt d_MBo_ownNumber_7 (by decide)
theorem r_MBo_ownNumber_10 {l0 l1 : Value} {x : Int32} : Rr X d MBo_ownNumber 10 [l0, l1, .int x] st h = Rr X d MBo_ownNumber 11 [l0, l1, .int x] (.int x :: st) h := Rr_nx d_MBo_ownNumber_10 rfl
theorem r_MBo_ownNumber_11 {x : Int32} : Rr X d MBo_ownNumber 11 L (.int x :: st) h = if x < 0 then Rr X d MBo_ownNumber 30 L st h else Rr X d MBo_ownNumber 14 L st h := R_if_lt d_MBo_ownNumber_11 (by decide)
theorem r_MBo_ownNumber_14 {l0 l1 : Value} {x : Int32} : Rr X d MBo_ownNumber 14 [l0, l1, .int x] st h = Rr X d MBo_ownNumber 15 [l0, l1, .int x] (.int x :: st) h := Rr_nx d_MBo_ownNumber_14 rfl
theorem r_MBo_ownNumber_15 : Rr X d MBo_ownNumber 15 L st h = Rr X d MBo_ownNumber 18 L (.float 2 :: st) h := Rr_nx d_MBo_ownNumber_15 rfl
theorem r_MBo_ownNumber_18 {a : Nat} (hq : (qL a).isSome = true) : Rr X d MBo_ownNumber 18 L (.ref a :: st) (Wd mu la ro et) = Rr X d MBo_ownNumber 19 L (.int (Int32.ofNat (qLd a)) :: st) (Wd mu la ro et) := R_lenW d_MBo_ownNumber_18 hq
theorem r_MBo_ownNumber_18a (hx : X 1 = some (8, fun j => abL.getD j 0)) : Rr X d MBo_ownNumber 18 L (.float 1 :: st) h = Rr X d MBo_ownNumber 19 L (.int (Int32.ofNat 8) :: st) h := R_lenX d_MBo_ownNumber_18 hx
theorem r_MBo_ownNumber_18o (hx : X 2 = some (32, fun j => owL.getD j 0)) : Rr X d MBo_ownNumber 18 L (.float 2 :: st) h = Rr X d MBo_ownNumber 19 L (.int (Int32.ofNat 32) :: st) h := R_lenX d_MBo_ownNumber_18 hx
theorem r_MBo_ownNumber_19 {x y : Int32} : Rr X d MBo_ownNumber 19 L (.int y :: .int x :: st) h = if y ≤ x then Rr X d MBo_ownNumber 30 L st h else Rr X d MBo_ownNumber 22 L st h := R_ic_ge d_MBo_ownNumber_19 (by decide)
theorem r_MBo_ownNumber_22 : Rr X d MBo_ownNumber 22 L st h = Rr X d MBo_ownNumber 25 L (.float 2 :: st) h := Rr_nx d_MBo_ownNumber_22 rfl
theorem r_MBo_ownNumber_25 {l0 l1 : Value} {x : Int32} : Rr X d MBo_ownNumber 25 [l0, l1, .int x] st h = Rr X d MBo_ownNumber 26 [l0, l1, .int x] (.int x :: st) h := Rr_nx d_MBo_ownNumber_25 rfl
theorem r_MBo_ownNumber_26 {a : Nat} {j : Int32} (hq : (qA a 0).isSome = true) : Rr X d MBo_ownNumber 26 L (.int j :: .ref a :: st) (Wd mu la ro et) = if j < 0 ∨ qAd a 0 ≤ j.toNatClampNeg then none else Rr X d MBo_ownNumber 27 L (.int (mu a j.toNatClampNeg) :: st) (Wd mu la ro et) := R_ialW d_MBo_ownNumber_26 hq
theorem r_MBo_ownNumber_26a {j : Int32} (hx : X 1 = some (8, fun j => abL.getD j 0)) : Rr X d MBo_ownNumber 26 L (.int j :: .float 1 :: st) h = if j < 0 ∨ 8 ≤ j.toNatClampNeg then none else Rr X d MBo_ownNumber 27 L (.int (abL.getD j.toNatClampNeg 0) :: st) h := R_ialX d_MBo_ownNumber_26 hx
theorem r_MBo_ownNumber_26o {j : Int32} (hx : X 2 = some (32, fun j => owL.getD j 0)) : Rr X d MBo_ownNumber 26 L (.int j :: .float 2 :: st) h = if j < 0 ∨ 32 ≤ j.toNatClampNeg then none else Rr X d MBo_ownNumber 27 L (.int (owL.getD j.toNatClampNeg 0) :: st) h := R_ialX d_MBo_ownNumber_26 hx
theorem r_MBo_ownNumber_27 : Rr X d MBo_ownNumber 27 L st h = Rr X d MBo_ownNumber 31 L st h := R_goto d_MBo_ownNumber_27 (by decide)
theorem r_MBo_ownNumber_30 : Rr X d MBo_ownNumber 30 L st h = Rr X d MBo_ownNumber 31 L (.int (0) :: st) h := Rr_nx d_MBo_ownNumber_30 rfl
theorem r_MBo_ownNumber_31 {x : Int32} : Rr X d MBo_ownNumber 31 L [.int x] h = some (some (.int x), h) := R_ir d_MBo_ownNumber_31 rfl
theorem d_MRm_act_0 : decode MRm_act.2.2.1 0 = .ok (.aload_n 0, 1) := lkT_ok tk_MRm_act rfl
theorem d_MRm_act_1 : decode MRm_act.2.2.1 1 = .ok (.iconst 0, 1) := lkT_ok tk_MRm_act rfl
theorem d_MRm_act_2 : decode MRm_act.2.2.1 2 = .ok (.putfield 359, 3) := lkT_ok tk_MRm_act rfl
theorem d_MRm_act_5 : decode MRm_act.2.2.1 5 = .ok (.aload_n 0, 1) := lkT_ok tk_MRm_act rfl
theorem d_MRm_act_6 : decode MRm_act.2.2.1 6 = .ok (.iload_n 1, 1) := lkT_ok tk_MRm_act rfl
theorem d_MRm_act_7 : decode MRm_act.2.2.1 7 = .ok (.invokevirtual 395, 3) := lkT_ok tk_MRm_act rfl
theorem d_MRm_act_10 : decode MRm_act.2.2.1 10 = .ok (.ifCond .eq 12, 3) := lkT_ok tk_MRm_act rfl
theorem d_MRm_act_13 : decode MRm_act.2.2.1 13 = .ok (.iload_n 2, 1) := lkT_ok tk_MRm_act rfl
theorem d_MRm_act_14 : decode MRm_act.2.2.1 14 = .ok (.iconst 0, 1) := lkT_ok tk_MRm_act rfl
theorem d_MRm_act_15 : decode MRm_act.2.2.1 15 = .ok (.iconst 3, 1) := lkT_ok tk_MRm_act rfl
theorem d_MRm_act_16 : decode MRm_act.2.2.1 16 = .ok (.invokestatic 107, 3) := lkT_ok tk_MRm_act rfl
theorem d_MRm_act_19 : decode MRm_act.2.2.1 19 = .ok (.ifCond .ne 5, 3) := lkT_ok tk_MRm_act rfl
theorem d_MRm_act_22 : decode MRm_act.2.2.1 22 = .ok (.iconst 0, 1) := lkT_ok tk_MRm_act rfl
theorem d_MRm_act_23 : decode MRm_act.2.2.1 23 = .ok (.ireturn, 1) := lkT_ok tk_MRm_act rfl
theorem d_MRm_act_24 : decode MRm_act.2.2.1 24 = .ok (.iload_n 2, 1) := lkT_ok tk_MRm_act rfl
theorem d_MRm_act_25 : decode MRm_act.2.2.1 25 = .ok (.ifCond .ne 12, 3) := lkT_ok tk_MRm_act rfl
theorem d_MRm_act_28 : decode MRm_act.2.2.1 28 = .ok (.aload_n 0, 1) := lkT_ok tk_MRm_act rfl
theorem d_MRm_act_29 : decode MRm_act.2.2.1 29 = .ok (.iload_n 1, 1) := lkT_ok tk_MRm_act rfl
theorem d_MRm_act_30 : decode MRm_act.2.2.1 30 = .ok (.iload_n 3, 1) := lkT_ok tk_MRm_act rfl
theorem d_MRm_act_31 : decode MRm_act.2.2.1 31 = .ok (.invokevirtual 371, 3) := lkT_ok tk_MRm_act rfl
theorem d_MRm_act_34 : decode MRm_act.2.2.1 34 = .ok (.goto 37, 3) := lkT_ok tk_MRm_act rfl
theorem d_MRm_act_37 : decode MRm_act.2.2.1 37 = .ok (.iload_n 2, 1) := lkT_ok tk_MRm_act rfl
theorem d_MRm_act_38 : decode MRm_act.2.2.1 38 = .ok (.iconst 1, 1) := lkT_ok tk_MRm_act rfl
theorem d_MRm_act_39 : decode MRm_act.2.2.1 39 = .ok (.if_icmp .ne 12, 3) := lkT_ok tk_MRm_act rfl
theorem d_MRm_act_42 : decode MRm_act.2.2.1 42 = .ok (.aload_n 0, 1) := lkT_ok tk_MRm_act rfl
theorem d_MRm_act_43 : decode MRm_act.2.2.1 43 = .ok (.iload_n 1, 1) := lkT_ok tk_MRm_act rfl
theorem d_MRm_act_44 : decode MRm_act.2.2.1 44 = .ok (.iload_n 3, 1) := lkT_ok tk_MRm_act rfl
theorem d_MRm_act_45 : decode MRm_act.2.2.1 45 = .ok (.invokevirtual 389, 3) := lkT_ok tk_MRm_act rfl
theorem d_MRm_act_48 : decode MRm_act.2.2.1 48 = .ok (.goto 23, 3) := lkT_ok tk_MRm_act rfl
theorem d_MRm_act_51 : decode MRm_act.2.2.1 51 = .ok (.iload_n 2, 1) := lkT_ok tk_MRm_act rfl
theorem d_MRm_act_52 : decode MRm_act.2.2.1 52 = .ok (.iconst 2, 1) := lkT_ok tk_MRm_act rfl
theorem d_MRm_act_53 : decode MRm_act.2.2.1 53 = .ok (.if_icmp .ne 12, 3) := lkT_ok tk_MRm_act rfl
theorem d_MRm_act_56 : decode MRm_act.2.2.1 56 = .ok (.aload_n 0, 1) := lkT_ok tk_MRm_act rfl
theorem d_MRm_act_57 : decode MRm_act.2.2.1 57 = .ok (.iload_n 1, 1) := lkT_ok tk_MRm_act rfl
theorem d_MRm_act_58 : decode MRm_act.2.2.1 58 = .ok (.iload_n 3, 1) := lkT_ok tk_MRm_act rfl
theorem d_MRm_act_59 : decode MRm_act.2.2.1 59 = .ok (.invokevirtual 380, 3) := lkT_ok tk_MRm_act rfl
theorem d_MRm_act_62 : decode MRm_act.2.2.1 62 = .ok (.goto 9, 3) := lkT_ok tk_MRm_act rfl
theorem d_MRm_act_65 : decode MRm_act.2.2.1 65 = .ok (.aload_n 0, 1) := lkT_ok tk_MRm_act rfl
theorem d_MRm_act_66 : decode MRm_act.2.2.1 66 = .ok (.iload_n 1, 1) := lkT_ok tk_MRm_act rfl
theorem d_MRm_act_67 : decode MRm_act.2.2.1 67 = .ok (.iload_n 3, 1) := lkT_ok tk_MRm_act rfl
theorem d_MRm_act_68 : decode MRm_act.2.2.1 68 = .ok (.invokevirtual 398, 3) := lkT_ok tk_MRm_act rfl
theorem d_MRm_act_71 : decode MRm_act.2.2.1 71 = .ok (.ireturn, 1) := lkT_ok tk_MRm_act rfl
theorem r_MRm_act_0 {l1 l2 l3 : Value} {x : Nat} : Rr X d MRm_act 0 [.ref x, l1, l2, l3] st h = Rr X d MRm_act 1 [.ref x, l1, l2, l3] (.ref x :: st) h := Rr_nx d_MRm_act_0 rfl
theorem r_MRm_act_1 : Rr X d MRm_act 1 L st h = Rr X d MRm_act 2 L (.int (0) :: st) h := Rr_nx d_MRm_act_1 rfl
theorem ff_10_359 : fF 10 359 = some (10, 53, 0, 0) := rfl
theorem r_MRm_act_2 {a : Nat} {x : Int32} (hq : qI a 10 53 = true) : Rr X d MRm_act 2 L (.int x :: .ref a :: st) (Wd mu la ro et) = Rr X d MRm_act 5 L st (Wd (up2 mu a 53 x) la ro et) := R_pfI d_MRm_act_2 ff_10_359 hq
theorem r_MRm_act_5 {l1 l2 l3 : Value} {x : Nat} : Rr X d MRm_act 5 [.ref x, l1, l2, l3] st h = Rr X d MRm_act 6 [.ref x, l1, l2, l3] (.ref x :: st) h := Rr_nx d_MRm_act_5 rfl
theorem r_MRm_act_6 {l0 l2 l3 : Value} {x : Int32} : Rr X d MRm_act 6 [l0, .int x, l2, l3] st h = Rr X d MRm_act 7 [l0, .int x, l2, l3] (.int x :: st) h := Rr_nx d_MRm_act_6 rfl
theorem fc_10_395 : fC 10 395 = some (0, 10, 1, MRm_isBody) := rfl
theorem r_MRm_act_7 {y0 : Int32} {a : Nat} (hO : qO a 10 = true) (hc : ckS st = true) : Rr X (d + 1) MRm_act 7 L (.int y0 :: .ref a :: st) (Wd mu la ro et) = (Rr X d MRm_isBody 0 [.ref a, .int y0] [] (Wd mu la ro et)).bind fun q => Rr X (d + 1) MRm_act 10 L (psh q.1 st) q.2 := R_iv (av := [.int y0]) d_MRm_act_7 fc_10_395 hO (ckS_le hc) rfl (Nat.le_of_ble_eq_true rfl) (Nat.le_of_ble_eq_true rfl)
theorem r_MRm_act_10 {x : Int32} : Rr X d MRm_act 10 L (.int x :: st) h = if x = 0 then Rr X d MRm_act 22 L st h else Rr X d MRm_act 13 L st h := R_if_eq d_MRm_act_10 (by decide)
theorem r_MRm_act_13 {l0 l1 l3 : Value} {x : Int32} : Rr X d MRm_act 13 [l0, l1, .int x, l3] st h = Rr X d MRm_act 14 [l0, l1, .int x, l3] (.int x :: st) h := Rr_nx d_MRm_act_13 rfl
theorem r_MRm_act_14 : Rr X d MRm_act 14 L st h = Rr X d MRm_act 15 L (.int (0) :: st) h := Rr_nx d_MRm_act_14 rfl
theorem r_MRm_act_15 : Rr X d MRm_act 15 L st h = Rr X d MRm_act 16 L (.int (3) :: st) h := Rr_nx d_MRm_act_15 rfl
theorem r_MRm_act_16 {y0 : Int32} {y1 : Int32} {y2 : Int32} (hc : ckS st = true) : Rr X (d + 1) MRm_act 16 L (.int y2 :: .int y1 :: .int y0 :: st) h = (Rr X d MRm_in 0 [.int y0, .int y1, .int y2] [] h).bind fun q => Rr X (d + 1) MRm_act 19 L (psh q.1 st) q.2 := R_is (av := [.int y2, .int y1, .int y0]) d_MRm_act_16 (Or.inl fc_10_107) (ckS_le hc) rfl (Nat.le_of_ble_eq_true rfl) (Nat.le_of_ble_eq_true rfl)
theorem r_MRm_act_19 {x : Int32} : Rr X d MRm_act 19 L (.int x :: st) h = if ¬ x = 0 then Rr X d MRm_act 24 L st h else Rr X d MRm_act 22 L st h := R_if_ne d_MRm_act_19 (by decide)
theorem r_MRm_act_22 : Rr X d MRm_act 22 L st h = Rr X d MRm_act 23 L (.int (0) :: st) h := Rr_nx d_MRm_act_22 rfl
theorem r_MRm_act_23 {x : Int32} : Rr X d MRm_act 23 L [.int x] h = some (some (.int x), h) := R_ir d_MRm_act_23 rfl
theorem r_MRm_act_24 {l0 l1 l3 : Value} {x : Int32} : Rr X d MRm_act 24 [l0, l1, .int x, l3] st h = Rr X d MRm_act 25 [l0, l1, .int x, l3] (.int x :: st) h := Rr_nx d_MRm_act_24 rfl
theorem r_MRm_act_25 {x : Int32} : Rr X d MRm_act 25 L (.int x :: st) h = if ¬ x = 0 then Rr X d MRm_act 37 L st h else Rr X d MRm_act 28 L st h := R_if_ne d_MRm_act_25 (by decide)
theorem r_MRm_act_28 {l1 l2 l3 : Value} {x : Nat} : Rr X d MRm_act 28 [.ref x, l1, l2, l3] st h = Rr X d MRm_act 29 [.ref x, l1, l2, l3] (.ref x :: st) h := Rr_nx d_MRm_act_28 rfl
theorem r_MRm_act_29 {l0 l2 l3 : Value} {x : Int32} : Rr X d MRm_act 29 [l0, .int x, l2, l3] st h = Rr X d MRm_act 30 [l0, .int x, l2, l3] (.int x :: st) h := Rr_nx d_MRm_act_29 rfl
theorem r_MRm_act_30 {l0 l1 l2 : Value} {x : Int32} : Rr X d MRm_act 30 [l0, l1, l2, .int x] st h = Rr X d MRm_act 31 [l0, l1, l2, .int x] (.int x :: st) h := Rr_nx d_MRm_act_30 rfl
theorem fc_10_371 : fC 10 371 = some (0, 10, 2, MRm_rolls) := rfl
theorem r_MRm_act_31 {y0 : Int32} {y1 : Int32} {a : Nat} (hO : qO a 10 = true) (hc : ckS st = true) : Rr X (d + 1) MRm_act 31 L (.int y1 :: .int y0 :: .ref a :: st) (Wd mu la ro et) = (Rr X d MRm_rolls 0 [.ref a, .int y0, .int y1] [] (Wd mu la ro et)).bind fun q => Rr X (d + 1) MRm_act 34 L (psh q.1 st) q.2 := R_iv (av := [.int y1, .int y0]) d_MRm_act_31 fc_10_371 hO (ckS_le hc) rfl (Nat.le_of_ble_eq_true rfl) (Nat.le_of_ble_eq_true rfl)
theorem r_MRm_act_34 : Rr X d MRm_act 34 L st h = Rr X d MRm_act 71 L st h := R_goto d_MRm_act_34 (by decide)
theorem r_MRm_act_37 {l0 l1 l3 : Value} {x : Int32} : Rr X d MRm_act 37 [l0, l1, .int x, l3] st h = Rr X d MRm_act 38 [l0, l1, .int x, l3] (.int x :: st) h := Rr_nx d_MRm_act_37 rfl
theorem r_MRm_act_38 : Rr X d MRm_act 38 L st h = Rr X d MRm_act 39 L (.int (1) :: st) h := Rr_nx d_MRm_act_38 rfl
theorem r_MRm_act_39 {x y : Int32} : Rr X d MRm_act 39 L (.int y :: .int x :: st) h = if ¬ x = y then Rr X d MRm_act 51 L st h else Rr X d MRm_act 42 L st h := R_ic_ne d_MRm_act_39 (by decide)
theorem r_MRm_act_42 {l1 l2 l3 : Value} {x : Nat} : Rr X d MRm_act 42 [.ref x, l1, l2, l3] st h = Rr X d MRm_act 43 [.ref x, l1, l2, l3] (.ref x :: st) h := Rr_nx d_MRm_act_42 rfl
theorem r_MRm_act_43 {l0 l2 l3 : Value} {x : Int32} : Rr X d MRm_act 43 [l0, .int x, l2, l3] st h = Rr X d MRm_act 44 [l0, .int x, l2, l3] (.int x :: st) h := Rr_nx d_MRm_act_43 rfl
theorem r_MRm_act_44 {l0 l1 l2 : Value} {x : Int32} : Rr X d MRm_act 44 [l0, l1, l2, .int x] st h = Rr X d MRm_act 45 [l0, l1, l2, .int x] (.int x :: st) h := Rr_nx d_MRm_act_44 rfl
theorem fc_10_389 : fC 10 389 = some (0, 10, 2, MRm_trades) := rfl
theorem r_MRm_act_45 {y0 : Int32} {y1 : Int32} {a : Nat} (hO : qO a 10 = true) (hc : ckS st = true) : Rr X (d + 1) MRm_act 45 L (.int y1 :: .int y0 :: .ref a :: st) (Wd mu la ro et) = (Rr X d MRm_trades 0 [.ref a, .int y0, .int y1, mkU] [] (Wd mu la ro et)).bind fun q => Rr X (d + 1) MRm_act 48 L (psh q.1 st) q.2 := R_iv (av := [.int y1, .int y0]) d_MRm_act_45 fc_10_389 hO (ckS_le hc) rfl (Nat.le_of_ble_eq_true rfl) (Nat.le_of_ble_eq_true rfl)
theorem r_MRm_act_48 : Rr X d MRm_act 48 L st h = Rr X d MRm_act 71 L st h := R_goto d_MRm_act_48 (by decide)
theorem r_MRm_act_51 {l0 l1 l3 : Value} {x : Int32} : Rr X d MRm_act 51 [l0, l1, .int x, l3] st h = Rr X d MRm_act 52 [l0, l1, .int x, l3] (.int x :: st) h := Rr_nx d_MRm_act_51 rfl
theorem r_MRm_act_52 : Rr X d MRm_act 52 L st h = Rr X d MRm_act 53 L (.int (2) :: st) h := Rr_nx d_MRm_act_52 rfl
theorem r_MRm_act_53 {x y : Int32} : Rr X d MRm_act 53 L (.int y :: .int x :: st) h = if ¬ x = y then Rr X d MRm_act 65 L st h else Rr X d MRm_act 56 L st h := R_ic_ne d_MRm_act_53 (by decide)
theorem r_MRm_act_56 {l1 l2 l3 : Value} {x : Nat} : Rr X d MRm_act 56 [.ref x, l1, l2, l3] st h = Rr X d MRm_act 57 [.ref x, l1, l2, l3] (.ref x :: st) h := Rr_nx d_MRm_act_56 rfl
theorem r_MRm_act_57 {l0 l2 l3 : Value} {x : Int32} : Rr X d MRm_act 57 [l0, .int x, l2, l3] st h = Rr X d MRm_act 58 [l0, .int x, l2, l3] (.int x :: st) h := Rr_nx d_MRm_act_57 rfl
theorem r_MRm_act_58 {l0 l1 l2 : Value} {x : Int32} : Rr X d MRm_act 58 [l0, l1, l2, .int x] st h = Rr X d MRm_act 59 [l0, l1, l2, .int x] (.int x :: st) h := Rr_nx d_MRm_act_58 rfl
theorem fc_10_380 : fC 10 380 = some (0, 10, 2, MRm_ends) := rfl
theorem r_MRm_act_59 {y0 : Int32} {y1 : Int32} {a : Nat} (hO : qO a 10 = true) (hc : ckS st = true) : Rr X (d + 1) MRm_act 59 L (.int y1 :: .int y0 :: .ref a :: st) (Wd mu la ro et) = (Rr X d MRm_ends 0 [.ref a, .int y0, .int y1, mkU] [] (Wd mu la ro et)).bind fun q => Rr X (d + 1) MRm_act 62 L (psh q.1 st) q.2 := R_iv (av := [.int y1, .int y0]) d_MRm_act_59 fc_10_380 hO (ckS_le hc) rfl (Nat.le_of_ble_eq_true rfl) (Nat.le_of_ble_eq_true rfl)
theorem r_MRm_act_62 : Rr X d MRm_act 62 L st h = Rr X d MRm_act 71 L st h := R_goto d_MRm_act_62 (by decide)
theorem r_MRm_act_65 {l1 l2 l3 : Value} {x : Nat} : Rr X d MRm_act 65 [.ref x, l1, l2, l3] st h = Rr X d MRm_act 66 [.ref x, l1, l2, l3] (.ref x :: st) h := Rr_nx d_MRm_act_65 rfl
theorem r_MRm_act_66 {l0 l2 l3 : Value} {x : Int32} : Rr X d MRm_act 66 [l0, .int x, l2, l3] st h = Rr X d MRm_act 67 [l0, .int x, l2, l3] (.int x :: st) h := Rr_nx d_MRm_act_66 rfl
theorem r_MRm_act_67 {l0 l1 l2 : Value} {x : Int32} : Rr X d MRm_act 67 [l0, l1, l2, .int x] st h = Rr X d MRm_act 68 [l0, l1, l2, .int x] (.int x :: st) h := Rr_nx d_MRm_act_67 rfl
theorem fc_10_398 : fC 10 398 = some (0, 10, 2, MRm_tells) := rfl
theorem r_MRm_act_68 {y0 : Int32} {y1 : Int32} {a : Nat} (hO : qO a 10 = true) (hc : ckS st = true) : Rr X (d + 1) MRm_act 68 L (.int y1 :: .int y0 :: .ref a :: st) (Wd mu la ro et) = (Rr X d MRm_tells 0 [.ref a, .int y0, .int y1, mkU] [] (Wd mu la ro et)).bind fun q => Rr X (d + 1) MRm_act 71 L (psh q.1 st) q.2 := R_iv (av := [.int y1, .int y0]) d_MRm_act_68 fc_10_398 hO (ckS_le hc) rfl (Nat.le_of_ble_eq_true rfl) (Nat.le_of_ble_eq_true rfl)
theorem r_MRm_act_71 {x : Int32} : Rr X d MRm_act 71 L [.int x] h = some (some (.int x), h) := R_ir d_MRm_act_71 rfl
theorem d_MRm_isBody_0 : decode MRm_isBody.2.2.1 0 = .ok (.iload_n 1, 1) := lkT_ok tk_MRm_isBody rfl
theorem d_MRm_isBody_1 : decode MRm_isBody.2.2.1 1 = .ok (.iconst 0, 1) := lkT_ok tk_MRm_isBody rfl
theorem d_MRm_isBody_2 : decode MRm_isBody.2.2.1 2 = .ok (.aload_n 0, 1) := lkT_ok tk_MRm_isBody rfl
theorem d_MRm_isBody_3 : decode MRm_isBody.2.2.1 3 = .ok (.getfield 356, 3) := lkT_ok tk_MRm_isBody rfl
theorem d_MRm_isBody_6 : decode MRm_isBody.2.2.1 6 = .ok (.iconst 1, 1) := lkT_ok tk_MRm_isBody rfl
theorem d_MRm_isBody_7 : decode MRm_isBody.2.2.1 7 = .ok (.isub, 1) := lkT_ok tk_MRm_isBody rfl
theorem d_MRm_isBody_8 : decode MRm_isBody.2.2.1 8 = .ok (.invokestatic 107, 3) := lkT_ok tk_MRm_isBody rfl
theorem d_MRm_isBody_11 : decode MRm_isBody.2.2.1 11 = .ok (.ireturn, 1) := lkT_ok tk_MRm_isBody rfl
theorem r_MRm_isBody_0 {l0 : Value} {x : Int32} : Rr X d MRm_isBody 0 [l0, .int x] st h = Rr X d MRm_isBody 1 [l0, .int x] (.int x :: st) h := Rr_nx d_MRm_isBody_0 rfl
theorem r_MRm_isBody_1 : Rr X d MRm_isBody 1 L st h = Rr X d MRm_isBody 2 L (.int (0) :: st) h := Rr_nx d_MRm_isBody_1 rfl
theorem r_MRm_isBody_2 {l1 : Value} {x : Nat} : Rr X d MRm_isBody 2 [.ref x, l1] st h = Rr X d MRm_isBody 3 [.ref x, l1] (.ref x :: st) h := Rr_nx d_MRm_isBody_2 rfl
theorem ff_10_356 : fF 10 356 = some (10, 51, 0, 0) := rfl
theorem r_MRm_isBody_3 {a : Nat} (hq : qI a 10 51 = true) : Rr X d MRm_isBody 3 L (.ref a :: st) (Wd mu la ro et) = Rr X d MRm_isBody 6 L (.int (mu a 51) :: st) (Wd mu la ro et) := R_gfI d_MRm_isBody_3 ff_10_356 hq
theorem r_MRm_isBody_6 : Rr X d MRm_isBody 6 L st h = Rr X d MRm_isBody 7 L (.int (1) :: st) h := Rr_nx d_MRm_isBody_6 rfl
theorem r_MRm_isBody_7 {x y : Int32} : Rr X d MRm_isBody 7 L (.int y :: .int x :: st) h = Rr X d MRm_isBody 8 L (.int (x - y) :: st) h := Rr_nx d_MRm_isBody_7 rfl
theorem r_MRm_isBody_8 {y0 : Int32} {y1 : Int32} {y2 : Int32} (hc : ckS st = true) : Rr X (d + 1) MRm_isBody 8 L (.int y2 :: .int y1 :: .int y0 :: st) h = (Rr X d MRm_in 0 [.int y0, .int y1, .int y2] [] h).bind fun q => Rr X (d + 1) MRm_isBody 11 L (psh q.1 st) q.2 := R_is (av := [.int y2, .int y1, .int y0]) d_MRm_isBody_8 (Or.inl fc_10_107) (ckS_le hc) rfl (Nat.le_of_ble_eq_true rfl) (Nat.le_of_ble_eq_true rfl)
theorem r_MRm_isBody_11 {x : Int32} : Rr X d MRm_isBody 11 L [.int x] h = if x = 0 ∨ x = 1 then some (some (.int x), h) else none := R_zr d_MRm_isBody_11 rfl
theorem d_MRm_ran_0 : decode MRm_ran.2.2.1 0 = .ok (.aload_n 0, 1) := lkT_ok tk_MRm_ran rfl
theorem d_MRm_ran_1 : decode MRm_ran.2.2.1 1 = .ok (.getfield 359, 3) := lkT_ok tk_MRm_ran rfl
theorem d_MRm_ran_4 : decode MRm_ran.2.2.1 4 = .ok (.bipush 24, 2) := lkT_ok tk_MRm_ran rfl
theorem d_MRm_ran_6 : decode MRm_ran.2.2.1 6 = .ok (.if_icmp .ge 13, 3) := lkT_ok tk_MRm_ran rfl
theorem d_MRm_ran_9 : decode MRm_ran.2.2.1 9 = .ok (.aload_n 0, 1) := lkT_ok tk_MRm_ran rfl
theorem d_MRm_ran_10 : decode MRm_ran.2.2.1 10 = .ok (.getfield 89, 3) := lkT_ok tk_MRm_ran rfl
theorem d_MRm_ran_13 : decode MRm_ran.2.2.1 13 = .ok (.aload_n 0, 1) := lkT_ok tk_MRm_ran rfl
theorem d_MRm_ran_14 : decode MRm_ran.2.2.1 14 = .ok (.getfield 359, 3) := lkT_ok tk_MRm_ran rfl
theorem d_MRm_ran_17 : decode MRm_ran.2.2.1 17 = .ok (.iload_n 1, 1) := lkT_ok tk_MRm_ran rfl
theorem d_MRm_ran_18 : decode MRm_ran.2.2.1 18 = .ok (.iastore, 1) := lkT_ok tk_MRm_ran rfl
theorem d_MRm_ran_19 : decode MRm_ran.2.2.1 19 = .ok (.aload_n 0, 1) := lkT_ok tk_MRm_ran rfl
theorem d_MRm_ran_20 : decode MRm_ran.2.2.1 20 = .ok (.dup, 1) := lkT_ok tk_MRm_ran rfl
theorem d_MRm_ran_21 : decode MRm_ran.2.2.1 21 = .ok (.getfield 359, 3) := lkT_ok tk_MRm_ran rfl
theorem d_MRm_ran_24 : decode MRm_ran.2.2.1 24 = .ok (.iconst 1, 1) := lkT_ok tk_MRm_ran rfl
theorem d_MRm_ran_25 : decode MRm_ran.2.2.1 25 = .ok (.iadd, 1) := lkT_ok tk_MRm_ran rfl
theorem d_MRm_ran_26 : decode MRm_ran.2.2.1 26 = .ok (.putfield 359, 3) := lkT_ok tk_MRm_ran rfl
theorem d_MRm_ran_29 : decode MRm_ran.2.2.1 29 = .ok (.return_, 1) := lkT_ok tk_MRm_ran rfl
theorem r_MRm_ran_0 {l1 : Value} {x : Nat} : Rr X d MRm_ran 0 [.ref x, l1] st h = Rr X d MRm_ran 1 [.ref x, l1] (.ref x :: st) h := Rr_nx d_MRm_ran_0 rfl
theorem r_MRm_ran_1 {a : Nat} (hq : qI a 10 53 = true) : Rr X d MRm_ran 1 L (.ref a :: st) (Wd mu la ro et) = Rr X d MRm_ran 4 L (.int (mu a 53) :: st) (Wd mu la ro et) := R_gfI d_MRm_ran_1 ff_10_359 hq
theorem r_MRm_ran_4 : Rr X d MRm_ran 4 L st h = Rr X d MRm_ran 6 L (.int (24) :: st) h := Rr_nx d_MRm_ran_4 rfl
theorem r_MRm_ran_6 {x y : Int32} : Rr X d MRm_ran 6 L (.int y :: .int x :: st) h = if y ≤ x then Rr X d MRm_ran 19 L st h else Rr X d MRm_ran 9 L st h := R_ic_ge d_MRm_ran_6 (by decide)
theorem r_MRm_ran_9 {l1 : Value} {x : Nat} : Rr X d MRm_ran 9 [.ref x, l1] st h = Rr X d MRm_ran 10 [.ref x, l1] (.ref x :: st) h := Rr_nx d_MRm_ran_9 rfl
theorem ff_10_89 : fF 10 89 = some (10, 54, 1, 1) := rfl
theorem r_MRm_ran_10 {a : Nat} (hq : (qR a 10 54).isSome = true) : Rr X d MRm_ran 10 L (.ref a :: st) (Wd mu la ro et) = Rr X d MRm_ran 13 L (.ref (qRd a 10 54) :: st) (Wd mu la ro et) := R_gfR d_MRm_ran_10 ff_10_89 hq
theorem r_MRm_ran_13 {l1 : Value} {x : Nat} : Rr X d MRm_ran 13 [.ref x, l1] st h = Rr X d MRm_ran 14 [.ref x, l1] (.ref x :: st) h := Rr_nx d_MRm_ran_13 rfl
theorem r_MRm_ran_14 {a : Nat} (hq : qI a 10 53 = true) : Rr X d MRm_ran 14 L (.ref a :: st) (Wd mu la ro et) = Rr X d MRm_ran 17 L (.int (mu a 53) :: st) (Wd mu la ro et) := R_gfI d_MRm_ran_14 ff_10_359 hq
theorem r_MRm_ran_17 {l0 : Value} {x : Int32} : Rr X d MRm_ran 17 [l0, .int x] st h = Rr X d MRm_ran 18 [l0, .int x] (.int x :: st) h := Rr_nx d_MRm_ran_17 rfl
theorem r_MRm_ran_18 {a : Nat} {j x : Int32} (hq : (qA a 0).isSome = true) : Rr X d MRm_ran 18 L (.int x :: .int j :: .ref a :: st) (Wd mu la ro et) = if j < 0 ∨ qAd a 0 ≤ j.toNatClampNeg then none else Rr X d MRm_ran 19 L st (Wd (up2 mu a j.toNatClampNeg (x)) la ro et) := R_iasW d_MRm_ran_18 hq
theorem r_MRm_ran_19 {l1 : Value} {x : Nat} : Rr X d MRm_ran 19 [.ref x, l1] st h = Rr X d MRm_ran 20 [.ref x, l1] (.ref x :: st) h := Rr_nx d_MRm_ran_19 rfl
theorem r_MRm_ran_20 {x : Nat} : Rr X d MRm_ran 20 L (.ref x :: st) h = Rr X d MRm_ran 21 L (.ref x :: .ref x :: st) h := Rr_nx d_MRm_ran_20 rfl
theorem r_MRm_ran_20i {x : Int32} : Rr X d MRm_ran 20 L (.int x :: st) h = Rr X d MRm_ran 21 L (.int x :: .int x :: st) h := Rr_nx d_MRm_ran_20 rfl
theorem r_MRm_ran_21 {a : Nat} (hq : qI a 10 53 = true) : Rr X d MRm_ran 21 L (.ref a :: st) (Wd mu la ro et) = Rr X d MRm_ran 24 L (.int (mu a 53) :: st) (Wd mu la ro et) := R_gfI d_MRm_ran_21 ff_10_359 hq
theorem r_MRm_ran_24 : Rr X d MRm_ran 24 L st h = Rr X d MRm_ran 25 L (.int (1) :: st) h := Rr_nx d_MRm_ran_24 rfl
theorem r_MRm_ran_25 {x y : Int32} : Rr X d MRm_ran 25 L (.int y :: .int x :: st) h = Rr X d MRm_ran 26 L (.int (x + y) :: st) h := Rr_nx d_MRm_ran_25 rfl
theorem r_MRm_ran_26 {a : Nat} {x : Int32} (hq : qI a 10 53 = true) : Rr X d MRm_ran 26 L (.int x :: .ref a :: st) (Wd mu la ro et) = Rr X d MRm_ran 29 L st (Wd (up2 mu a 53 x) la ro et) := R_pfI d_MRm_ran_26 ff_10_359 hq
theorem r_MRm_ran_29 : Rr X d MRm_ran 29 L [] h = some (none, h) := Rr_rt d_MRm_ran_29 rfl
theorem d_MRm_isUnder_0 : decode MRm_isUnder.2.2.1 0 = .ok (.iload_n 1, 1) := lkT_ok tk_MRm_isUnder rfl
theorem d_MRm_isUnder_1 : decode MRm_isUnder.2.2.1 1 = .ok (.ifCond .eq 45, 3) := lkT_ok tk_MRm_isUnder rfl
theorem d_MRm_isUnder_4 : decode MRm_isUnder.2.2.1 4 = .ok (.iload_n 0, 1) := lkT_ok tk_MRm_isUnder rfl
theorem d_MRm_isUnder_5 : decode MRm_isUnder.2.2.1 5 = .ok (.iload_n 1, 1) := lkT_ok tk_MRm_isUnder rfl
theorem d_MRm_isUnder_6 : decode MRm_isUnder.2.2.1 6 = .ok (.if_icmp .eq 40, 3) := lkT_ok tk_MRm_isUnder rfl
theorem d_MRm_isUnder_9 : decode MRm_isUnder.2.2.1 9 = .ok (.iload_n 1, 1) := lkT_ok tk_MRm_isUnder rfl
theorem d_MRm_isUnder_10 : decode MRm_isUnder.2.2.1 10 = .ok (.iconst 1, 1) := lkT_ok tk_MRm_isUnder rfl
theorem d_MRm_isUnder_11 : decode MRm_isUnder.2.2.1 11 = .ok (.if_icmp .ne 8, 3) := lkT_ok tk_MRm_isUnder rfl
theorem d_MRm_isUnder_14 : decode MRm_isUnder.2.2.1 14 = .ok (.iload_n 0, 1) := lkT_ok tk_MRm_isUnder rfl
theorem d_MRm_isUnder_15 : decode MRm_isUnder.2.2.1 15 = .ok (.iconst 5, 1) := lkT_ok tk_MRm_isUnder rfl
theorem d_MRm_isUnder_16 : decode MRm_isUnder.2.2.1 16 = .ok (.if_icmp .eq 30, 3) := lkT_ok tk_MRm_isUnder rfl
theorem d_MRm_isUnder_19 : decode MRm_isUnder.2.2.1 19 = .ok (.iload_n 1, 1) := lkT_ok tk_MRm_isUnder rfl
theorem d_MRm_isUnder_20 : decode MRm_isUnder.2.2.1 20 = .ok (.iconst 2, 1) := lkT_ok tk_MRm_isUnder rfl
theorem d_MRm_isUnder_21 : decode MRm_isUnder.2.2.1 21 = .ok (.if_icmp .ne 13, 3) := lkT_ok tk_MRm_isUnder rfl
theorem d_MRm_isUnder_24 : decode MRm_isUnder.2.2.1 24 = .ok (.iload_n 0, 1) := lkT_ok tk_MRm_isUnder rfl
theorem d_MRm_isUnder_25 : decode MRm_isUnder.2.2.1 25 = .ok (.iconst 3, 1) := lkT_ok tk_MRm_isUnder rfl
theorem d_MRm_isUnder_26 : decode MRm_isUnder.2.2.1 26 = .ok (.if_icmp .eq 20, 3) := lkT_ok tk_MRm_isUnder rfl
theorem d_MRm_isUnder_29 : decode MRm_isUnder.2.2.1 29 = .ok (.iload_n 0, 1) := lkT_ok tk_MRm_isUnder rfl
theorem d_MRm_isUnder_30 : decode MRm_isUnder.2.2.1 30 = .ok (.iconst 4, 1) := lkT_ok tk_MRm_isUnder rfl
theorem d_MRm_isUnder_31 : decode MRm_isUnder.2.2.1 31 = .ok (.if_icmp .eq 15, 3) := lkT_ok tk_MRm_isUnder rfl
theorem d_MRm_isUnder_34 : decode MRm_isUnder.2.2.1 34 = .ok (.iload_n 1, 1) := lkT_ok tk_MRm_isUnder rfl
theorem d_MRm_isUnder_35 : decode MRm_isUnder.2.2.1 35 = .ok (.bipush 6, 2) := lkT_ok tk_MRm_isUnder rfl
theorem d_MRm_isUnder_37 : decode MRm_isUnder.2.2.1 37 = .ok (.if_icmp .ne 13, 3) := lkT_ok tk_MRm_isUnder rfl
theorem d_MRm_isUnder_40 : decode MRm_isUnder.2.2.1 40 = .ok (.iload_n 0, 1) := lkT_ok tk_MRm_isUnder rfl
theorem d_MRm_isUnder_41 : decode MRm_isUnder.2.2.1 41 = .ok (.bipush 7, 2) := lkT_ok tk_MRm_isUnder rfl
theorem d_MRm_isUnder_43 : decode MRm_isUnder.2.2.1 43 = .ok (.if_icmp .ne 7, 3) := lkT_ok tk_MRm_isUnder rfl
theorem d_MRm_isUnder_46 : decode MRm_isUnder.2.2.1 46 = .ok (.iconst 1, 1) := lkT_ok tk_MRm_isUnder rfl
theorem d_MRm_isUnder_47 : decode MRm_isUnder.2.2.1 47 = .ok (.goto 4, 3) := lkT_ok tk_MRm_isUnder rfl
theorem d_MRm_isUnder_50 : decode MRm_isUnder.2.2.1 50 = .ok (.iconst 0, 1) := lkT_ok tk_MRm_isUnder rfl
theorem d_MRm_isUnder_51 : decode MRm_isUnder.2.2.1 51 = .ok (.ireturn, 1) := lkT_ok tk_MRm_isUnder rfl
theorem r_MRm_isUnder_0 {l0 : Value} {x : Int32} : Rr X d MRm_isUnder 0 [l0, .int x] st h = Rr X d MRm_isUnder 1 [l0, .int x] (.int x :: st) h := Rr_nx d_MRm_isUnder_0 rfl
theorem r_MRm_isUnder_1 {x : Int32} : Rr X d MRm_isUnder 1 L (.int x :: st) h = if x = 0 then Rr X d MRm_isUnder 46 L st h else Rr X d MRm_isUnder 4 L st h := R_if_eq d_MRm_isUnder_1 (by decide)
theorem r_MRm_isUnder_4 {l1 : Value} {x : Int32} : Rr X d MRm_isUnder 4 [.int x, l1] st h = Rr X d MRm_isUnder 5 [.int x, l1] (.int x :: st) h := Rr_nx d_MRm_isUnder_4 rfl
theorem r_MRm_isUnder_5 {l0 : Value} {x : Int32} : Rr X d MRm_isUnder 5 [l0, .int x] st h = Rr X d MRm_isUnder 6 [l0, .int x] (.int x :: st) h := Rr_nx d_MRm_isUnder_5 rfl
theorem r_MRm_isUnder_6 {x y : Int32} : Rr X d MRm_isUnder 6 L (.int y :: .int x :: st) h = if x = y then Rr X d MRm_isUnder 46 L st h else Rr X d MRm_isUnder 9 L st h := R_ic_eq d_MRm_isUnder_6 (by decide)
theorem r_MRm_isUnder_9 {l0 : Value} {x : Int32} : Rr X d MRm_isUnder 9 [l0, .int x] st h = Rr X d MRm_isUnder 10 [l0, .int x] (.int x :: st) h := Rr_nx d_MRm_isUnder_9 rfl
theorem r_MRm_isUnder_10 : Rr X d MRm_isUnder 10 L st h = Rr X d MRm_isUnder 11 L (.int (1) :: st) h := Rr_nx d_MRm_isUnder_10 rfl
theorem r_MRm_isUnder_11 {x y : Int32} : Rr X d MRm_isUnder 11 L (.int y :: .int x :: st) h = if ¬ x = y then Rr X d MRm_isUnder 19 L st h else Rr X d MRm_isUnder 14 L st h := R_ic_ne d_MRm_isUnder_11 (by decide)
theorem r_MRm_isUnder_14 {l1 : Value} {x : Int32} : Rr X d MRm_isUnder 14 [.int x, l1] st h = Rr X d MRm_isUnder 15 [.int x, l1] (.int x :: st) h := Rr_nx d_MRm_isUnder_14 rfl
theorem r_MRm_isUnder_15 : Rr X d MRm_isUnder 15 L st h = Rr X d MRm_isUnder 16 L (.int (5) :: st) h := Rr_nx d_MRm_isUnder_15 rfl
theorem r_MRm_isUnder_16 {x y : Int32} : Rr X d MRm_isUnder 16 L (.int y :: .int x :: st) h = if x = y then Rr X d MRm_isUnder 46 L st h else Rr X d MRm_isUnder 19 L st h := R_ic_eq d_MRm_isUnder_16 (by decide)
theorem r_MRm_isUnder_19 {l0 : Value} {x : Int32} : Rr X d MRm_isUnder 19 [l0, .int x] st h = Rr X d MRm_isUnder 20 [l0, .int x] (.int x :: st) h := Rr_nx d_MRm_isUnder_19 rfl
theorem r_MRm_isUnder_20 : Rr X d MRm_isUnder 20 L st h = Rr X d MRm_isUnder 21 L (.int (2) :: st) h := Rr_nx d_MRm_isUnder_20 rfl
theorem r_MRm_isUnder_21 {x y : Int32} : Rr X d MRm_isUnder 21 L (.int y :: .int x :: st) h = if ¬ x = y then Rr X d MRm_isUnder 34 L st h else Rr X d MRm_isUnder 24 L st h := R_ic_ne d_MRm_isUnder_21 (by decide)
theorem r_MRm_isUnder_24 {l1 : Value} {x : Int32} : Rr X d MRm_isUnder 24 [.int x, l1] st h = Rr X d MRm_isUnder 25 [.int x, l1] (.int x :: st) h := Rr_nx d_MRm_isUnder_24 rfl
theorem r_MRm_isUnder_25 : Rr X d MRm_isUnder 25 L st h = Rr X d MRm_isUnder 26 L (.int (3) :: st) h := Rr_nx d_MRm_isUnder_25 rfl
theorem r_MRm_isUnder_26 {x y : Int32} : Rr X d MRm_isUnder 26 L (.int y :: .int x :: st) h = if x = y then Rr X d MRm_isUnder 46 L st h else Rr X d MRm_isUnder 29 L st h := R_ic_eq d_MRm_isUnder_26 (by decide)
theorem r_MRm_isUnder_29 {l1 : Value} {x : Int32} : Rr X d MRm_isUnder 29 [.int x, l1] st h = Rr X d MRm_isUnder 30 [.int x, l1] (.int x :: st) h := Rr_nx d_MRm_isUnder_29 rfl
theorem r_MRm_isUnder_30 : Rr X d MRm_isUnder 30 L st h = Rr X d MRm_isUnder 31 L (.int (4) :: st) h := Rr_nx d_MRm_isUnder_30 rfl
theorem r_MRm_isUnder_31 {x y : Int32} : Rr X d MRm_isUnder 31 L (.int y :: .int x :: st) h = if x = y then Rr X d MRm_isUnder 46 L st h else Rr X d MRm_isUnder 34 L st h := R_ic_eq d_MRm_isUnder_31 (by decide)
theorem r_MRm_isUnder_34 {l0 : Value} {x : Int32} : Rr X d MRm_isUnder 34 [l0, .int x] st h = Rr X d MRm_isUnder 35 [l0, .int x] (.int x :: st) h := Rr_nx d_MRm_isUnder_34 rfl
theorem r_MRm_isUnder_35 : Rr X d MRm_isUnder 35 L st h = Rr X d MRm_isUnder 37 L (.int (6) :: st) h := Rr_nx d_MRm_isUnder_35 rfl
theorem r_MRm_isUnder_37 {x y : Int32} : Rr X d MRm_isUnder 37 L (.int y :: .int x :: st) h = if ¬ x = y then Rr X d MRm_isUnder 50 L st h else Rr X d MRm_isUnder 40 L st h := R_ic_ne d_MRm_isUnder_37 (by decide)
theorem r_MRm_isUnder_40 {l1 : Value} {x : Int32} : Rr X d MRm_isUnder 40 [.int x, l1] st h = Rr X d MRm_isUnder 41 [.int x, l1] (.int x :: st) h := Rr_nx d_MRm_isUnder_40 rfl
theorem r_MRm_isUnder_41 : Rr X d MRm_isUnder 41 L st h = Rr X d MRm_isUnder 43 L (.int (7) :: st) h := Rr_nx d_MRm_isUnder_41 rfl
theorem r_MRm_isUnder_43 {x y : Int32} : Rr X d MRm_isUnder 43 L (.int y :: .int x :: st) h = if ¬ x = y then Rr X d MRm_isUnder 50 L st h else Rr X d MRm_isUnder 46 L st h := R_ic_ne d_MRm_isUnder_43 (by decide)
theorem r_MRm_isUnder_46 : Rr X d MRm_isUnder 46 L st h = Rr X d MRm_isUnder 47 L (.int (1) :: st) h := Rr_nx d_MRm_isUnder_46 rfl
theorem r_MRm_isUnder_47 : Rr X d MRm_isUnder 47 L st h = Rr X d MRm_isUnder 51 L st h := R_goto d_MRm_isUnder_47 (by decide)
theorem r_MRm_isUnder_50 : Rr X d MRm_isUnder 50 L st h = Rr X d MRm_isUnder 51 L (.int (0) :: st) h := Rr_nx d_MRm_isUnder_50 rfl
theorem r_MRm_isUnder_51 {x : Int32} : Rr X d MRm_isUnder 51 L [.int x] h = if x = 0 ∨ x = 1 then some (some (.int x), h) else none := R_zr d_MRm_isUnder_51 rfl
theorem d_MRm_plainRolls_0 : decode MRm_plainRolls.2.2.1 0 = .ok (.aload_n 0, 1) := lkT_ok tk_MRm_plainRolls rfl
theorem d_MRm_plainRolls_1 : decode MRm_plainRolls.2.2.1 1 = .ok (.iconst 1, 1) := lkT_ok tk_MRm_plainRolls rfl
theorem d_MRm_plainRolls_2 : decode MRm_plainRolls.2.2.1 2 = .ok (.invokevirtual 362, 3) := lkT_ok tk_MRm_plainRolls rfl
theorem d_MRm_plainRolls_5 : decode MRm_plainRolls.2.2.1 5 = .ok (.iload_n 2, 1) := lkT_ok tk_MRm_plainRolls rfl
theorem d_MRm_plainRolls_6 : decode MRm_plainRolls.2.2.1 6 = .ok (.iload_n 1, 1) := lkT_ok tk_MRm_plainRolls rfl
theorem d_MRm_plainRolls_7 : decode MRm_plainRolls.2.2.1 7 = .ok (.iadd, 1) := lkT_ok tk_MRm_plainRolls rfl
theorem d_MRm_plainRolls_8 : decode MRm_plainRolls.2.2.1 8 = .ok (.ireturn, 1) := lkT_ok tk_MRm_plainRolls rfl
theorem r_MRm_plainRolls_0 {l1 l2 : Value} {x : Nat} : Rr X d MRm_plainRolls 0 [.ref x, l1, l2] st h = Rr X d MRm_plainRolls 1 [.ref x, l1, l2] (.ref x :: st) h := Rr_nx d_MRm_plainRolls_0 rfl
theorem r_MRm_plainRolls_1 : Rr X d MRm_plainRolls 1 L st h = Rr X d MRm_plainRolls 2 L (.int (1) :: st) h := Rr_nx d_MRm_plainRolls_1 rfl
theorem fc_10_362 : fC 10 362 = some (0, 10, 1, MRm_ran) := rfl
theorem r_MRm_plainRolls_2 {y0 : Int32} {a : Nat} (hO : qO a 10 = true) (hc : ckS st = true) : Rr X (d + 1) MRm_plainRolls 2 L (.int y0 :: .ref a :: st) (Wd mu la ro et) = (Rr X d MRm_ran 0 [.ref a, .int y0] [] (Wd mu la ro et)).bind fun q => Rr X (d + 1) MRm_plainRolls 5 L (psh q.1 st) q.2 := R_iv (av := [.int y0]) d_MRm_plainRolls_2 fc_10_362 hO (ckS_le hc) rfl (Nat.le_of_ble_eq_true rfl) (Nat.le_of_ble_eq_true rfl)
theorem r_MRm_plainRolls_5 {l0 l1 : Value} {x : Int32} : Rr X d MRm_plainRolls 5 [l0, l1, .int x] st h = Rr X d MRm_plainRolls 6 [l0, l1, .int x] (.int x :: st) h := Rr_nx d_MRm_plainRolls_5 rfl
theorem r_MRm_plainRolls_6 {l0 l2 : Value} {x : Int32} : Rr X d MRm_plainRolls 6 [l0, .int x, l2] st h = Rr X d MRm_plainRolls 7 [l0, .int x, l2] (.int x :: st) h := Rr_nx d_MRm_plainRolls_6 rfl
theorem r_MRm_plainRolls_7 {x y : Int32} : Rr X d MRm_plainRolls 7 L (.int y :: .int x :: st) h = Rr X d MRm_plainRolls 8 L (.int (x + y) :: st) h := Rr_nx d_MRm_plainRolls_7 rfl
theorem r_MRm_plainRolls_8 {x : Int32} : Rr X d MRm_plainRolls 8 L [.int x] h = some (some (.int x), h) := R_ir d_MRm_plainRolls_8 rfl
theorem d_MRm_keptRolls_0 : decode MRm_keptRolls.2.2.1 0 = .ok (.aload_n 0, 1) := lkT_ok tk_MRm_keptRolls rfl
theorem d_MRm_keptRolls_1 : decode MRm_keptRolls.2.2.1 1 = .ok (.bipush 20, 2) := lkT_ok tk_MRm_keptRolls rfl
theorem d_MRm_keptRolls_3 : decode MRm_keptRolls.2.2.1 3 = .ok (.invokevirtual 362, 3) := lkT_ok tk_MRm_keptRolls rfl
theorem d_MRm_keptRolls_6 : decode MRm_keptRolls.2.2.1 6 = .ok (.aload_n 0, 1) := lkT_ok tk_MRm_keptRolls rfl
theorem d_MRm_keptRolls_7 : decode MRm_keptRolls.2.2.1 7 = .ok (.iload_n 1, 1) := lkT_ok tk_MRm_keptRolls rfl
theorem d_MRm_keptRolls_8 : decode MRm_keptRolls.2.2.1 8 = .ok (.iload_n 2, 1) := lkT_ok tk_MRm_keptRolls rfl
theorem d_MRm_keptRolls_9 : decode MRm_keptRolls.2.2.1 9 = .ok (.invokevirtual 365, 3) := lkT_ok tk_MRm_keptRolls rfl
theorem d_MRm_keptRolls_12 : decode MRm_keptRolls.2.2.1 12 = .ok (.iconst 3, 1) := lkT_ok tk_MRm_keptRolls rfl
theorem d_MRm_keptRolls_13 : decode MRm_keptRolls.2.2.1 13 = .ok (.iadd, 1) := lkT_ok tk_MRm_keptRolls rfl
theorem d_MRm_keptRolls_14 : decode MRm_keptRolls.2.2.1 14 = .ok (.ireturn, 1) := lkT_ok tk_MRm_keptRolls rfl
theorem r_MRm_keptRolls_0 {l1 l2 : Value} {x : Nat} : Rr X d MRm_keptRolls 0 [.ref x, l1, l2] st h = Rr X d MRm_keptRolls 1 [.ref x, l1, l2] (.ref x :: st) h := Rr_nx d_MRm_keptRolls_0 rfl
theorem r_MRm_keptRolls_1 : Rr X d MRm_keptRolls 1 L st h = Rr X d MRm_keptRolls 3 L (.int (20) :: st) h := Rr_nx d_MRm_keptRolls_1 rfl
theorem r_MRm_keptRolls_3 {y0 : Int32} {a : Nat} (hO : qO a 10 = true) (hc : ckS st = true) : Rr X (d + 1) MRm_keptRolls 3 L (.int y0 :: .ref a :: st) (Wd mu la ro et) = (Rr X d MRm_ran 0 [.ref a, .int y0] [] (Wd mu la ro et)).bind fun q => Rr X (d + 1) MRm_keptRolls 6 L (psh q.1 st) q.2 := R_iv (av := [.int y0]) d_MRm_keptRolls_3 fc_10_362 hO (ckS_le hc) rfl (Nat.le_of_ble_eq_true rfl) (Nat.le_of_ble_eq_true rfl)
theorem r_MRm_keptRolls_6 {l1 l2 : Value} {x : Nat} : Rr X d MRm_keptRolls 6 [.ref x, l1, l2] st h = Rr X d MRm_keptRolls 7 [.ref x, l1, l2] (.ref x :: st) h := Rr_nx d_MRm_keptRolls_6 rfl
theorem r_MRm_keptRolls_7 {l0 l2 : Value} {x : Int32} : Rr X d MRm_keptRolls 7 [l0, .int x, l2] st h = Rr X d MRm_keptRolls 8 [l0, .int x, l2] (.int x :: st) h := Rr_nx d_MRm_keptRolls_7 rfl
theorem r_MRm_keptRolls_8 {l0 l1 : Value} {x : Int32} : Rr X d MRm_keptRolls 8 [l0, l1, .int x] st h = Rr X d MRm_keptRolls 9 [l0, l1, .int x] (.int x :: st) h := Rr_nx d_MRm_keptRolls_8 rfl
theorem fc_10_365 : fC 10 365 = some (0, 10, 2, MRm_plainRolls) := rfl
theorem r_MRm_keptRolls_9 {y0 : Int32} {y1 : Int32} {a : Nat} (hO : qO a 10 = true) (hc : ckS st = true) : Rr X (d + 1) MRm_keptRolls 9 L (.int y1 :: .int y0 :: .ref a :: st) (Wd mu la ro et) = (Rr X d MRm_plainRolls 0 [.ref a, .int y0, .int y1] [] (Wd mu la ro et)).bind fun q => Rr X (d + 1) MRm_keptRolls 12 L (psh q.1 st) q.2 := R_iv (av := [.int y1, .int y0]) d_MRm_keptRolls_9 fc_10_365 hO (ckS_le hc) rfl (Nat.le_of_ble_eq_true rfl) (Nat.le_of_ble_eq_true rfl)
theorem r_MRm_keptRolls_12 : Rr X d MRm_keptRolls 12 L st h = Rr X d MRm_keptRolls 13 L (.int (3) :: st) h := Rr_nx d_MRm_keptRolls_12 rfl
theorem r_MRm_keptRolls_13 {x y : Int32} : Rr X d MRm_keptRolls 13 L (.int y :: .int x :: st) h = Rr X d MRm_keptRolls 14 L (.int (x + y) :: st) h := Rr_nx d_MRm_keptRolls_13 rfl
theorem r_MRm_keptRolls_14 {x : Int32} : Rr X d MRm_keptRolls 14 L [.int x] h = some (some (.int x), h) := R_ir d_MRm_keptRolls_14 rfl
theorem d_MRm_rolls_0 : decode MRm_rolls.2.2.1 0 = .ok (.aload_n 0, 1) := lkT_ok tk_MRm_rolls rfl
theorem d_MRm_rolls_1 : decode MRm_rolls.2.2.1 1 = .ok (.getfield 86, 3) := lkT_ok tk_MRm_rolls rfl
theorem d_MRm_rolls_4 : decode MRm_rolls.2.2.1 4 = .ok (.iload_n 1, 1) := lkT_ok tk_MRm_rolls rfl
theorem d_MRm_rolls_5 : decode MRm_rolls.2.2.1 5 = .ok (.iaload, 1) := lkT_ok tk_MRm_rolls rfl
theorem d_MRm_rolls_6 : decode MRm_rolls.2.2.1 6 = .ok (.iconst 5, 1) := lkT_ok tk_MRm_rolls rfl
theorem d_MRm_rolls_7 : decode MRm_rolls.2.2.1 7 = .ok (.if_icmp .ne 18, 3) := lkT_ok tk_MRm_rolls rfl
theorem d_MRm_rolls_10 : decode MRm_rolls.2.2.1 10 = .ok (.aload_n 0, 1) := lkT_ok tk_MRm_rolls rfl
theorem d_MRm_rolls_11 : decode MRm_rolls.2.2.1 11 = .ok (.bipush 60, 2) := lkT_ok tk_MRm_rolls rfl
theorem d_MRm_rolls_13 : decode MRm_rolls.2.2.1 13 = .ok (.invokevirtual 362, 3) := lkT_ok tk_MRm_rolls rfl
theorem d_MRm_rolls_16 : decode MRm_rolls.2.2.1 16 = .ok (.aload_n 0, 1) := lkT_ok tk_MRm_rolls rfl
theorem d_MRm_rolls_17 : decode MRm_rolls.2.2.1 17 = .ok (.iload_n 1, 1) := lkT_ok tk_MRm_rolls rfl
theorem d_MRm_rolls_18 : decode MRm_rolls.2.2.1 18 = .ok (.iload_n 2, 1) := lkT_ok tk_MRm_rolls rfl
theorem d_MRm_rolls_19 : decode MRm_rolls.2.2.1 19 = .ok (.invokevirtual 368, 3) := lkT_ok tk_MRm_rolls rfl
theorem d_MRm_rolls_22 : decode MRm_rolls.2.2.1 22 = .ok (.iconst 2, 1) := lkT_ok tk_MRm_rolls rfl
theorem d_MRm_rolls_23 : decode MRm_rolls.2.2.1 23 = .ok (.imul, 1) := lkT_ok tk_MRm_rolls rfl
theorem d_MRm_rolls_24 : decode MRm_rolls.2.2.1 24 = .ok (.ireturn, 1) := lkT_ok tk_MRm_rolls rfl
theorem d_MRm_rolls_25 : decode MRm_rolls.2.2.1 25 = .ok (.aload_n 0, 1) := lkT_ok tk_MRm_rolls rfl
theorem d_MRm_rolls_26 : decode MRm_rolls.2.2.1 26 = .ok (.getfield 86, 3) := lkT_ok tk_MRm_rolls rfl
theorem d_MRm_rolls_29 : decode MRm_rolls.2.2.1 29 = .ok (.iload_n 1, 1) := lkT_ok tk_MRm_rolls rfl
theorem d_MRm_rolls_30 : decode MRm_rolls.2.2.1 30 = .ok (.iaload, 1) := lkT_ok tk_MRm_rolls rfl
theorem d_MRm_rolls_31 : decode MRm_rolls.2.2.1 31 = .ok (.iconst 1, 1) := lkT_ok tk_MRm_rolls rfl
theorem d_MRm_rolls_32 : decode MRm_rolls.2.2.1 32 = .ok (.if_icmp .ne 12, 3) := lkT_ok tk_MRm_rolls rfl
theorem d_MRm_rolls_35 : decode MRm_rolls.2.2.1 35 = .ok (.aload_n 0, 1) := lkT_ok tk_MRm_rolls rfl
theorem d_MRm_rolls_36 : decode MRm_rolls.2.2.1 36 = .ok (.iload_n 1, 1) := lkT_ok tk_MRm_rolls rfl
theorem d_MRm_rolls_37 : decode MRm_rolls.2.2.1 37 = .ok (.iload_n 2, 1) := lkT_ok tk_MRm_rolls rfl
theorem d_MRm_rolls_38 : decode MRm_rolls.2.2.1 38 = .ok (.invokevirtual 368, 3) := lkT_ok tk_MRm_rolls rfl
theorem d_MRm_rolls_41 : decode MRm_rolls.2.2.1 41 = .ok (.goto 9, 3) := lkT_ok tk_MRm_rolls rfl
theorem d_MRm_rolls_44 : decode MRm_rolls.2.2.1 44 = .ok (.aload_n 0, 1) := lkT_ok tk_MRm_rolls rfl
theorem d_MRm_rolls_45 : decode MRm_rolls.2.2.1 45 = .ok (.iload_n 1, 1) := lkT_ok tk_MRm_rolls rfl
theorem d_MRm_rolls_46 : decode MRm_rolls.2.2.1 46 = .ok (.iload_n 2, 1) := lkT_ok tk_MRm_rolls rfl
theorem d_MRm_rolls_47 : decode MRm_rolls.2.2.1 47 = .ok (.invokevirtual 365, 3) := lkT_ok tk_MRm_rolls rfl
theorem d_MRm_rolls_50 : decode MRm_rolls.2.2.1 50 = .ok (.ireturn, 1) := lkT_ok tk_MRm_rolls rfl
theorem r_MRm_rolls_0 {l1 l2 : Value} {x : Nat} : Rr X d MRm_rolls 0 [.ref x, l1, l2] st h = Rr X d MRm_rolls 1 [.ref x, l1, l2] (.ref x :: st) h := Rr_nx d_MRm_rolls_0 rfl
theorem ff_10_86 : fF 10 86 = some (10, 52, 1, 1) := rfl
theorem r_MRm_rolls_1 {a : Nat} (hq : (qR a 10 52).isSome = true) : Rr X d MRm_rolls 1 L (.ref a :: st) (Wd mu la ro et) = Rr X d MRm_rolls 4 L (.ref (qRd a 10 52) :: st) (Wd mu la ro et) := R_gfR d_MRm_rolls_1 ff_10_86 hq
theorem r_MRm_rolls_4 {l0 l2 : Value} {x : Int32} : Rr X d MRm_rolls 4 [l0, .int x, l2] st h = Rr X d MRm_rolls 5 [l0, .int x, l2] (.int x :: st) h := Rr_nx d_MRm_rolls_4 rfl
theorem r_MRm_rolls_5 {a : Nat} {j : Int32} (hq : (qA a 0).isSome = true) : Rr X d MRm_rolls 5 L (.int j :: .ref a :: st) (Wd mu la ro et) = if j < 0 ∨ qAd a 0 ≤ j.toNatClampNeg then none else Rr X d MRm_rolls 6 L (.int (mu a j.toNatClampNeg) :: st) (Wd mu la ro et) := R_ialW d_MRm_rolls_5 hq
theorem r_MRm_rolls_6 : Rr X d MRm_rolls 6 L st h = Rr X d MRm_rolls 7 L (.int (5) :: st) h := Rr_nx d_MRm_rolls_6 rfl
theorem r_MRm_rolls_7 {x y : Int32} : Rr X d MRm_rolls 7 L (.int y :: .int x :: st) h = if ¬ x = y then Rr X d MRm_rolls 25 L st h else Rr X d MRm_rolls 10 L st h := R_ic_ne d_MRm_rolls_7 (by decide)
theorem r_MRm_rolls_10 {l1 l2 : Value} {x : Nat} : Rr X d MRm_rolls 10 [.ref x, l1, l2] st h = Rr X d MRm_rolls 11 [.ref x, l1, l2] (.ref x :: st) h := Rr_nx d_MRm_rolls_10 rfl
theorem r_MRm_rolls_11 : Rr X d MRm_rolls 11 L st h = Rr X d MRm_rolls 13 L (.int (60) :: st) h := Rr_nx d_MRm_rolls_11 rfl
theorem r_MRm_rolls_13 {y0 : Int32} {a : Nat} (hO : qO a 10 = true) (hc : ckS st = true) : Rr X (d + 1) MRm_rolls 13 L (.int y0 :: .ref a :: st) (Wd mu la ro et) = (Rr X d MRm_ran 0 [.ref a, .int y0] [] (Wd mu la ro et)).bind fun q => Rr X (d + 1) MRm_rolls 16 L (psh q.1 st) q.2 := R_iv (av := [.int y0]) d_MRm_rolls_13 fc_10_362 hO (ckS_le hc) rfl (Nat.le_of_ble_eq_true rfl) (Nat.le_of_ble_eq_true rfl)
theorem r_MRm_rolls_16 {l1 l2 : Value} {x : Nat} : Rr X d MRm_rolls 16 [.ref x, l1, l2] st h = Rr X d MRm_rolls 17 [.ref x, l1, l2] (.ref x :: st) h := Rr_nx d_MRm_rolls_16 rfl
theorem r_MRm_rolls_17 {l0 l2 : Value} {x : Int32} : Rr X d MRm_rolls 17 [l0, .int x, l2] st h = Rr X d MRm_rolls 18 [l0, .int x, l2] (.int x :: st) h := Rr_nx d_MRm_rolls_17 rfl
theorem r_MRm_rolls_18 {l0 l1 : Value} {x : Int32} : Rr X d MRm_rolls 18 [l0, l1, .int x] st h = Rr X d MRm_rolls 19 [l0, l1, .int x] (.int x :: st) h := Rr_nx d_MRm_rolls_18 rfl
theorem fc_10_368 : fC 10 368 = some (0, 10, 2, MRm_keptRolls) := rfl
theorem r_MRm_rolls_19 {y0 : Int32} {y1 : Int32} {a : Nat} (hO : qO a 10 = true) (hc : ckS st = true) : Rr X (d + 1) MRm_rolls 19 L (.int y1 :: .int y0 :: .ref a :: st) (Wd mu la ro et) = (Rr X d MRm_keptRolls 0 [.ref a, .int y0, .int y1] [] (Wd mu la ro et)).bind fun q => Rr X (d + 1) MRm_rolls 22 L (psh q.1 st) q.2 := R_iv (av := [.int y1, .int y0]) d_MRm_rolls_19 fc_10_368 hO (ckS_le hc) rfl (Nat.le_of_ble_eq_true rfl) (Nat.le_of_ble_eq_true rfl)
theorem r_MRm_rolls_22 : Rr X d MRm_rolls 22 L st h = Rr X d MRm_rolls 23 L (.int (2) :: st) h := Rr_nx d_MRm_rolls_22 rfl
theorem r_MRm_rolls_23 {x y : Int32} : Rr X d MRm_rolls 23 L (.int y :: .int x :: st) h = Rr X d MRm_rolls 24 L (.int (x * y) :: st) h := Rr_nx d_MRm_rolls_23 rfl
theorem r_MRm_rolls_24 {x : Int32} : Rr X d MRm_rolls 24 L [.int x] h = some (some (.int x), h) := R_ir d_MRm_rolls_24 rfl
theorem r_MRm_rolls_25 {l1 l2 : Value} {x : Nat} : Rr X d MRm_rolls 25 [.ref x, l1, l2] st h = Rr X d MRm_rolls 26 [.ref x, l1, l2] (.ref x :: st) h := Rr_nx d_MRm_rolls_25 rfl
theorem r_MRm_rolls_26 {a : Nat} (hq : (qR a 10 52).isSome = true) : Rr X d MRm_rolls 26 L (.ref a :: st) (Wd mu la ro et) = Rr X d MRm_rolls 29 L (.ref (qRd a 10 52) :: st) (Wd mu la ro et) := R_gfR d_MRm_rolls_26 ff_10_86 hq
theorem r_MRm_rolls_29 {l0 l2 : Value} {x : Int32} : Rr X d MRm_rolls 29 [l0, .int x, l2] st h = Rr X d MRm_rolls 30 [l0, .int x, l2] (.int x :: st) h := Rr_nx d_MRm_rolls_29 rfl
theorem r_MRm_rolls_30 {a : Nat} {j : Int32} (hq : (qA a 0).isSome = true) : Rr X d MRm_rolls 30 L (.int j :: .ref a :: st) (Wd mu la ro et) = if j < 0 ∨ qAd a 0 ≤ j.toNatClampNeg then none else Rr X d MRm_rolls 31 L (.int (mu a j.toNatClampNeg) :: st) (Wd mu la ro et) := R_ialW d_MRm_rolls_30 hq
theorem r_MRm_rolls_31 : Rr X d MRm_rolls 31 L st h = Rr X d MRm_rolls 32 L (.int (1) :: st) h := Rr_nx d_MRm_rolls_31 rfl
theorem r_MRm_rolls_32 {x y : Int32} : Rr X d MRm_rolls 32 L (.int y :: .int x :: st) h = if ¬ x = y then Rr X d MRm_rolls 44 L st h else Rr X d MRm_rolls 35 L st h := R_ic_ne d_MRm_rolls_32 (by decide)
theorem r_MRm_rolls_35 {l1 l2 : Value} {x : Nat} : Rr X d MRm_rolls 35 [.ref x, l1, l2] st h = Rr X d MRm_rolls 36 [.ref x, l1, l2] (.ref x :: st) h := Rr_nx d_MRm_rolls_35 rfl
theorem r_MRm_rolls_36 {l0 l2 : Value} {x : Int32} : Rr X d MRm_rolls 36 [l0, .int x, l2] st h = Rr X d MRm_rolls 37 [l0, .int x, l2] (.int x :: st) h := Rr_nx d_MRm_rolls_36 rfl
theorem r_MRm_rolls_37 {l0 l1 : Value} {x : Int32} : Rr X d MRm_rolls 37 [l0, l1, .int x] st h = Rr X d MRm_rolls 38 [l0, l1, .int x] (.int x :: st) h := Rr_nx d_MRm_rolls_37 rfl
theorem r_MRm_rolls_38 {y0 : Int32} {y1 : Int32} {a : Nat} (hO : qO a 10 = true) (hc : ckS st = true) : Rr X (d + 1) MRm_rolls 38 L (.int y1 :: .int y0 :: .ref a :: st) (Wd mu la ro et) = (Rr X d MRm_keptRolls 0 [.ref a, .int y0, .int y1] [] (Wd mu la ro et)).bind fun q => Rr X (d + 1) MRm_rolls 41 L (psh q.1 st) q.2 := R_iv (av := [.int y1, .int y0]) d_MRm_rolls_38 fc_10_368 hO (ckS_le hc) rfl (Nat.le_of_ble_eq_true rfl) (Nat.le_of_ble_eq_true rfl)
theorem r_MRm_rolls_41 : Rr X d MRm_rolls 41 L st h = Rr X d MRm_rolls 50 L st h := R_goto d_MRm_rolls_41 (by decide)
theorem r_MRm_rolls_44 {l1 l2 : Value} {x : Nat} : Rr X d MRm_rolls 44 [.ref x, l1, l2] st h = Rr X d MRm_rolls 45 [.ref x, l1, l2] (.ref x :: st) h := Rr_nx d_MRm_rolls_44 rfl
theorem r_MRm_rolls_45 {l0 l2 : Value} {x : Int32} : Rr X d MRm_rolls 45 [l0, .int x, l2] st h = Rr X d MRm_rolls 46 [l0, .int x, l2] (.int x :: st) h := Rr_nx d_MRm_rolls_45 rfl
theorem r_MRm_rolls_46 {l0 l1 : Value} {x : Int32} : Rr X d MRm_rolls 46 [l0, l1, .int x] st h = Rr X d MRm_rolls 47 [l0, l1, .int x] (.int x :: st) h := Rr_nx d_MRm_rolls_46 rfl
theorem r_MRm_rolls_47 {y0 : Int32} {y1 : Int32} {a : Nat} (hO : qO a 10 = true) (hc : ckS st = true) : Rr X (d + 1) MRm_rolls 47 L (.int y1 :: .int y0 :: .ref a :: st) (Wd mu la ro et) = (Rr X d MRm_plainRolls 0 [.ref a, .int y0, .int y1] [] (Wd mu la ro et)).bind fun q => Rr X (d + 1) MRm_rolls 50 L (psh q.1 st) q.2 := R_iv (av := [.int y1, .int y0]) d_MRm_rolls_47 fc_10_365 hO (ckS_le hc) rfl (Nat.le_of_ble_eq_true rfl) (Nat.le_of_ble_eq_true rfl)
theorem r_MRm_rolls_50 {x : Int32} : Rr X d MRm_rolls 50 L [.int x] h = some (some (.int x), h) := R_ir d_MRm_rolls_50 rfl
theorem d_MRm_plainTrades_0 : decode MRm_plainTrades.2.2.1 0 = .ok (.aload_n 0, 1) := lkT_ok tk_MRm_plainTrades rfl
theorem d_MRm_plainTrades_1 : decode MRm_plainTrades.2.2.1 1 = .ok (.bipush 10, 2) := lkT_ok tk_MRm_plainTrades rfl
theorem d_MRm_plainTrades_3 : decode MRm_plainTrades.2.2.1 3 = .ok (.invokevirtual 362, 3) := lkT_ok tk_MRm_plainTrades rfl
theorem d_MRm_plainTrades_6 : decode MRm_plainTrades.2.2.1 6 = .ok (.aload_n 0, 1) := lkT_ok tk_MRm_plainTrades rfl
theorem d_MRm_plainTrades_7 : decode MRm_plainTrades.2.2.1 7 = .ok (.iload_n 1, 1) := lkT_ok tk_MRm_plainTrades rfl
theorem d_MRm_plainTrades_8 : decode MRm_plainTrades.2.2.1 8 = .ok (.iload_n 2, 1) := lkT_ok tk_MRm_plainTrades rfl
theorem d_MRm_plainTrades_9 : decode MRm_plainTrades.2.2.1 9 = .ok (.invokevirtual 371, 3) := lkT_ok tk_MRm_plainTrades rfl
theorem d_MRm_plainTrades_12 : decode MRm_plainTrades.2.2.1 12 = .ok (.iconst 2, 1) := lkT_ok tk_MRm_plainTrades rfl
theorem d_MRm_plainTrades_13 : decode MRm_plainTrades.2.2.1 13 = .ok (.imul, 1) := lkT_ok tk_MRm_plainTrades rfl
theorem d_MRm_plainTrades_14 : decode MRm_plainTrades.2.2.1 14 = .ok (.ireturn, 1) := lkT_ok tk_MRm_plainTrades rfl
theorem r_MRm_plainTrades_0 {l1 l2 : Value} {x : Nat} : Rr X d MRm_plainTrades 0 [.ref x, l1, l2] st h = Rr X d MRm_plainTrades 1 [.ref x, l1, l2] (.ref x :: st) h := Rr_nx d_MRm_plainTrades_0 rfl
theorem r_MRm_plainTrades_1 : Rr X d MRm_plainTrades 1 L st h = Rr X d MRm_plainTrades 3 L (.int (10) :: st) h := Rr_nx d_MRm_plainTrades_1 rfl
theorem r_MRm_plainTrades_3 {y0 : Int32} {a : Nat} (hO : qO a 10 = true) (hc : ckS st = true) : Rr X (d + 1) MRm_plainTrades 3 L (.int y0 :: .ref a :: st) (Wd mu la ro et) = (Rr X d MRm_ran 0 [.ref a, .int y0] [] (Wd mu la ro et)).bind fun q => Rr X (d + 1) MRm_plainTrades 6 L (psh q.1 st) q.2 := R_iv (av := [.int y0]) d_MRm_plainTrades_3 fc_10_362 hO (ckS_le hc) rfl (Nat.le_of_ble_eq_true rfl) (Nat.le_of_ble_eq_true rfl)
theorem r_MRm_plainTrades_6 {l1 l2 : Value} {x : Nat} : Rr X d MRm_plainTrades 6 [.ref x, l1, l2] st h = Rr X d MRm_plainTrades 7 [.ref x, l1, l2] (.ref x :: st) h := Rr_nx d_MRm_plainTrades_6 rfl
theorem r_MRm_plainTrades_7 {l0 l2 : Value} {x : Int32} : Rr X d MRm_plainTrades 7 [l0, .int x, l2] st h = Rr X d MRm_plainTrades 8 [l0, .int x, l2] (.int x :: st) h := Rr_nx d_MRm_plainTrades_7 rfl
theorem r_MRm_plainTrades_8 {l0 l1 : Value} {x : Int32} : Rr X d MRm_plainTrades 8 [l0, l1, .int x] st h = Rr X d MRm_plainTrades 9 [l0, l1, .int x] (.int x :: st) h := Rr_nx d_MRm_plainTrades_8 rfl
theorem r_MRm_plainTrades_9 {y0 : Int32} {y1 : Int32} {a : Nat} (hO : qO a 10 = true) (hc : ckS st = true) : Rr X (d + 1) MRm_plainTrades 9 L (.int y1 :: .int y0 :: .ref a :: st) (Wd mu la ro et) = (Rr X d MRm_rolls 0 [.ref a, .int y0, .int y1] [] (Wd mu la ro et)).bind fun q => Rr X (d + 1) MRm_plainTrades 12 L (psh q.1 st) q.2 := R_iv (av := [.int y1, .int y0]) d_MRm_plainTrades_9 fc_10_371 hO (ckS_le hc) rfl (Nat.le_of_ble_eq_true rfl) (Nat.le_of_ble_eq_true rfl)
theorem r_MRm_plainTrades_12 : Rr X d MRm_plainTrades 12 L st h = Rr X d MRm_plainTrades 13 L (.int (2) :: st) h := Rr_nx d_MRm_plainTrades_12 rfl
theorem r_MRm_plainTrades_13 {x y : Int32} : Rr X d MRm_plainTrades 13 L (.int y :: .int x :: st) h = Rr X d MRm_plainTrades 14 L (.int (x * y) :: st) h := Rr_nx d_MRm_plainTrades_13 rfl
theorem r_MRm_plainTrades_14 {x : Int32} : Rr X d MRm_plainTrades 14 L [.int x] h = some (some (.int x), h) := R_ir d_MRm_plainTrades_14 rfl
theorem d_MRm_turnedTrades_0 : decode MRm_turnedTrades.2.2.1 0 = .ok (.aload_n 0, 1) := lkT_ok tk_MRm_turnedTrades rfl
theorem d_MRm_turnedTrades_1 : decode MRm_turnedTrades.2.2.1 1 = .ok (.bipush 30, 2) := lkT_ok tk_MRm_turnedTrades rfl
theorem d_MRm_turnedTrades_3 : decode MRm_turnedTrades.2.2.1 3 = .ok (.invokevirtual 362, 3) := lkT_ok tk_MRm_turnedTrades rfl
theorem d_MRm_turnedTrades_6 : decode MRm_turnedTrades.2.2.1 6 = .ok (.aload_n 0, 1) := lkT_ok tk_MRm_turnedTrades rfl
theorem d_MRm_turnedTrades_7 : decode MRm_turnedTrades.2.2.1 7 = .ok (.iload_n 1, 1) := lkT_ok tk_MRm_turnedTrades rfl
theorem d_MRm_turnedTrades_8 : decode MRm_turnedTrades.2.2.1 8 = .ok (.iload_n 2, 1) := lkT_ok tk_MRm_turnedTrades rfl
theorem d_MRm_turnedTrades_9 : decode MRm_turnedTrades.2.2.1 9 = .ok (.invokevirtual 374, 3) := lkT_ok tk_MRm_turnedTrades rfl
theorem d_MRm_turnedTrades_12 : decode MRm_turnedTrades.2.2.1 12 = .ok (.ineg, 1) := lkT_ok tk_MRm_turnedTrades rfl
theorem d_MRm_turnedTrades_13 : decode MRm_turnedTrades.2.2.1 13 = .ok (.ireturn, 1) := lkT_ok tk_MRm_turnedTrades rfl
theorem r_MRm_turnedTrades_0 {l1 l2 : Value} {x : Nat} : Rr X d MRm_turnedTrades 0 [.ref x, l1, l2] st h = Rr X d MRm_turnedTrades 1 [.ref x, l1, l2] (.ref x :: st) h := Rr_nx d_MRm_turnedTrades_0 rfl
theorem r_MRm_turnedTrades_1 : Rr X d MRm_turnedTrades 1 L st h = Rr X d MRm_turnedTrades 3 L (.int (30) :: st) h := Rr_nx d_MRm_turnedTrades_1 rfl
theorem r_MRm_turnedTrades_3 {y0 : Int32} {a : Nat} (hO : qO a 10 = true) (hc : ckS st = true) : Rr X (d + 1) MRm_turnedTrades 3 L (.int y0 :: .ref a :: st) (Wd mu la ro et) = (Rr X d MRm_ran 0 [.ref a, .int y0] [] (Wd mu la ro et)).bind fun q => Rr X (d + 1) MRm_turnedTrades 6 L (psh q.1 st) q.2 := R_iv (av := [.int y0]) d_MRm_turnedTrades_3 fc_10_362 hO (ckS_le hc) rfl (Nat.le_of_ble_eq_true rfl) (Nat.le_of_ble_eq_true rfl)
theorem r_MRm_turnedTrades_6 {l1 l2 : Value} {x : Nat} : Rr X d MRm_turnedTrades 6 [.ref x, l1, l2] st h = Rr X d MRm_turnedTrades 7 [.ref x, l1, l2] (.ref x :: st) h := Rr_nx d_MRm_turnedTrades_6 rfl
theorem r_MRm_turnedTrades_7 {l0 l2 : Value} {x : Int32} : Rr X d MRm_turnedTrades 7 [l0, .int x, l2] st h = Rr X d MRm_turnedTrades 8 [l0, .int x, l2] (.int x :: st) h := Rr_nx d_MRm_turnedTrades_7 rfl
theorem r_MRm_turnedTrades_8 {l0 l1 : Value} {x : Int32} : Rr X d MRm_turnedTrades 8 [l0, l1, .int x] st h = Rr X d MRm_turnedTrades 9 [l0, l1, .int x] (.int x :: st) h := Rr_nx d_MRm_turnedTrades_8 rfl
theorem fc_10_374 : fC 10 374 = some (0, 10, 2, MRm_plainTrades) := rfl
theorem r_MRm_turnedTrades_9 {y0 : Int32} {y1 : Int32} {a : Nat} (hO : qO a 10 = true) (hc : ckS st = true) : Rr X (d + 1) MRm_turnedTrades 9 L (.int y1 :: .int y0 :: .ref a :: st) (Wd mu la ro et) = (Rr X d MRm_plainTrades 0 [.ref a, .int y0, .int y1] [] (Wd mu la ro et)).bind fun q => Rr X (d + 1) MRm_turnedTrades 12 L (psh q.1 st) q.2 := R_iv (av := [.int y1, .int y0]) d_MRm_turnedTrades_9 fc_10_374 hO (ckS_le hc) rfl (Nat.le_of_ble_eq_true rfl) (Nat.le_of_ble_eq_true rfl)
theorem r_MRm_turnedTrades_12 {x : Int32} : Rr X d MRm_turnedTrades 12 L (.int x :: st) h = Rr X d MRm_turnedTrades 13 L (.int (-x) :: st) h := Rr_nx d_MRm_turnedTrades_12 rfl
theorem r_MRm_turnedTrades_13 {x : Int32} : Rr X d MRm_turnedTrades 13 L [.int x] h = some (some (.int x), h) := R_ir d_MRm_turnedTrades_13 rfl
theorem d_MRm_trades_0 : decode MRm_trades.2.2.1 0 = .ok (.aload_n 0, 1) := lkT_ok tk_MRm_trades rfl
theorem d_MRm_trades_1 : decode MRm_trades.2.2.1 1 = .ok (.getfield 86, 3) := lkT_ok tk_MRm_trades rfl
theorem d_MRm_trades_4 : decode MRm_trades.2.2.1 4 = .ok (.iload_n 1, 1) := lkT_ok tk_MRm_trades rfl
theorem d_MRm_trades_5 : decode MRm_trades.2.2.1 5 = .ok (.iaload, 1) := lkT_ok tk_MRm_trades rfl
theorem d_MRm_trades_6 : decode MRm_trades.2.2.1 6 = .ok (.iconst 3, 1) := lkT_ok tk_MRm_trades rfl
theorem d_MRm_trades_7 : decode MRm_trades.2.2.1 7 = .ok (.if_icmp .ne 18, 3) := lkT_ok tk_MRm_trades rfl
theorem d_MRm_trades_10 : decode MRm_trades.2.2.1 10 = .ok (.aload_n 0, 1) := lkT_ok tk_MRm_trades rfl
theorem d_MRm_trades_11 : decode MRm_trades.2.2.1 11 = .ok (.bipush 41, 2) := lkT_ok tk_MRm_trades rfl
theorem d_MRm_trades_13 : decode MRm_trades.2.2.1 13 = .ok (.invokevirtual 362, 3) := lkT_ok tk_MRm_trades rfl
theorem d_MRm_trades_16 : decode MRm_trades.2.2.1 16 = .ok (.aload_n 0, 1) := lkT_ok tk_MRm_trades rfl
theorem d_MRm_trades_17 : decode MRm_trades.2.2.1 17 = .ok (.iload_n 1, 1) := lkT_ok tk_MRm_trades rfl
theorem d_MRm_trades_18 : decode MRm_trades.2.2.1 18 = .ok (.iload_n 2, 1) := lkT_ok tk_MRm_trades rfl
theorem d_MRm_trades_19 : decode MRm_trades.2.2.1 19 = .ok (.iconst 1, 1) := lkT_ok tk_MRm_trades rfl
theorem d_MRm_trades_20 : decode MRm_trades.2.2.1 20 = .ok (.iadd, 1) := lkT_ok tk_MRm_trades rfl
theorem d_MRm_trades_21 : decode MRm_trades.2.2.1 21 = .ok (.invokevirtual 377, 3) := lkT_ok tk_MRm_trades rfl
theorem d_MRm_trades_24 : decode MRm_trades.2.2.1 24 = .ok (.ireturn, 1) := lkT_ok tk_MRm_trades rfl
theorem d_MRm_trades_25 : decode MRm_trades.2.2.1 25 = .ok (.aload_n 0, 1) := lkT_ok tk_MRm_trades rfl
theorem d_MRm_trades_26 : decode MRm_trades.2.2.1 26 = .ok (.getfield 86, 3) := lkT_ok tk_MRm_trades rfl
theorem d_MRm_trades_29 : decode MRm_trades.2.2.1 29 = .ok (.iload_n 1, 1) := lkT_ok tk_MRm_trades rfl
theorem d_MRm_trades_30 : decode MRm_trades.2.2.1 30 = .ok (.iaload, 1) := lkT_ok tk_MRm_trades rfl
theorem d_MRm_trades_31 : decode MRm_trades.2.2.1 31 = .ok (.bipush 7, 2) := lkT_ok tk_MRm_trades rfl
theorem d_MRm_trades_33 : decode MRm_trades.2.2.1 33 = .ok (.if_icmp .ne 25, 3) := lkT_ok tk_MRm_trades rfl
theorem d_MRm_trades_36 : decode MRm_trades.2.2.1 36 = .ok (.aload_n 0, 1) := lkT_ok tk_MRm_trades rfl
theorem d_MRm_trades_37 : decode MRm_trades.2.2.1 37 = .ok (.bipush 80, 2) := lkT_ok tk_MRm_trades rfl
theorem d_MRm_trades_39 : decode MRm_trades.2.2.1 39 = .ok (.invokevirtual 362, 3) := lkT_ok tk_MRm_trades rfl
theorem d_MRm_trades_42 : decode MRm_trades.2.2.1 42 = .ok (.aload_n 0, 1) := lkT_ok tk_MRm_trades rfl
theorem d_MRm_trades_43 : decode MRm_trades.2.2.1 43 = .ok (.iload_n 1, 1) := lkT_ok tk_MRm_trades rfl
theorem d_MRm_trades_44 : decode MRm_trades.2.2.1 44 = .ok (.iload_n 2, 1) := lkT_ok tk_MRm_trades rfl
theorem d_MRm_trades_45 : decode MRm_trades.2.2.1 45 = .ok (.invokevirtual 374, 3) := lkT_ok tk_MRm_trades rfl
theorem d_MRm_trades_48 : decode MRm_trades.2.2.1 48 = .ok (.istore_n 3, 1) := lkT_ok tk_MRm_trades rfl
theorem d_MRm_trades_49 : decode MRm_trades.2.2.1 49 = .ok (.iload_n 3, 1) := lkT_ok tk_MRm_trades rfl
theorem d_MRm_trades_50 : decode MRm_trades.2.2.1 50 = .ok (.aload_n 0, 1) := lkT_ok tk_MRm_trades rfl
theorem d_MRm_trades_51 : decode MRm_trades.2.2.1 51 = .ok (.iload_n 1, 1) := lkT_ok tk_MRm_trades rfl
theorem d_MRm_trades_52 : decode MRm_trades.2.2.1 52 = .ok (.iconst 2, 1) := lkT_ok tk_MRm_trades rfl
theorem d_MRm_trades_53 : decode MRm_trades.2.2.1 53 = .ok (.invokevirtual 380, 3) := lkT_ok tk_MRm_trades rfl
theorem d_MRm_trades_56 : decode MRm_trades.2.2.1 56 = .ok (.iadd, 1) := lkT_ok tk_MRm_trades rfl
theorem d_MRm_trades_57 : decode MRm_trades.2.2.1 57 = .ok (.ireturn, 1) := lkT_ok tk_MRm_trades rfl
theorem d_MRm_trades_58 : decode MRm_trades.2.2.1 58 = .ok (.aload_n 0, 1) := lkT_ok tk_MRm_trades rfl
theorem d_MRm_trades_59 : decode MRm_trades.2.2.1 59 = .ok (.getfield 86, 3) := lkT_ok tk_MRm_trades rfl
theorem d_MRm_trades_62 : decode MRm_trades.2.2.1 62 = .ok (.iload_n 1, 1) := lkT_ok tk_MRm_trades rfl
theorem d_MRm_trades_63 : decode MRm_trades.2.2.1 63 = .ok (.iaload, 1) := lkT_ok tk_MRm_trades rfl
theorem d_MRm_trades_64 : decode MRm_trades.2.2.1 64 = .ok (.iconst 2, 1) := lkT_ok tk_MRm_trades rfl
theorem d_MRm_trades_65 : decode MRm_trades.2.2.1 65 = .ok (.if_icmp .eq 13, 3) := lkT_ok tk_MRm_trades rfl
theorem d_MRm_trades_68 : decode MRm_trades.2.2.1 68 = .ok (.aload_n 0, 1) := lkT_ok tk_MRm_trades rfl
theorem d_MRm_trades_69 : decode MRm_trades.2.2.1 69 = .ok (.getfield 86, 3) := lkT_ok tk_MRm_trades rfl
theorem d_MRm_trades_72 : decode MRm_trades.2.2.1 72 = .ok (.iload_n 1, 1) := lkT_ok tk_MRm_trades rfl
theorem d_MRm_trades_73 : decode MRm_trades.2.2.1 73 = .ok (.iaload, 1) := lkT_ok tk_MRm_trades rfl
theorem d_MRm_trades_74 : decode MRm_trades.2.2.1 74 = .ok (.iconst 4, 1) := lkT_ok tk_MRm_trades rfl
theorem d_MRm_trades_75 : decode MRm_trades.2.2.1 75 = .ok (.if_icmp .ne 12, 3) := lkT_ok tk_MRm_trades rfl
theorem d_MRm_trades_78 : decode MRm_trades.2.2.1 78 = .ok (.aload_n 0, 1) := lkT_ok tk_MRm_trades rfl
theorem d_MRm_trades_79 : decode MRm_trades.2.2.1 79 = .ok (.iload_n 1, 1) := lkT_ok tk_MRm_trades rfl
theorem d_MRm_trades_80 : decode MRm_trades.2.2.1 80 = .ok (.iload_n 2, 1) := lkT_ok tk_MRm_trades rfl
theorem d_MRm_trades_81 : decode MRm_trades.2.2.1 81 = .ok (.invokevirtual 377, 3) := lkT_ok tk_MRm_trades rfl
theorem d_MRm_trades_84 : decode MRm_trades.2.2.1 84 = .ok (.goto 9, 3) := lkT_ok tk_MRm_trades rfl
theorem d_MRm_trades_87 : decode MRm_trades.2.2.1 87 = .ok (.aload_n 0, 1) := lkT_ok tk_MRm_trades rfl
theorem d_MRm_trades_88 : decode MRm_trades.2.2.1 88 = .ok (.iload_n 1, 1) := lkT_ok tk_MRm_trades rfl
theorem d_MRm_trades_89 : decode MRm_trades.2.2.1 89 = .ok (.iload_n 2, 1) := lkT_ok tk_MRm_trades rfl
theorem d_MRm_trades_90 : decode MRm_trades.2.2.1 90 = .ok (.invokevirtual 374, 3) := lkT_ok tk_MRm_trades rfl
theorem d_MRm_trades_93 : decode MRm_trades.2.2.1 93 = .ok (.ireturn, 1) := lkT_ok tk_MRm_trades rfl
theorem r_MRm_trades_0 {l1 l2 l3 : Value} {x : Nat} : Rr X d MRm_trades 0 [.ref x, l1, l2, l3] st h = Rr X d MRm_trades 1 [.ref x, l1, l2, l3] (.ref x :: st) h := Rr_nx d_MRm_trades_0 rfl
theorem r_MRm_trades_1 {a : Nat} (hq : (qR a 10 52).isSome = true) : Rr X d MRm_trades 1 L (.ref a :: st) (Wd mu la ro et) = Rr X d MRm_trades 4 L (.ref (qRd a 10 52) :: st) (Wd mu la ro et) := R_gfR d_MRm_trades_1 ff_10_86 hq
theorem r_MRm_trades_4 {l0 l2 l3 : Value} {x : Int32} : Rr X d MRm_trades 4 [l0, .int x, l2, l3] st h = Rr X d MRm_trades 5 [l0, .int x, l2, l3] (.int x :: st) h := Rr_nx d_MRm_trades_4 rfl
theorem r_MRm_trades_5 {a : Nat} {j : Int32} (hq : (qA a 0).isSome = true) : Rr X d MRm_trades 5 L (.int j :: .ref a :: st) (Wd mu la ro et) = if j < 0 ∨ qAd a 0 ≤ j.toNatClampNeg then none else Rr X d MRm_trades 6 L (.int (mu a j.toNatClampNeg) :: st) (Wd mu la ro et) := R_ialW d_MRm_trades_5 hq
theorem r_MRm_trades_6 : Rr X d MRm_trades 6 L st h = Rr X d MRm_trades 7 L (.int (3) :: st) h := Rr_nx d_MRm_trades_6 rfl
theorem r_MRm_trades_7 {x y : Int32} : Rr X d MRm_trades 7 L (.int y :: .int x :: st) h = if ¬ x = y then Rr X d MRm_trades 25 L st h else Rr X d MRm_trades 10 L st h := R_ic_ne d_MRm_trades_7 (by decide)
theorem r_MRm_trades_10 {l1 l2 l3 : Value} {x : Nat} : Rr X d MRm_trades 10 [.ref x, l1, l2, l3] st h = Rr X d MRm_trades 11 [.ref x, l1, l2, l3] (.ref x :: st) h := Rr_nx d_MRm_trades_10 rfl
theorem r_MRm_trades_11 : Rr X d MRm_trades 11 L st h = Rr X d MRm_trades 13 L (.int (41) :: st) h := Rr_nx d_MRm_trades_11 rfl
theorem r_MRm_trades_13 {y0 : Int32} {a : Nat} (hO : qO a 10 = true) (hc : ckS st = true) : Rr X (d + 1) MRm_trades 13 L (.int y0 :: .ref a :: st) (Wd mu la ro et) = (Rr X d MRm_ran 0 [.ref a, .int y0] [] (Wd mu la ro et)).bind fun q => Rr X (d + 1) MRm_trades 16 L (psh q.1 st) q.2 := R_iv (av := [.int y0]) d_MRm_trades_13 fc_10_362 hO (ckS_le hc) rfl (Nat.le_of_ble_eq_true rfl) (Nat.le_of_ble_eq_true rfl)
theorem r_MRm_trades_16 {l1 l2 l3 : Value} {x : Nat} : Rr X d MRm_trades 16 [.ref x, l1, l2, l3] st h = Rr X d MRm_trades 17 [.ref x, l1, l2, l3] (.ref x :: st) h := Rr_nx d_MRm_trades_16 rfl
theorem r_MRm_trades_17 {l0 l2 l3 : Value} {x : Int32} : Rr X d MRm_trades 17 [l0, .int x, l2, l3] st h = Rr X d MRm_trades 18 [l0, .int x, l2, l3] (.int x :: st) h := Rr_nx d_MRm_trades_17 rfl
theorem r_MRm_trades_18 {l0 l1 l3 : Value} {x : Int32} : Rr X d MRm_trades 18 [l0, l1, .int x, l3] st h = Rr X d MRm_trades 19 [l0, l1, .int x, l3] (.int x :: st) h := Rr_nx d_MRm_trades_18 rfl
theorem r_MRm_trades_19 : Rr X d MRm_trades 19 L st h = Rr X d MRm_trades 20 L (.int (1) :: st) h := Rr_nx d_MRm_trades_19 rfl
theorem r_MRm_trades_20 {x y : Int32} : Rr X d MRm_trades 20 L (.int y :: .int x :: st) h = Rr X d MRm_trades 21 L (.int (x + y) :: st) h := Rr_nx d_MRm_trades_20 rfl
theorem fc_10_377 : fC 10 377 = some (0, 10, 2, MRm_turnedTrades) := rfl
theorem r_MRm_trades_21 {y0 : Int32} {y1 : Int32} {a : Nat} (hO : qO a 10 = true) (hc : ckS st = true) : Rr X (d + 1) MRm_trades 21 L (.int y1 :: .int y0 :: .ref a :: st) (Wd mu la ro et) = (Rr X d MRm_turnedTrades 0 [.ref a, .int y0, .int y1] [] (Wd mu la ro et)).bind fun q => Rr X (d + 1) MRm_trades 24 L (psh q.1 st) q.2 := R_iv (av := [.int y1, .int y0]) d_MRm_trades_21 fc_10_377 hO (ckS_le hc) rfl (Nat.le_of_ble_eq_true rfl) (Nat.le_of_ble_eq_true rfl)
theorem r_MRm_trades_24 {x : Int32} : Rr X d MRm_trades 24 L [.int x] h = some (some (.int x), h) := R_ir d_MRm_trades_24 rfl
theorem r_MRm_trades_25 {l1 l2 l3 : Value} {x : Nat} : Rr X d MRm_trades 25 [.ref x, l1, l2, l3] st h = Rr X d MRm_trades 26 [.ref x, l1, l2, l3] (.ref x :: st) h := Rr_nx d_MRm_trades_25 rfl
theorem r_MRm_trades_26 {a : Nat} (hq : (qR a 10 52).isSome = true) : Rr X d MRm_trades 26 L (.ref a :: st) (Wd mu la ro et) = Rr X d MRm_trades 29 L (.ref (qRd a 10 52) :: st) (Wd mu la ro et) := R_gfR d_MRm_trades_26 ff_10_86 hq
theorem r_MRm_trades_29 {l0 l2 l3 : Value} {x : Int32} : Rr X d MRm_trades 29 [l0, .int x, l2, l3] st h = Rr X d MRm_trades 30 [l0, .int x, l2, l3] (.int x :: st) h := Rr_nx d_MRm_trades_29 rfl
theorem r_MRm_trades_30 {a : Nat} {j : Int32} (hq : (qA a 0).isSome = true) : Rr X d MRm_trades 30 L (.int j :: .ref a :: st) (Wd mu la ro et) = if j < 0 ∨ qAd a 0 ≤ j.toNatClampNeg then none else Rr X d MRm_trades 31 L (.int (mu a j.toNatClampNeg) :: st) (Wd mu la ro et) := R_ialW d_MRm_trades_30 hq
theorem r_MRm_trades_31 : Rr X d MRm_trades 31 L st h = Rr X d MRm_trades 33 L (.int (7) :: st) h := Rr_nx d_MRm_trades_31 rfl
theorem r_MRm_trades_33 {x y : Int32} : Rr X d MRm_trades 33 L (.int y :: .int x :: st) h = if ¬ x = y then Rr X d MRm_trades 58 L st h else Rr X d MRm_trades 36 L st h := R_ic_ne d_MRm_trades_33 (by decide)
theorem r_MRm_trades_36 {l1 l2 l3 : Value} {x : Nat} : Rr X d MRm_trades 36 [.ref x, l1, l2, l3] st h = Rr X d MRm_trades 37 [.ref x, l1, l2, l3] (.ref x :: st) h := Rr_nx d_MRm_trades_36 rfl
theorem r_MRm_trades_37 : Rr X d MRm_trades 37 L st h = Rr X d MRm_trades 39 L (.int (80) :: st) h := Rr_nx d_MRm_trades_37 rfl
theorem r_MRm_trades_39 {y0 : Int32} {a : Nat} (hO : qO a 10 = true) (hc : ckS st = true) : Rr X (d + 1) MRm_trades 39 L (.int y0 :: .ref a :: st) (Wd mu la ro et) = (Rr X d MRm_ran 0 [.ref a, .int y0] [] (Wd mu la ro et)).bind fun q => Rr X (d + 1) MRm_trades 42 L (psh q.1 st) q.2 := R_iv (av := [.int y0]) d_MRm_trades_39 fc_10_362 hO (ckS_le hc) rfl (Nat.le_of_ble_eq_true rfl) (Nat.le_of_ble_eq_true rfl)
theorem r_MRm_trades_42 {l1 l2 l3 : Value} {x : Nat} : Rr X d MRm_trades 42 [.ref x, l1, l2, l3] st h = Rr X d MRm_trades 43 [.ref x, l1, l2, l3] (.ref x :: st) h := Rr_nx d_MRm_trades_42 rfl
theorem r_MRm_trades_43 {l0 l2 l3 : Value} {x : Int32} : Rr X d MRm_trades 43 [l0, .int x, l2, l3] st h = Rr X d MRm_trades 44 [l0, .int x, l2, l3] (.int x :: st) h := Rr_nx d_MRm_trades_43 rfl
theorem r_MRm_trades_44 {l0 l1 l3 : Value} {x : Int32} : Rr X d MRm_trades 44 [l0, l1, .int x, l3] st h = Rr X d MRm_trades 45 [l0, l1, .int x, l3] (.int x :: st) h := Rr_nx d_MRm_trades_44 rfl
theorem r_MRm_trades_45 {y0 : Int32} {y1 : Int32} {a : Nat} (hO : qO a 10 = true) (hc : ckS st = true) : Rr X (d + 1) MRm_trades 45 L (.int y1 :: .int y0 :: .ref a :: st) (Wd mu la ro et) = (Rr X d MRm_plainTrades 0 [.ref a, .int y0, .int y1] [] (Wd mu la ro et)).bind fun q => Rr X (d + 1) MRm_trades 48 L (psh q.1 st) q.2 := R_iv (av := [.int y1, .int y0]) d_MRm_trades_45 fc_10_374 hO (ckS_le hc) rfl (Nat.le_of_ble_eq_true rfl) (Nat.le_of_ble_eq_true rfl)
theorem r_MRm_trades_48 {l0 l1 l2 l3 : Value} {x : Int32} : Rr X d MRm_trades 48 [l0, l1, l2, l3] (.int x :: st) h = Rr X d MRm_trades 49 (sL [l0, l1, l2, l3] 3 (.int x)) st h := Rr_nx d_MRm_trades_48 rfl
theorem r_MRm_trades_49 {l0 l1 l2 : Value} {x : Int32} : Rr X d MRm_trades 49 [l0, l1, l2, .int x] st h = Rr X d MRm_trades 50 [l0, l1, l2, .int x] (.int x :: st) h := Rr_nx d_MRm_trades_49 rfl
theorem r_MRm_trades_50 {l1 l2 l3 : Value} {x : Nat} : Rr X d MRm_trades 50 [.ref x, l1, l2, l3] st h = Rr X d MRm_trades 51 [.ref x, l1, l2, l3] (.ref x :: st) h := Rr_nx d_MRm_trades_50 rfl
theorem r_MRm_trades_51 {l0 l2 l3 : Value} {x : Int32} : Rr X d MRm_trades 51 [l0, .int x, l2, l3] st h = Rr X d MRm_trades 52 [l0, .int x, l2, l3] (.int x :: st) h := Rr_nx d_MRm_trades_51 rfl
theorem r_MRm_trades_52 : Rr X d MRm_trades 52 L st h = Rr X d MRm_trades 53 L (.int (2) :: st) h := Rr_nx d_MRm_trades_52 rfl
theorem r_MRm_trades_53 {y0 : Int32} {y1 : Int32} {a : Nat} (hO : qO a 10 = true) (hc : ckS st = true) : Rr X (d + 1) MRm_trades 53 L (.int y1 :: .int y0 :: .ref a :: st) (Wd mu la ro et) = (Rr X d MRm_ends 0 [.ref a, .int y0, .int y1, mkU] [] (Wd mu la ro et)).bind fun q => Rr X (d + 1) MRm_trades 56 L (psh q.1 st) q.2 := R_iv (av := [.int y1, .int y0]) d_MRm_trades_53 fc_10_380 hO (ckS_le hc) rfl (Nat.le_of_ble_eq_true rfl) (Nat.le_of_ble_eq_true rfl)
theorem r_MRm_trades_56 {x y : Int32} : Rr X d MRm_trades 56 L (.int y :: .int x :: st) h = Rr X d MRm_trades 57 L (.int (x + y) :: st) h := Rr_nx d_MRm_trades_56 rfl
theorem r_MRm_trades_57 {x : Int32} : Rr X d MRm_trades 57 L [.int x] h = some (some (.int x), h) := R_ir d_MRm_trades_57 rfl
theorem r_MRm_trades_58 {l1 l2 l3 : Value} {x : Nat} : Rr X d MRm_trades 58 [.ref x, l1, l2, l3] st h = Rr X d MRm_trades 59 [.ref x, l1, l2, l3] (.ref x :: st) h := Rr_nx d_MRm_trades_58 rfl
theorem r_MRm_trades_59 {a : Nat} (hq : (qR a 10 52).isSome = true) : Rr X d MRm_trades 59 L (.ref a :: st) (Wd mu la ro et) = Rr X d MRm_trades 62 L (.ref (qRd a 10 52) :: st) (Wd mu la ro et) := R_gfR d_MRm_trades_59 ff_10_86 hq
theorem r_MRm_trades_62 {l0 l2 l3 : Value} {x : Int32} : Rr X d MRm_trades 62 [l0, .int x, l2, l3] st h = Rr X d MRm_trades 63 [l0, .int x, l2, l3] (.int x :: st) h := Rr_nx d_MRm_trades_62 rfl
theorem r_MRm_trades_63 {a : Nat} {j : Int32} (hq : (qA a 0).isSome = true) : Rr X d MRm_trades 63 L (.int j :: .ref a :: st) (Wd mu la ro et) = if j < 0 ∨ qAd a 0 ≤ j.toNatClampNeg then none else Rr X d MRm_trades 64 L (.int (mu a j.toNatClampNeg) :: st) (Wd mu la ro et) := R_ialW d_MRm_trades_63 hq
theorem r_MRm_trades_64 : Rr X d MRm_trades 64 L st h = Rr X d MRm_trades 65 L (.int (2) :: st) h := Rr_nx d_MRm_trades_64 rfl
theorem r_MRm_trades_65 {x y : Int32} : Rr X d MRm_trades 65 L (.int y :: .int x :: st) h = if x = y then Rr X d MRm_trades 78 L st h else Rr X d MRm_trades 68 L st h := R_ic_eq d_MRm_trades_65 (by decide)
theorem r_MRm_trades_68 {l1 l2 l3 : Value} {x : Nat} : Rr X d MRm_trades 68 [.ref x, l1, l2, l3] st h = Rr X d MRm_trades 69 [.ref x, l1, l2, l3] (.ref x :: st) h := Rr_nx d_MRm_trades_68 rfl
theorem r_MRm_trades_69 {a : Nat} (hq : (qR a 10 52).isSome = true) : Rr X d MRm_trades 69 L (.ref a :: st) (Wd mu la ro et) = Rr X d MRm_trades 72 L (.ref (qRd a 10 52) :: st) (Wd mu la ro et) := R_gfR d_MRm_trades_69 ff_10_86 hq
theorem r_MRm_trades_72 {l0 l2 l3 : Value} {x : Int32} : Rr X d MRm_trades 72 [l0, .int x, l2, l3] st h = Rr X d MRm_trades 73 [l0, .int x, l2, l3] (.int x :: st) h := Rr_nx d_MRm_trades_72 rfl
theorem r_MRm_trades_73 {a : Nat} {j : Int32} (hq : (qA a 0).isSome = true) : Rr X d MRm_trades 73 L (.int j :: .ref a :: st) (Wd mu la ro et) = if j < 0 ∨ qAd a 0 ≤ j.toNatClampNeg then none else Rr X d MRm_trades 74 L (.int (mu a j.toNatClampNeg) :: st) (Wd mu la ro et) := R_ialW d_MRm_trades_73 hq
theorem r_MRm_trades_74 : Rr X d MRm_trades 74 L st h = Rr X d MRm_trades 75 L (.int (4) :: st) h := Rr_nx d_MRm_trades_74 rfl
theorem r_MRm_trades_75 {x y : Int32} : Rr X d MRm_trades 75 L (.int y :: .int x :: st) h = if ¬ x = y then Rr X d MRm_trades 87 L st h else Rr X d MRm_trades 78 L st h := R_ic_ne d_MRm_trades_75 (by decide)
theorem r_MRm_trades_78 {l1 l2 l3 : Value} {x : Nat} : Rr X d MRm_trades 78 [.ref x, l1, l2, l3] st h = Rr X d MRm_trades 79 [.ref x, l1, l2, l3] (.ref x :: st) h := Rr_nx d_MRm_trades_78 rfl
theorem r_MRm_trades_79 {l0 l2 l3 : Value} {x : Int32} : Rr X d MRm_trades 79 [l0, .int x, l2, l3] st h = Rr X d MRm_trades 80 [l0, .int x, l2, l3] (.int x :: st) h := Rr_nx d_MRm_trades_79 rfl
theorem r_MRm_trades_80 {l0 l1 l3 : Value} {x : Int32} : Rr X d MRm_trades 80 [l0, l1, .int x, l3] st h = Rr X d MRm_trades 81 [l0, l1, .int x, l3] (.int x :: st) h := Rr_nx d_MRm_trades_80 rfl
theorem r_MRm_trades_81 {y0 : Int32} {y1 : Int32} {a : Nat} (hO : qO a 10 = true) (hc : ckS st = true) : Rr X (d + 1) MRm_trades 81 L (.int y1 :: .int y0 :: .ref a :: st) (Wd mu la ro et) = (Rr X d MRm_turnedTrades 0 [.ref a, .int y0, .int y1] [] (Wd mu la ro et)).bind fun q => Rr X (d + 1) MRm_trades 84 L (psh q.1 st) q.2 := R_iv (av := [.int y1, .int y0]) d_MRm_trades_81 fc_10_377 hO (ckS_le hc) rfl (Nat.le_of_ble_eq_true rfl) (Nat.le_of_ble_eq_true rfl)
theorem r_MRm_trades_84 : Rr X d MRm_trades 84 L st h = Rr X d MRm_trades 93 L st h := R_goto d_MRm_trades_84 (by decide)
theorem r_MRm_trades_87 {l1 l2 l3 : Value} {x : Nat} : Rr X d MRm_trades 87 [.ref x, l1, l2, l3] st h = Rr X d MRm_trades 88 [.ref x, l1, l2, l3] (.ref x :: st) h := Rr_nx d_MRm_trades_87 rfl
theorem r_MRm_trades_88 {l0 l2 l3 : Value} {x : Int32} : Rr X d MRm_trades 88 [l0, .int x, l2, l3] st h = Rr X d MRm_trades 89 [l0, .int x, l2, l3] (.int x :: st) h := Rr_nx d_MRm_trades_88 rfl
theorem r_MRm_trades_89 {l0 l1 l3 : Value} {x : Int32} : Rr X d MRm_trades 89 [l0, l1, .int x, l3] st h = Rr X d MRm_trades 90 [l0, l1, .int x, l3] (.int x :: st) h := Rr_nx d_MRm_trades_89 rfl
theorem r_MRm_trades_90 {y0 : Int32} {y1 : Int32} {a : Nat} (hO : qO a 10 = true) (hc : ckS st = true) : Rr X (d + 1) MRm_trades 90 L (.int y1 :: .int y0 :: .ref a :: st) (Wd mu la ro et) = (Rr X d MRm_plainTrades 0 [.ref a, .int y0, .int y1] [] (Wd mu la ro et)).bind fun q => Rr X (d + 1) MRm_trades 93 L (psh q.1 st) q.2 := R_iv (av := [.int y1, .int y0]) d_MRm_trades_90 fc_10_374 hO (ckS_le hc) rfl (Nat.le_of_ble_eq_true rfl) (Nat.le_of_ble_eq_true rfl)
theorem r_MRm_trades_93 {x : Int32} : Rr X d MRm_trades 93 L [.int x] h = some (some (.int x), h) := R_ir d_MRm_trades_93 rfl
theorem d_MRm_plainEnds_0 : decode MRm_plainEnds.2.2.1 0 = .ok (.aload_n 0, 1) := lkT_ok tk_MRm_plainEnds rfl
theorem d_MRm_plainEnds_1 : decode MRm_plainEnds.2.2.1 1 = .ok (.bipush 11, 2) := lkT_ok tk_MRm_plainEnds rfl
theorem d_MRm_plainEnds_3 : decode MRm_plainEnds.2.2.1 3 = .ok (.invokevirtual 362, 3) := lkT_ok tk_MRm_plainEnds rfl
theorem d_MRm_plainEnds_6 : decode MRm_plainEnds.2.2.1 6 = .ok (.iload_n 2, 1) := lkT_ok tk_MRm_plainEnds rfl
theorem d_MRm_plainEnds_7 : decode MRm_plainEnds.2.2.1 7 = .ok (.iload_n 1, 1) := lkT_ok tk_MRm_plainEnds rfl
theorem d_MRm_plainEnds_8 : decode MRm_plainEnds.2.2.1 8 = .ok (.ixor, 1) := lkT_ok tk_MRm_plainEnds rfl
theorem d_MRm_plainEnds_9 : decode MRm_plainEnds.2.2.1 9 = .ok (.ireturn, 1) := lkT_ok tk_MRm_plainEnds rfl
theorem r_MRm_plainEnds_0 {l1 l2 : Value} {x : Nat} : Rr X d MRm_plainEnds 0 [.ref x, l1, l2] st h = Rr X d MRm_plainEnds 1 [.ref x, l1, l2] (.ref x :: st) h := Rr_nx d_MRm_plainEnds_0 rfl
theorem r_MRm_plainEnds_1 : Rr X d MRm_plainEnds 1 L st h = Rr X d MRm_plainEnds 3 L (.int (11) :: st) h := Rr_nx d_MRm_plainEnds_1 rfl
theorem r_MRm_plainEnds_3 {y0 : Int32} {a : Nat} (hO : qO a 10 = true) (hc : ckS st = true) : Rr X (d + 1) MRm_plainEnds 3 L (.int y0 :: .ref a :: st) (Wd mu la ro et) = (Rr X d MRm_ran 0 [.ref a, .int y0] [] (Wd mu la ro et)).bind fun q => Rr X (d + 1) MRm_plainEnds 6 L (psh q.1 st) q.2 := R_iv (av := [.int y0]) d_MRm_plainEnds_3 fc_10_362 hO (ckS_le hc) rfl (Nat.le_of_ble_eq_true rfl) (Nat.le_of_ble_eq_true rfl)
theorem r_MRm_plainEnds_6 {l0 l1 : Value} {x : Int32} : Rr X d MRm_plainEnds 6 [l0, l1, .int x] st h = Rr X d MRm_plainEnds 7 [l0, l1, .int x] (.int x :: st) h := Rr_nx d_MRm_plainEnds_6 rfl
theorem r_MRm_plainEnds_7 {l0 l2 : Value} {x : Int32} : Rr X d MRm_plainEnds 7 [l0, .int x, l2] st h = Rr X d MRm_plainEnds 8 [l0, .int x, l2] (.int x :: st) h := Rr_nx d_MRm_plainEnds_7 rfl
theorem r_MRm_plainEnds_8 {x y : Int32} : Rr X d MRm_plainEnds 8 L (.int y :: .int x :: st) h = Rr X d MRm_plainEnds 9 L (.int (x ^^^ y) :: st) h := Rr_nx d_MRm_plainEnds_8 rfl
theorem r_MRm_plainEnds_9 {x : Int32} : Rr X d MRm_plainEnds 9 L [.int x] h = some (some (.int x), h) := R_ir d_MRm_plainEnds_9 rfl
theorem d_MRm_ends_0 : decode MRm_ends.2.2.1 0 = .ok (.aload_n 0, 1) := lkT_ok tk_MRm_ends rfl
theorem d_MRm_ends_1 : decode MRm_ends.2.2.1 1 = .ok (.getfield 86, 3) := lkT_ok tk_MRm_ends rfl
theorem d_MRm_ends_4 : decode MRm_ends.2.2.1 4 = .ok (.iload_n 1, 1) := lkT_ok tk_MRm_ends rfl
theorem d_MRm_ends_5 : decode MRm_ends.2.2.1 5 = .ok (.iaload, 1) := lkT_ok tk_MRm_ends rfl
theorem d_MRm_ends_6 : decode MRm_ends.2.2.1 6 = .ok (.iconst 3, 1) := lkT_ok tk_MRm_ends rfl
theorem d_MRm_ends_7 : decode MRm_ends.2.2.1 7 = .ok (.if_icmp .ne 18, 3) := lkT_ok tk_MRm_ends rfl
theorem d_MRm_ends_10 : decode MRm_ends.2.2.1 10 = .ok (.aload_n 0, 1) := lkT_ok tk_MRm_ends rfl
theorem d_MRm_ends_11 : decode MRm_ends.2.2.1 11 = .ok (.bipush 40, 2) := lkT_ok tk_MRm_ends rfl
theorem d_MRm_ends_13 : decode MRm_ends.2.2.1 13 = .ok (.invokevirtual 362, 3) := lkT_ok tk_MRm_ends rfl
theorem d_MRm_ends_16 : decode MRm_ends.2.2.1 16 = .ok (.aload_n 0, 1) := lkT_ok tk_MRm_ends rfl
theorem d_MRm_ends_17 : decode MRm_ends.2.2.1 17 = .ok (.iload_n 1, 1) := lkT_ok tk_MRm_ends rfl
theorem d_MRm_ends_18 : decode MRm_ends.2.2.1 18 = .ok (.iload_n 2, 1) := lkT_ok tk_MRm_ends rfl
theorem d_MRm_ends_19 : decode MRm_ends.2.2.1 19 = .ok (.invokevirtual 383, 3) := lkT_ok tk_MRm_ends rfl
theorem d_MRm_ends_22 : decode MRm_ends.2.2.1 22 = .ok (.iconst 3, 1) := lkT_ok tk_MRm_ends rfl
theorem d_MRm_ends_23 : decode MRm_ends.2.2.1 23 = .ok (.imul, 1) := lkT_ok tk_MRm_ends rfl
theorem d_MRm_ends_24 : decode MRm_ends.2.2.1 24 = .ok (.ireturn, 1) := lkT_ok tk_MRm_ends rfl
theorem d_MRm_ends_25 : decode MRm_ends.2.2.1 25 = .ok (.aload_n 0, 1) := lkT_ok tk_MRm_ends rfl
theorem d_MRm_ends_26 : decode MRm_ends.2.2.1 26 = .ok (.getfield 86, 3) := lkT_ok tk_MRm_ends rfl
theorem d_MRm_ends_29 : decode MRm_ends.2.2.1 29 = .ok (.iload_n 1, 1) := lkT_ok tk_MRm_ends rfl
theorem d_MRm_ends_30 : decode MRm_ends.2.2.1 30 = .ok (.iaload, 1) := lkT_ok tk_MRm_ends rfl
theorem d_MRm_ends_31 : decode MRm_ends.2.2.1 31 = .ok (.iconst 5, 1) := lkT_ok tk_MRm_ends rfl
theorem d_MRm_ends_32 : decode MRm_ends.2.2.1 32 = .ok (.if_icmp .ne 25, 3) := lkT_ok tk_MRm_ends rfl
theorem d_MRm_ends_35 : decode MRm_ends.2.2.1 35 = .ok (.aload_n 0, 1) := lkT_ok tk_MRm_ends rfl
theorem d_MRm_ends_36 : decode MRm_ends.2.2.1 36 = .ok (.bipush 61, 2) := lkT_ok tk_MRm_ends rfl
theorem d_MRm_ends_38 : decode MRm_ends.2.2.1 38 = .ok (.invokevirtual 362, 3) := lkT_ok tk_MRm_ends rfl
theorem d_MRm_ends_41 : decode MRm_ends.2.2.1 41 = .ok (.aload_n 0, 1) := lkT_ok tk_MRm_ends rfl
theorem d_MRm_ends_42 : decode MRm_ends.2.2.1 42 = .ok (.iload_n 1, 1) := lkT_ok tk_MRm_ends rfl
theorem d_MRm_ends_43 : decode MRm_ends.2.2.1 43 = .ok (.iload_n 2, 1) := lkT_ok tk_MRm_ends rfl
theorem d_MRm_ends_44 : decode MRm_ends.2.2.1 44 = .ok (.invokevirtual 383, 3) := lkT_ok tk_MRm_ends rfl
theorem d_MRm_ends_47 : decode MRm_ends.2.2.1 47 = .ok (.istore_n 3, 1) := lkT_ok tk_MRm_ends rfl
theorem d_MRm_ends_48 : decode MRm_ends.2.2.1 48 = .ok (.iload_n 3, 1) := lkT_ok tk_MRm_ends rfl
theorem d_MRm_ends_49 : decode MRm_ends.2.2.1 49 = .ok (.aload_n 0, 1) := lkT_ok tk_MRm_ends rfl
theorem d_MRm_ends_50 : decode MRm_ends.2.2.1 50 = .ok (.iload_n 1, 1) := lkT_ok tk_MRm_ends rfl
theorem d_MRm_ends_51 : decode MRm_ends.2.2.1 51 = .ok (.iconst 1, 1) := lkT_ok tk_MRm_ends rfl
theorem d_MRm_ends_52 : decode MRm_ends.2.2.1 52 = .ok (.invokevirtual 371, 3) := lkT_ok tk_MRm_ends rfl
theorem d_MRm_ends_55 : decode MRm_ends.2.2.1 55 = .ok (.iadd, 1) := lkT_ok tk_MRm_ends rfl
theorem d_MRm_ends_56 : decode MRm_ends.2.2.1 56 = .ok (.ireturn, 1) := lkT_ok tk_MRm_ends rfl
theorem d_MRm_ends_57 : decode MRm_ends.2.2.1 57 = .ok (.aload_n 0, 1) := lkT_ok tk_MRm_ends rfl
theorem d_MRm_ends_58 : decode MRm_ends.2.2.1 58 = .ok (.getfield 86, 3) := lkT_ok tk_MRm_ends rfl
theorem d_MRm_ends_61 : decode MRm_ends.2.2.1 61 = .ok (.iload_n 1, 1) := lkT_ok tk_MRm_ends rfl
theorem d_MRm_ends_62 : decode MRm_ends.2.2.1 62 = .ok (.iaload, 1) := lkT_ok tk_MRm_ends rfl
theorem d_MRm_ends_63 : decode MRm_ends.2.2.1 63 = .ok (.bipush 6, 2) := lkT_ok tk_MRm_ends rfl
theorem d_MRm_ends_65 : decode MRm_ends.2.2.1 65 = .ok (.invokestatic 386, 3) := lkT_ok tk_MRm_ends rfl
theorem d_MRm_ends_68 : decode MRm_ends.2.2.1 68 = .ok (.ifCond .eq 18, 3) := lkT_ok tk_MRm_ends rfl
theorem d_MRm_ends_71 : decode MRm_ends.2.2.1 71 = .ok (.aload_n 0, 1) := lkT_ok tk_MRm_ends rfl
theorem d_MRm_ends_72 : decode MRm_ends.2.2.1 72 = .ok (.bipush 70, 2) := lkT_ok tk_MRm_ends rfl
theorem d_MRm_ends_74 : decode MRm_ends.2.2.1 74 = .ok (.invokevirtual 362, 3) := lkT_ok tk_MRm_ends rfl
theorem d_MRm_ends_77 : decode MRm_ends.2.2.1 77 = .ok (.aload_n 0, 1) := lkT_ok tk_MRm_ends rfl
theorem d_MRm_ends_78 : decode MRm_ends.2.2.1 78 = .ok (.iload_n 1, 1) := lkT_ok tk_MRm_ends rfl
theorem d_MRm_ends_79 : decode MRm_ends.2.2.1 79 = .ok (.iload_n 2, 1) := lkT_ok tk_MRm_ends rfl
theorem d_MRm_ends_80 : decode MRm_ends.2.2.1 80 = .ok (.invokevirtual 383, 3) := lkT_ok tk_MRm_ends rfl
theorem d_MRm_ends_83 : decode MRm_ends.2.2.1 83 = .ok (.iconst 1, 1) := lkT_ok tk_MRm_ends rfl
theorem d_MRm_ends_84 : decode MRm_ends.2.2.1 84 = .ok (.isub, 1) := lkT_ok tk_MRm_ends rfl
theorem d_MRm_ends_85 : decode MRm_ends.2.2.1 85 = .ok (.ireturn, 1) := lkT_ok tk_MRm_ends rfl
theorem d_MRm_ends_86 : decode MRm_ends.2.2.1 86 = .ok (.aload_n 0, 1) := lkT_ok tk_MRm_ends rfl
theorem d_MRm_ends_87 : decode MRm_ends.2.2.1 87 = .ok (.iload_n 1, 1) := lkT_ok tk_MRm_ends rfl
theorem d_MRm_ends_88 : decode MRm_ends.2.2.1 88 = .ok (.iload_n 2, 1) := lkT_ok tk_MRm_ends rfl
theorem d_MRm_ends_89 : decode MRm_ends.2.2.1 89 = .ok (.invokevirtual 383, 3) := lkT_ok tk_MRm_ends rfl
theorem d_MRm_ends_92 : decode MRm_ends.2.2.1 92 = .ok (.ireturn, 1) := lkT_ok tk_MRm_ends rfl
theorem r_MRm_ends_0 {l1 l2 l3 : Value} {x : Nat} : Rr X d MRm_ends 0 [.ref x, l1, l2, l3] st h = Rr X d MRm_ends 1 [.ref x, l1, l2, l3] (.ref x :: st) h := Rr_nx d_MRm_ends_0 rfl
theorem r_MRm_ends_1 {a : Nat} (hq : (qR a 10 52).isSome = true) : Rr X d MRm_ends 1 L (.ref a :: st) (Wd mu la ro et) = Rr X d MRm_ends 4 L (.ref (qRd a 10 52) :: st) (Wd mu la ro et) := R_gfR d_MRm_ends_1 ff_10_86 hq
theorem r_MRm_ends_4 {l0 l2 l3 : Value} {x : Int32} : Rr X d MRm_ends 4 [l0, .int x, l2, l3] st h = Rr X d MRm_ends 5 [l0, .int x, l2, l3] (.int x :: st) h := Rr_nx d_MRm_ends_4 rfl
theorem r_MRm_ends_5 {a : Nat} {j : Int32} (hq : (qA a 0).isSome = true) : Rr X d MRm_ends 5 L (.int j :: .ref a :: st) (Wd mu la ro et) = if j < 0 ∨ qAd a 0 ≤ j.toNatClampNeg then none else Rr X d MRm_ends 6 L (.int (mu a j.toNatClampNeg) :: st) (Wd mu la ro et) := R_ialW d_MRm_ends_5 hq
theorem r_MRm_ends_6 : Rr X d MRm_ends 6 L st h = Rr X d MRm_ends 7 L (.int (3) :: st) h := Rr_nx d_MRm_ends_6 rfl
theorem r_MRm_ends_7 {x y : Int32} : Rr X d MRm_ends 7 L (.int y :: .int x :: st) h = if ¬ x = y then Rr X d MRm_ends 25 L st h else Rr X d MRm_ends 10 L st h := R_ic_ne d_MRm_ends_7 (by decide)
theorem r_MRm_ends_10 {l1 l2 l3 : Value} {x : Nat} : Rr X d MRm_ends 10 [.ref x, l1, l2, l3] st h = Rr X d MRm_ends 11 [.ref x, l1, l2, l3] (.ref x :: st) h := Rr_nx d_MRm_ends_10 rfl
theorem r_MRm_ends_11 : Rr X d MRm_ends 11 L st h = Rr X d MRm_ends 13 L (.int (40) :: st) h := Rr_nx d_MRm_ends_11 rfl
theorem r_MRm_ends_13 {y0 : Int32} {a : Nat} (hO : qO a 10 = true) (hc : ckS st = true) : Rr X (d + 1) MRm_ends 13 L (.int y0 :: .ref a :: st) (Wd mu la ro et) = (Rr X d MRm_ran 0 [.ref a, .int y0] [] (Wd mu la ro et)).bind fun q => Rr X (d + 1) MRm_ends 16 L (psh q.1 st) q.2 := R_iv (av := [.int y0]) d_MRm_ends_13 fc_10_362 hO (ckS_le hc) rfl (Nat.le_of_ble_eq_true rfl) (Nat.le_of_ble_eq_true rfl)
theorem r_MRm_ends_16 {l1 l2 l3 : Value} {x : Nat} : Rr X d MRm_ends 16 [.ref x, l1, l2, l3] st h = Rr X d MRm_ends 17 [.ref x, l1, l2, l3] (.ref x :: st) h := Rr_nx d_MRm_ends_16 rfl
theorem r_MRm_ends_17 {l0 l2 l3 : Value} {x : Int32} : Rr X d MRm_ends 17 [l0, .int x, l2, l3] st h = Rr X d MRm_ends 18 [l0, .int x, l2, l3] (.int x :: st) h := Rr_nx d_MRm_ends_17 rfl
theorem r_MRm_ends_18 {l0 l1 l3 : Value} {x : Int32} : Rr X d MRm_ends 18 [l0, l1, .int x, l3] st h = Rr X d MRm_ends 19 [l0, l1, .int x, l3] (.int x :: st) h := Rr_nx d_MRm_ends_18 rfl
theorem fc_10_383 : fC 10 383 = some (0, 10, 2, MRm_plainEnds) := rfl
theorem r_MRm_ends_19 {y0 : Int32} {y1 : Int32} {a : Nat} (hO : qO a 10 = true) (hc : ckS st = true) : Rr X (d + 1) MRm_ends 19 L (.int y1 :: .int y0 :: .ref a :: st) (Wd mu la ro et) = (Rr X d MRm_plainEnds 0 [.ref a, .int y0, .int y1] [] (Wd mu la ro et)).bind fun q => Rr X (d + 1) MRm_ends 22 L (psh q.1 st) q.2 := R_iv (av := [.int y1, .int y0]) d_MRm_ends_19 fc_10_383 hO (ckS_le hc) rfl (Nat.le_of_ble_eq_true rfl) (Nat.le_of_ble_eq_true rfl)
theorem r_MRm_ends_22 : Rr X d MRm_ends 22 L st h = Rr X d MRm_ends 23 L (.int (3) :: st) h := Rr_nx d_MRm_ends_22 rfl
theorem r_MRm_ends_23 {x y : Int32} : Rr X d MRm_ends 23 L (.int y :: .int x :: st) h = Rr X d MRm_ends 24 L (.int (x * y) :: st) h := Rr_nx d_MRm_ends_23 rfl
theorem r_MRm_ends_24 {x : Int32} : Rr X d MRm_ends 24 L [.int x] h = some (some (.int x), h) := R_ir d_MRm_ends_24 rfl
theorem r_MRm_ends_25 {l1 l2 l3 : Value} {x : Nat} : Rr X d MRm_ends 25 [.ref x, l1, l2, l3] st h = Rr X d MRm_ends 26 [.ref x, l1, l2, l3] (.ref x :: st) h := Rr_nx d_MRm_ends_25 rfl
theorem r_MRm_ends_26 {a : Nat} (hq : (qR a 10 52).isSome = true) : Rr X d MRm_ends 26 L (.ref a :: st) (Wd mu la ro et) = Rr X d MRm_ends 29 L (.ref (qRd a 10 52) :: st) (Wd mu la ro et) := R_gfR d_MRm_ends_26 ff_10_86 hq
theorem r_MRm_ends_29 {l0 l2 l3 : Value} {x : Int32} : Rr X d MRm_ends 29 [l0, .int x, l2, l3] st h = Rr X d MRm_ends 30 [l0, .int x, l2, l3] (.int x :: st) h := Rr_nx d_MRm_ends_29 rfl
theorem r_MRm_ends_30 {a : Nat} {j : Int32} (hq : (qA a 0).isSome = true) : Rr X d MRm_ends 30 L (.int j :: .ref a :: st) (Wd mu la ro et) = if j < 0 ∨ qAd a 0 ≤ j.toNatClampNeg then none else Rr X d MRm_ends 31 L (.int (mu a j.toNatClampNeg) :: st) (Wd mu la ro et) := R_ialW d_MRm_ends_30 hq
theorem r_MRm_ends_31 : Rr X d MRm_ends 31 L st h = Rr X d MRm_ends 32 L (.int (5) :: st) h := Rr_nx d_MRm_ends_31 rfl
theorem r_MRm_ends_32 {x y : Int32} : Rr X d MRm_ends 32 L (.int y :: .int x :: st) h = if ¬ x = y then Rr X d MRm_ends 57 L st h else Rr X d MRm_ends 35 L st h := R_ic_ne d_MRm_ends_32 (by decide)
theorem r_MRm_ends_35 {l1 l2 l3 : Value} {x : Nat} : Rr X d MRm_ends 35 [.ref x, l1, l2, l3] st h = Rr X d MRm_ends 36 [.ref x, l1, l2, l3] (.ref x :: st) h := Rr_nx d_MRm_ends_35 rfl
theorem r_MRm_ends_36 : Rr X d MRm_ends 36 L st h = Rr X d MRm_ends 38 L (.int (61) :: st) h := Rr_nx d_MRm_ends_36 rfl
theorem r_MRm_ends_38 {y0 : Int32} {a : Nat} (hO : qO a 10 = true) (hc : ckS st = true) : Rr X (d + 1) MRm_ends 38 L (.int y0 :: .ref a :: st) (Wd mu la ro et) = (Rr X d MRm_ran 0 [.ref a, .int y0] [] (Wd mu la ro et)).bind fun q => Rr X (d + 1) MRm_ends 41 L (psh q.1 st) q.2 := R_iv (av := [.int y0]) d_MRm_ends_38 fc_10_362 hO (ckS_le hc) rfl (Nat.le_of_ble_eq_true rfl) (Nat.le_of_ble_eq_true rfl)
theorem r_MRm_ends_41 {l1 l2 l3 : Value} {x : Nat} : Rr X d MRm_ends 41 [.ref x, l1, l2, l3] st h = Rr X d MRm_ends 42 [.ref x, l1, l2, l3] (.ref x :: st) h := Rr_nx d_MRm_ends_41 rfl
theorem r_MRm_ends_42 {l0 l2 l3 : Value} {x : Int32} : Rr X d MRm_ends 42 [l0, .int x, l2, l3] st h = Rr X d MRm_ends 43 [l0, .int x, l2, l3] (.int x :: st) h := Rr_nx d_MRm_ends_42 rfl
theorem r_MRm_ends_43 {l0 l1 l3 : Value} {x : Int32} : Rr X d MRm_ends 43 [l0, l1, .int x, l3] st h = Rr X d MRm_ends 44 [l0, l1, .int x, l3] (.int x :: st) h := Rr_nx d_MRm_ends_43 rfl
theorem r_MRm_ends_44 {y0 : Int32} {y1 : Int32} {a : Nat} (hO : qO a 10 = true) (hc : ckS st = true) : Rr X (d + 1) MRm_ends 44 L (.int y1 :: .int y0 :: .ref a :: st) (Wd mu la ro et) = (Rr X d MRm_plainEnds 0 [.ref a, .int y0, .int y1] [] (Wd mu la ro et)).bind fun q => Rr X (d + 1) MRm_ends 47 L (psh q.1 st) q.2 := R_iv (av := [.int y1, .int y0]) d_MRm_ends_44 fc_10_383 hO (ckS_le hc) rfl (Nat.le_of_ble_eq_true rfl) (Nat.le_of_ble_eq_true rfl)
theorem r_MRm_ends_47 {l0 l1 l2 l3 : Value} {x : Int32} : Rr X d MRm_ends 47 [l0, l1, l2, l3] (.int x :: st) h = Rr X d MRm_ends 48 (sL [l0, l1, l2, l3] 3 (.int x)) st h := Rr_nx d_MRm_ends_47 rfl
theorem r_MRm_ends_48 {l0 l1 l2 : Value} {x : Int32} : Rr X d MRm_ends 48 [l0, l1, l2, .int x] st h = Rr X d MRm_ends 49 [l0, l1, l2, .int x] (.int x :: st) h := Rr_nx d_MRm_ends_48 rfl
theorem r_MRm_ends_49 {l1 l2 l3 : Value} {x : Nat} : Rr X d MRm_ends 49 [.ref x, l1, l2, l3] st h = Rr X d MRm_ends 50 [.ref x, l1, l2, l3] (.ref x :: st) h := Rr_nx d_MRm_ends_49 rfl
theorem r_MRm_ends_50 {l0 l2 l3 : Value} {x : Int32} : Rr X d MRm_ends 50 [l0, .int x, l2, l3] st h = Rr X d MRm_ends 51 [l0, .int x, l2, l3] (.int x :: st) h := Rr_nx d_MRm_ends_50 rfl
theorem r_MRm_ends_51 : Rr X d MRm_ends 51 L st h = Rr X d MRm_ends 52 L (.int (1) :: st) h := Rr_nx d_MRm_ends_51 rfl
theorem r_MRm_ends_52 {y0 : Int32} {y1 : Int32} {a : Nat} (hO : qO a 10 = true) (hc : ckS st = true) : Rr X (d + 1) MRm_ends 52 L (.int y1 :: .int y0 :: .ref a :: st) (Wd mu la ro et) = (Rr X d MRm_rolls 0 [.ref a, .int y0, .int y1] [] (Wd mu la ro et)).bind fun q => Rr X (d + 1) MRm_ends 55 L (psh q.1 st) q.2 := R_iv (av := [.int y1, .int y0]) d_MRm_ends_52 fc_10_371 hO (ckS_le hc) rfl (Nat.le_of_ble_eq_true rfl) (Nat.le_of_ble_eq_true rfl)
theorem r_MRm_ends_55 {x y : Int32} : Rr X d MRm_ends 55 L (.int y :: .int x :: st) h = Rr X d MRm_ends 56 L (.int (x + y) :: st) h := Rr_nx d_MRm_ends_55 rfl
theorem r_MRm_ends_56 {x : Int32} : Rr X d MRm_ends 56 L [.int x] h = some (some (.int x), h) := R_ir d_MRm_ends_56 rfl
theorem r_MRm_ends_57 {l1 l2 l3 : Value} {x : Nat} : Rr X d MRm_ends 57 [.ref x, l1, l2, l3] st h = Rr X d MRm_ends 58 [.ref x, l1, l2, l3] (.ref x :: st) h := Rr_nx d_MRm_ends_57 rfl
theorem r_MRm_ends_58 {a : Nat} (hq : (qR a 10 52).isSome = true) : Rr X d MRm_ends 58 L (.ref a :: st) (Wd mu la ro et) = Rr X d MRm_ends 61 L (.ref (qRd a 10 52) :: st) (Wd mu la ro et) := R_gfR d_MRm_ends_58 ff_10_86 hq
theorem r_MRm_ends_61 {l0 l2 l3 : Value} {x : Int32} : Rr X d MRm_ends 61 [l0, .int x, l2, l3] st h = Rr X d MRm_ends 62 [l0, .int x, l2, l3] (.int x :: st) h := Rr_nx d_MRm_ends_61 rfl
theorem r_MRm_ends_62 {a : Nat} {j : Int32} (hq : (qA a 0).isSome = true) : Rr X d MRm_ends 62 L (.int j :: .ref a :: st) (Wd mu la ro et) = if j < 0 ∨ qAd a 0 ≤ j.toNatClampNeg then none else Rr X d MRm_ends 63 L (.int (mu a j.toNatClampNeg) :: st) (Wd mu la ro et) := R_ialW d_MRm_ends_62 hq
theorem r_MRm_ends_63 : Rr X d MRm_ends 63 L st h = Rr X d MRm_ends 65 L (.int (6) :: st) h := Rr_nx d_MRm_ends_63 rfl
theorem fc_10_386 : fC 10 386 = some (1, 0, 2, MRm_isUnder) := rfl
theorem r_MRm_ends_65 {y0 : Int32} {y1 : Int32} (hc : ckS st = true) : Rr X (d + 1) MRm_ends 65 L (.int y1 :: .int y0 :: st) h = (Rr X d MRm_isUnder 0 [.int y0, .int y1] [] h).bind fun q => Rr X (d + 1) MRm_ends 68 L (psh q.1 st) q.2 := R_is (av := [.int y1, .int y0]) d_MRm_ends_65 (Or.inl fc_10_386) (ckS_le hc) rfl (Nat.le_of_ble_eq_true rfl) (Nat.le_of_ble_eq_true rfl)
theorem r_MRm_ends_68 {x : Int32} : Rr X d MRm_ends 68 L (.int x :: st) h = if x = 0 then Rr X d MRm_ends 86 L st h else Rr X d MRm_ends 71 L st h := R_if_eq d_MRm_ends_68 (by decide)
theorem r_MRm_ends_71 {l1 l2 l3 : Value} {x : Nat} : Rr X d MRm_ends 71 [.ref x, l1, l2, l3] st h = Rr X d MRm_ends 72 [.ref x, l1, l2, l3] (.ref x :: st) h := Rr_nx d_MRm_ends_71 rfl
theorem r_MRm_ends_72 : Rr X d MRm_ends 72 L st h = Rr X d MRm_ends 74 L (.int (70) :: st) h := Rr_nx d_MRm_ends_72 rfl
theorem r_MRm_ends_74 {y0 : Int32} {a : Nat} (hO : qO a 10 = true) (hc : ckS st = true) : Rr X (d + 1) MRm_ends 74 L (.int y0 :: .ref a :: st) (Wd mu la ro et) = (Rr X d MRm_ran 0 [.ref a, .int y0] [] (Wd mu la ro et)).bind fun q => Rr X (d + 1) MRm_ends 77 L (psh q.1 st) q.2 := R_iv (av := [.int y0]) d_MRm_ends_74 fc_10_362 hO (ckS_le hc) rfl (Nat.le_of_ble_eq_true rfl) (Nat.le_of_ble_eq_true rfl)
theorem r_MRm_ends_77 {l1 l2 l3 : Value} {x : Nat} : Rr X d MRm_ends 77 [.ref x, l1, l2, l3] st h = Rr X d MRm_ends 78 [.ref x, l1, l2, l3] (.ref x :: st) h := Rr_nx d_MRm_ends_77 rfl
theorem r_MRm_ends_78 {l0 l2 l3 : Value} {x : Int32} : Rr X d MRm_ends 78 [l0, .int x, l2, l3] st h = Rr X d MRm_ends 79 [l0, .int x, l2, l3] (.int x :: st) h := Rr_nx d_MRm_ends_78 rfl
theorem r_MRm_ends_79 {l0 l1 l3 : Value} {x : Int32} : Rr X d MRm_ends 79 [l0, l1, .int x, l3] st h = Rr X d MRm_ends 80 [l0, l1, .int x, l3] (.int x :: st) h := Rr_nx d_MRm_ends_79 rfl
theorem r_MRm_ends_80 {y0 : Int32} {y1 : Int32} {a : Nat} (hO : qO a 10 = true) (hc : ckS st = true) : Rr X (d + 1) MRm_ends 80 L (.int y1 :: .int y0 :: .ref a :: st) (Wd mu la ro et) = (Rr X d MRm_plainEnds 0 [.ref a, .int y0, .int y1] [] (Wd mu la ro et)).bind fun q => Rr X (d + 1) MRm_ends 83 L (psh q.1 st) q.2 := R_iv (av := [.int y1, .int y0]) d_MRm_ends_80 fc_10_383 hO (ckS_le hc) rfl (Nat.le_of_ble_eq_true rfl) (Nat.le_of_ble_eq_true rfl)
theorem r_MRm_ends_83 : Rr X d MRm_ends 83 L st h = Rr X d MRm_ends 84 L (.int (1) :: st) h := Rr_nx d_MRm_ends_83 rfl
theorem r_MRm_ends_84 {x y : Int32} : Rr X d MRm_ends 84 L (.int y :: .int x :: st) h = Rr X d MRm_ends 85 L (.int (x - y) :: st) h := Rr_nx d_MRm_ends_84 rfl
theorem r_MRm_ends_85 {x : Int32} : Rr X d MRm_ends 85 L [.int x] h = some (some (.int x), h) := R_ir d_MRm_ends_85 rfl
theorem r_MRm_ends_86 {l1 l2 l3 : Value} {x : Nat} : Rr X d MRm_ends 86 [.ref x, l1, l2, l3] st h = Rr X d MRm_ends 87 [.ref x, l1, l2, l3] (.ref x :: st) h := Rr_nx d_MRm_ends_86 rfl
theorem r_MRm_ends_87 {l0 l2 l3 : Value} {x : Int32} : Rr X d MRm_ends 87 [l0, .int x, l2, l3] st h = Rr X d MRm_ends 88 [l0, .int x, l2, l3] (.int x :: st) h := Rr_nx d_MRm_ends_87 rfl
theorem r_MRm_ends_88 {l0 l1 l3 : Value} {x : Int32} : Rr X d MRm_ends 88 [l0, l1, .int x, l3] st h = Rr X d MRm_ends 89 [l0, l1, .int x, l3] (.int x :: st) h := Rr_nx d_MRm_ends_88 rfl
theorem r_MRm_ends_89 {y0 : Int32} {y1 : Int32} {a : Nat} (hO : qO a 10 = true) (hc : ckS st = true) : Rr X (d + 1) MRm_ends 89 L (.int y1 :: .int y0 :: .ref a :: st) (Wd mu la ro et) = (Rr X d MRm_plainEnds 0 [.ref a, .int y0, .int y1] [] (Wd mu la ro et)).bind fun q => Rr X (d + 1) MRm_ends 92 L (psh q.1 st) q.2 := R_iv (av := [.int y1, .int y0]) d_MRm_ends_89 fc_10_383 hO (ckS_le hc) rfl (Nat.le_of_ble_eq_true rfl) (Nat.le_of_ble_eq_true rfl)
theorem r_MRm_ends_92 {x : Int32} : Rr X d MRm_ends 92 L [.int x] h = some (some (.int x), h) := R_ir d_MRm_ends_92 rfl
theorem d_MRm_plainTells_0 : decode MRm_plainTells.2.2.1 0 = .ok (.aload_n 0, 1) := lkT_ok tk_MRm_plainTells rfl
theorem d_MRm_plainTells_1 : decode MRm_plainTells.2.2.1 1 = .ok (.iconst 2, 1) := lkT_ok tk_MRm_plainTells rfl
theorem d_MRm_plainTells_2 : decode MRm_plainTells.2.2.1 2 = .ok (.invokevirtual 362, 3) := lkT_ok tk_MRm_plainTells rfl
theorem d_MRm_plainTells_5 : decode MRm_plainTells.2.2.1 5 = .ok (.aload_n 0, 1) := lkT_ok tk_MRm_plainTells rfl
theorem d_MRm_plainTells_6 : decode MRm_plainTells.2.2.1 6 = .ok (.iload_n 1, 1) := lkT_ok tk_MRm_plainTells rfl
theorem d_MRm_plainTells_7 : decode MRm_plainTells.2.2.1 7 = .ok (.iload_n 2, 1) := lkT_ok tk_MRm_plainTells rfl
theorem d_MRm_plainTells_8 : decode MRm_plainTells.2.2.1 8 = .ok (.invokevirtual 389, 3) := lkT_ok tk_MRm_plainTells rfl
theorem d_MRm_plainTells_11 : decode MRm_plainTells.2.2.1 11 = .ok (.istore_n 3, 1) := lkT_ok tk_MRm_plainTells rfl
theorem d_MRm_plainTells_12 : decode MRm_plainTells.2.2.1 12 = .ok (.iload_n 3, 1) := lkT_ok tk_MRm_plainTells rfl
theorem d_MRm_plainTells_13 : decode MRm_plainTells.2.2.1 13 = .ok (.aload_n 0, 1) := lkT_ok tk_MRm_plainTells rfl
theorem d_MRm_plainTells_14 : decode MRm_plainTells.2.2.1 14 = .ok (.iload_n 1, 1) := lkT_ok tk_MRm_plainTells rfl
theorem d_MRm_plainTells_15 : decode MRm_plainTells.2.2.1 15 = .ok (.iconst 1, 1) := lkT_ok tk_MRm_plainTells rfl
theorem d_MRm_plainTells_16 : decode MRm_plainTells.2.2.1 16 = .ok (.invokevirtual 380, 3) := lkT_ok tk_MRm_plainTells rfl
theorem d_MRm_plainTells_19 : decode MRm_plainTells.2.2.1 19 = .ok (.isub, 1) := lkT_ok tk_MRm_plainTells rfl
theorem d_MRm_plainTells_20 : decode MRm_plainTells.2.2.1 20 = .ok (.ireturn, 1) := lkT_ok tk_MRm_plainTells rfl
theorem r_MRm_plainTells_0 {l1 l2 l3 : Value} {x : Nat} : Rr X d MRm_plainTells 0 [.ref x, l1, l2, l3] st h = Rr X d MRm_plainTells 1 [.ref x, l1, l2, l3] (.ref x :: st) h := Rr_nx d_MRm_plainTells_0 rfl
theorem r_MRm_plainTells_1 : Rr X d MRm_plainTells 1 L st h = Rr X d MRm_plainTells 2 L (.int (2) :: st) h := Rr_nx d_MRm_plainTells_1 rfl
theorem r_MRm_plainTells_2 {y0 : Int32} {a : Nat} (hO : qO a 10 = true) (hc : ckS st = true) : Rr X (d + 1) MRm_plainTells 2 L (.int y0 :: .ref a :: st) (Wd mu la ro et) = (Rr X d MRm_ran 0 [.ref a, .int y0] [] (Wd mu la ro et)).bind fun q => Rr X (d + 1) MRm_plainTells 5 L (psh q.1 st) q.2 := R_iv (av := [.int y0]) d_MRm_plainTells_2 fc_10_362 hO (ckS_le hc) rfl (Nat.le_of_ble_eq_true rfl) (Nat.le_of_ble_eq_true rfl)
theorem r_MRm_plainTells_5 {l1 l2 l3 : Value} {x : Nat} : Rr X d MRm_plainTells 5 [.ref x, l1, l2, l3] st h = Rr X d MRm_plainTells 6 [.ref x, l1, l2, l3] (.ref x :: st) h := Rr_nx d_MRm_plainTells_5 rfl
theorem r_MRm_plainTells_6 {l0 l2 l3 : Value} {x : Int32} : Rr X d MRm_plainTells 6 [l0, .int x, l2, l3] st h = Rr X d MRm_plainTells 7 [l0, .int x, l2, l3] (.int x :: st) h := Rr_nx d_MRm_plainTells_6 rfl
theorem r_MRm_plainTells_7 {l0 l1 l3 : Value} {x : Int32} : Rr X d MRm_plainTells 7 [l0, l1, .int x, l3] st h = Rr X d MRm_plainTells 8 [l0, l1, .int x, l3] (.int x :: st) h := Rr_nx d_MRm_plainTells_7 rfl
theorem r_MRm_plainTells_8 {y0 : Int32} {y1 : Int32} {a : Nat} (hO : qO a 10 = true) (hc : ckS st = true) : Rr X (d + 1) MRm_plainTells 8 L (.int y1 :: .int y0 :: .ref a :: st) (Wd mu la ro et) = (Rr X d MRm_trades 0 [.ref a, .int y0, .int y1, mkU] [] (Wd mu la ro et)).bind fun q => Rr X (d + 1) MRm_plainTells 11 L (psh q.1 st) q.2 := R_iv (av := [.int y1, .int y0]) d_MRm_plainTells_8 fc_10_389 hO (ckS_le hc) rfl (Nat.le_of_ble_eq_true rfl) (Nat.le_of_ble_eq_true rfl)
theorem r_MRm_plainTells_11 {l0 l1 l2 l3 : Value} {x : Int32} : Rr X d MRm_plainTells 11 [l0, l1, l2, l3] (.int x :: st) h = Rr X d MRm_plainTells 12 (sL [l0, l1, l2, l3] 3 (.int x)) st h := Rr_nx d_MRm_plainTells_11 rfl
theorem r_MRm_plainTells_12 {l0 l1 l2 : Value} {x : Int32} : Rr X d MRm_plainTells 12 [l0, l1, l2, .int x] st h = Rr X d MRm_plainTells 13 [l0, l1, l2, .int x] (.int x :: st) h := Rr_nx d_MRm_plainTells_12 rfl
theorem r_MRm_plainTells_13 {l1 l2 l3 : Value} {x : Nat} : Rr X d MRm_plainTells 13 [.ref x, l1, l2, l3] st h = Rr X d MRm_plainTells 14 [.ref x, l1, l2, l3] (.ref x :: st) h := Rr_nx d_MRm_plainTells_13 rfl
theorem r_MRm_plainTells_14 {l0 l2 l3 : Value} {x : Int32} : Rr X d MRm_plainTells 14 [l0, .int x, l2, l3] st h = Rr X d MRm_plainTells 15 [l0, .int x, l2, l3] (.int x :: st) h := Rr_nx d_MRm_plainTells_14 rfl
theorem r_MRm_plainTells_15 : Rr X d MRm_plainTells 15 L st h = Rr X d MRm_plainTells 16 L (.int (1) :: st) h := Rr_nx d_MRm_plainTells_15 rfl
theorem r_MRm_plainTells_16 {y0 : Int32} {y1 : Int32} {a : Nat} (hO : qO a 10 = true) (hc : ckS st = true) : Rr X (d + 1) MRm_plainTells 16 L (.int y1 :: .int y0 :: .ref a :: st) (Wd mu la ro et) = (Rr X d MRm_ends 0 [.ref a, .int y0, .int y1, mkU] [] (Wd mu la ro et)).bind fun q => Rr X (d + 1) MRm_plainTells 19 L (psh q.1 st) q.2 := R_iv (av := [.int y1, .int y0]) d_MRm_plainTells_16 fc_10_380 hO (ckS_le hc) rfl (Nat.le_of_ble_eq_true rfl) (Nat.le_of_ble_eq_true rfl)
theorem r_MRm_plainTells_19 {x y : Int32} : Rr X d MRm_plainTells 19 L (.int y :: .int x :: st) h = Rr X d MRm_plainTells 20 L (.int (x - y) :: st) h := Rr_nx d_MRm_plainTells_19 rfl
theorem r_MRm_plainTells_20 {x : Int32} : Rr X d MRm_plainTells 20 L [.int x] h = some (some (.int x), h) := R_ir d_MRm_plainTells_20 rfl
theorem d_MRm_tells_0 : decode MRm_tells.2.2.1 0 = .ok (.aload_n 0, 1) := lkT_ok tk_MRm_tells rfl
theorem d_MRm_tells_1 : decode MRm_tells.2.2.1 1 = .ok (.getfield 86, 3) := lkT_ok tk_MRm_tells rfl
theorem d_MRm_tells_4 : decode MRm_tells.2.2.1 4 = .ok (.iload_n 1, 1) := lkT_ok tk_MRm_tells rfl
theorem d_MRm_tells_5 : decode MRm_tells.2.2.1 5 = .ok (.iaload, 1) := lkT_ok tk_MRm_tells rfl
theorem d_MRm_tells_6 : decode MRm_tells.2.2.1 6 = .ok (.iconst 4, 1) := lkT_ok tk_MRm_tells rfl
theorem d_MRm_tells_7 : decode MRm_tells.2.2.1 7 = .ok (.if_icmp .ne 18, 3) := lkT_ok tk_MRm_tells rfl
theorem d_MRm_tells_10 : decode MRm_tells.2.2.1 10 = .ok (.aload_n 0, 1) := lkT_ok tk_MRm_tells rfl
theorem d_MRm_tells_11 : decode MRm_tells.2.2.1 11 = .ok (.bipush 50, 2) := lkT_ok tk_MRm_tells rfl
theorem d_MRm_tells_13 : decode MRm_tells.2.2.1 13 = .ok (.invokevirtual 362, 3) := lkT_ok tk_MRm_tells rfl
theorem d_MRm_tells_16 : decode MRm_tells.2.2.1 16 = .ok (.aload_n 0, 1) := lkT_ok tk_MRm_tells rfl
theorem d_MRm_tells_17 : decode MRm_tells.2.2.1 17 = .ok (.iload_n 1, 1) := lkT_ok tk_MRm_tells rfl
theorem d_MRm_tells_18 : decode MRm_tells.2.2.1 18 = .ok (.iload_n 2, 1) := lkT_ok tk_MRm_tells rfl
theorem d_MRm_tells_19 : decode MRm_tells.2.2.1 19 = .ok (.invokevirtual 392, 3) := lkT_ok tk_MRm_tells rfl
theorem d_MRm_tells_22 : decode MRm_tells.2.2.1 22 = .ok (.iconst 5, 1) := lkT_ok tk_MRm_tells rfl
theorem d_MRm_tells_23 : decode MRm_tells.2.2.1 23 = .ok (.ixor, 1) := lkT_ok tk_MRm_tells rfl
theorem d_MRm_tells_24 : decode MRm_tells.2.2.1 24 = .ok (.ireturn, 1) := lkT_ok tk_MRm_tells rfl
theorem d_MRm_tells_25 : decode MRm_tells.2.2.1 25 = .ok (.aload_n 0, 1) := lkT_ok tk_MRm_tells rfl
theorem d_MRm_tells_26 : decode MRm_tells.2.2.1 26 = .ok (.getfield 86, 3) := lkT_ok tk_MRm_tells rfl
theorem d_MRm_tells_29 : decode MRm_tells.2.2.1 29 = .ok (.iload_n 1, 1) := lkT_ok tk_MRm_tells rfl
theorem d_MRm_tells_30 : decode MRm_tells.2.2.1 30 = .ok (.iaload, 1) := lkT_ok tk_MRm_tells rfl
theorem d_MRm_tells_31 : decode MRm_tells.2.2.1 31 = .ok (.bipush 7, 2) := lkT_ok tk_MRm_tells rfl
theorem d_MRm_tells_33 : decode MRm_tells.2.2.1 33 = .ok (.if_icmp .ne 25, 3) := lkT_ok tk_MRm_tells rfl
theorem d_MRm_tells_36 : decode MRm_tells.2.2.1 36 = .ok (.aload_n 0, 1) := lkT_ok tk_MRm_tells rfl
theorem d_MRm_tells_37 : decode MRm_tells.2.2.1 37 = .ok (.bipush 81, 2) := lkT_ok tk_MRm_tells rfl
theorem d_MRm_tells_39 : decode MRm_tells.2.2.1 39 = .ok (.invokevirtual 362, 3) := lkT_ok tk_MRm_tells rfl
theorem d_MRm_tells_42 : decode MRm_tells.2.2.1 42 = .ok (.aload_n 0, 1) := lkT_ok tk_MRm_tells rfl
theorem d_MRm_tells_43 : decode MRm_tells.2.2.1 43 = .ok (.iload_n 1, 1) := lkT_ok tk_MRm_tells rfl
theorem d_MRm_tells_44 : decode MRm_tells.2.2.1 44 = .ok (.iload_n 2, 1) := lkT_ok tk_MRm_tells rfl
theorem d_MRm_tells_45 : decode MRm_tells.2.2.1 45 = .ok (.invokevirtual 392, 3) := lkT_ok tk_MRm_tells rfl
theorem d_MRm_tells_48 : decode MRm_tells.2.2.1 48 = .ok (.istore_n 3, 1) := lkT_ok tk_MRm_tells rfl
theorem d_MRm_tells_49 : decode MRm_tells.2.2.1 49 = .ok (.iload_n 3, 1) := lkT_ok tk_MRm_tells rfl
theorem d_MRm_tells_50 : decode MRm_tells.2.2.1 50 = .ok (.aload_n 0, 1) := lkT_ok tk_MRm_tells rfl
theorem d_MRm_tells_51 : decode MRm_tells.2.2.1 51 = .ok (.iload_n 1, 1) := lkT_ok tk_MRm_tells rfl
theorem d_MRm_tells_52 : decode MRm_tells.2.2.1 52 = .ok (.iconst 1, 1) := lkT_ok tk_MRm_tells rfl
theorem d_MRm_tells_53 : decode MRm_tells.2.2.1 53 = .ok (.invokevirtual 371, 3) := lkT_ok tk_MRm_tells rfl
theorem d_MRm_tells_56 : decode MRm_tells.2.2.1 56 = .ok (.isub, 1) := lkT_ok tk_MRm_tells rfl
theorem d_MRm_tells_57 : decode MRm_tells.2.2.1 57 = .ok (.ireturn, 1) := lkT_ok tk_MRm_tells rfl
theorem d_MRm_tells_58 : decode MRm_tells.2.2.1 58 = .ok (.aload_n 0, 1) := lkT_ok tk_MRm_tells rfl
theorem d_MRm_tells_59 : decode MRm_tells.2.2.1 59 = .ok (.iload_n 1, 1) := lkT_ok tk_MRm_tells rfl
theorem d_MRm_tells_60 : decode MRm_tells.2.2.1 60 = .ok (.iload_n 2, 1) := lkT_ok tk_MRm_tells rfl
theorem d_MRm_tells_61 : decode MRm_tells.2.2.1 61 = .ok (.invokevirtual 392, 3) := lkT_ok tk_MRm_tells rfl
theorem d_MRm_tells_64 : decode MRm_tells.2.2.1 64 = .ok (.ireturn, 1) := lkT_ok tk_MRm_tells rfl
theorem r_MRm_tells_0 {l1 l2 l3 : Value} {x : Nat} : Rr X d MRm_tells 0 [.ref x, l1, l2, l3] st h = Rr X d MRm_tells 1 [.ref x, l1, l2, l3] (.ref x :: st) h := Rr_nx d_MRm_tells_0 rfl
theorem r_MRm_tells_1 {a : Nat} (hq : (qR a 10 52).isSome = true) : Rr X d MRm_tells 1 L (.ref a :: st) (Wd mu la ro et) = Rr X d MRm_tells 4 L (.ref (qRd a 10 52) :: st) (Wd mu la ro et) := R_gfR d_MRm_tells_1 ff_10_86 hq
theorem r_MRm_tells_4 {l0 l2 l3 : Value} {x : Int32} : Rr X d MRm_tells 4 [l0, .int x, l2, l3] st h = Rr X d MRm_tells 5 [l0, .int x, l2, l3] (.int x :: st) h := Rr_nx d_MRm_tells_4 rfl
theorem r_MRm_tells_5 {a : Nat} {j : Int32} (hq : (qA a 0).isSome = true) : Rr X d MRm_tells 5 L (.int j :: .ref a :: st) (Wd mu la ro et) = if j < 0 ∨ qAd a 0 ≤ j.toNatClampNeg then none else Rr X d MRm_tells 6 L (.int (mu a j.toNatClampNeg) :: st) (Wd mu la ro et) := R_ialW d_MRm_tells_5 hq
theorem r_MRm_tells_6 : Rr X d MRm_tells 6 L st h = Rr X d MRm_tells 7 L (.int (4) :: st) h := Rr_nx d_MRm_tells_6 rfl
theorem r_MRm_tells_7 {x y : Int32} : Rr X d MRm_tells 7 L (.int y :: .int x :: st) h = if ¬ x = y then Rr X d MRm_tells 25 L st h else Rr X d MRm_tells 10 L st h := R_ic_ne d_MRm_tells_7 (by decide)
theorem r_MRm_tells_10 {l1 l2 l3 : Value} {x : Nat} : Rr X d MRm_tells 10 [.ref x, l1, l2, l3] st h = Rr X d MRm_tells 11 [.ref x, l1, l2, l3] (.ref x :: st) h := Rr_nx d_MRm_tells_10 rfl
theorem r_MRm_tells_11 : Rr X d MRm_tells 11 L st h = Rr X d MRm_tells 13 L (.int (50) :: st) h := Rr_nx d_MRm_tells_11 rfl
theorem r_MRm_tells_13 {y0 : Int32} {a : Nat} (hO : qO a 10 = true) (hc : ckS st = true) : Rr X (d + 1) MRm_tells 13 L (.int y0 :: .ref a :: st) (Wd mu la ro et) = (Rr X d MRm_ran 0 [.ref a, .int y0] [] (Wd mu la ro et)).bind fun q => Rr X (d + 1) MRm_tells 16 L (psh q.1 st) q.2 := R_iv (av := [.int y0]) d_MRm_tells_13 fc_10_362 hO (ckS_le hc) rfl (Nat.le_of_ble_eq_true rfl) (Nat.le_of_ble_eq_true rfl)
theorem r_MRm_tells_16 {l1 l2 l3 : Value} {x : Nat} : Rr X d MRm_tells 16 [.ref x, l1, l2, l3] st h = Rr X d MRm_tells 17 [.ref x, l1, l2, l3] (.ref x :: st) h := Rr_nx d_MRm_tells_16 rfl
theorem r_MRm_tells_17 {l0 l2 l3 : Value} {x : Int32} : Rr X d MRm_tells 17 [l0, .int x, l2, l3] st h = Rr X d MRm_tells 18 [l0, .int x, l2, l3] (.int x :: st) h := Rr_nx d_MRm_tells_17 rfl
theorem r_MRm_tells_18 {l0 l1 l3 : Value} {x : Int32} : Rr X d MRm_tells 18 [l0, l1, .int x, l3] st h = Rr X d MRm_tells 19 [l0, l1, .int x, l3] (.int x :: st) h := Rr_nx d_MRm_tells_18 rfl
theorem fc_10_392 : fC 10 392 = some (0, 10, 2, MRm_plainTells) := rfl
theorem r_MRm_tells_19 {y0 : Int32} {y1 : Int32} {a : Nat} (hO : qO a 10 = true) (hc : ckS st = true) : Rr X (d + 1) MRm_tells 19 L (.int y1 :: .int y0 :: .ref a :: st) (Wd mu la ro et) = (Rr X d MRm_plainTells 0 [.ref a, .int y0, .int y1, mkU] [] (Wd mu la ro et)).bind fun q => Rr X (d + 1) MRm_tells 22 L (psh q.1 st) q.2 := R_iv (av := [.int y1, .int y0]) d_MRm_tells_19 fc_10_392 hO (ckS_le hc) rfl (Nat.le_of_ble_eq_true rfl) (Nat.le_of_ble_eq_true rfl)
theorem r_MRm_tells_22 : Rr X d MRm_tells 22 L st h = Rr X d MRm_tells 23 L (.int (5) :: st) h := Rr_nx d_MRm_tells_22 rfl
theorem r_MRm_tells_23 {x y : Int32} : Rr X d MRm_tells 23 L (.int y :: .int x :: st) h = Rr X d MRm_tells 24 L (.int (x ^^^ y) :: st) h := Rr_nx d_MRm_tells_23 rfl
theorem r_MRm_tells_24 {x : Int32} : Rr X d MRm_tells 24 L [.int x] h = some (some (.int x), h) := R_ir d_MRm_tells_24 rfl
theorem r_MRm_tells_25 {l1 l2 l3 : Value} {x : Nat} : Rr X d MRm_tells 25 [.ref x, l1, l2, l3] st h = Rr X d MRm_tells 26 [.ref x, l1, l2, l3] (.ref x :: st) h := Rr_nx d_MRm_tells_25 rfl
theorem r_MRm_tells_26 {a : Nat} (hq : (qR a 10 52).isSome = true) : Rr X d MRm_tells 26 L (.ref a :: st) (Wd mu la ro et) = Rr X d MRm_tells 29 L (.ref (qRd a 10 52) :: st) (Wd mu la ro et) := R_gfR d_MRm_tells_26 ff_10_86 hq
theorem r_MRm_tells_29 {l0 l2 l3 : Value} {x : Int32} : Rr X d MRm_tells 29 [l0, .int x, l2, l3] st h = Rr X d MRm_tells 30 [l0, .int x, l2, l3] (.int x :: st) h := Rr_nx d_MRm_tells_29 rfl
theorem r_MRm_tells_30 {a : Nat} {j : Int32} (hq : (qA a 0).isSome = true) : Rr X d MRm_tells 30 L (.int j :: .ref a :: st) (Wd mu la ro et) = if j < 0 ∨ qAd a 0 ≤ j.toNatClampNeg then none else Rr X d MRm_tells 31 L (.int (mu a j.toNatClampNeg) :: st) (Wd mu la ro et) := R_ialW d_MRm_tells_30 hq
theorem r_MRm_tells_31 : Rr X d MRm_tells 31 L st h = Rr X d MRm_tells 33 L (.int (7) :: st) h := Rr_nx d_MRm_tells_31 rfl
theorem r_MRm_tells_33 {x y : Int32} : Rr X d MRm_tells 33 L (.int y :: .int x :: st) h = if ¬ x = y then Rr X d MRm_tells 58 L st h else Rr X d MRm_tells 36 L st h := R_ic_ne d_MRm_tells_33 (by decide)
theorem r_MRm_tells_36 {l1 l2 l3 : Value} {x : Nat} : Rr X d MRm_tells 36 [.ref x, l1, l2, l3] st h = Rr X d MRm_tells 37 [.ref x, l1, l2, l3] (.ref x :: st) h := Rr_nx d_MRm_tells_36 rfl
theorem r_MRm_tells_37 : Rr X d MRm_tells 37 L st h = Rr X d MRm_tells 39 L (.int (81) :: st) h := Rr_nx d_MRm_tells_37 rfl
theorem r_MRm_tells_39 {y0 : Int32} {a : Nat} (hO : qO a 10 = true) (hc : ckS st = true) : Rr X (d + 1) MRm_tells 39 L (.int y0 :: .ref a :: st) (Wd mu la ro et) = (Rr X d MRm_ran 0 [.ref a, .int y0] [] (Wd mu la ro et)).bind fun q => Rr X (d + 1) MRm_tells 42 L (psh q.1 st) q.2 := R_iv (av := [.int y0]) d_MRm_tells_39 fc_10_362 hO (ckS_le hc) rfl (Nat.le_of_ble_eq_true rfl) (Nat.le_of_ble_eq_true rfl)
theorem r_MRm_tells_42 {l1 l2 l3 : Value} {x : Nat} : Rr X d MRm_tells 42 [.ref x, l1, l2, l3] st h = Rr X d MRm_tells 43 [.ref x, l1, l2, l3] (.ref x :: st) h := Rr_nx d_MRm_tells_42 rfl
theorem r_MRm_tells_43 {l0 l2 l3 : Value} {x : Int32} : Rr X d MRm_tells 43 [l0, .int x, l2, l3] st h = Rr X d MRm_tells 44 [l0, .int x, l2, l3] (.int x :: st) h := Rr_nx d_MRm_tells_43 rfl
theorem r_MRm_tells_44 {l0 l1 l3 : Value} {x : Int32} : Rr X d MRm_tells 44 [l0, l1, .int x, l3] st h = Rr X d MRm_tells 45 [l0, l1, .int x, l3] (.int x :: st) h := Rr_nx d_MRm_tells_44 rfl
theorem r_MRm_tells_45 {y0 : Int32} {y1 : Int32} {a : Nat} (hO : qO a 10 = true) (hc : ckS st = true) : Rr X (d + 1) MRm_tells 45 L (.int y1 :: .int y0 :: .ref a :: st) (Wd mu la ro et) = (Rr X d MRm_plainTells 0 [.ref a, .int y0, .int y1, mkU] [] (Wd mu la ro et)).bind fun q => Rr X (d + 1) MRm_tells 48 L (psh q.1 st) q.2 := R_iv (av := [.int y1, .int y0]) d_MRm_tells_45 fc_10_392 hO (ckS_le hc) rfl (Nat.le_of_ble_eq_true rfl) (Nat.le_of_ble_eq_true rfl)
theorem r_MRm_tells_48 {l0 l1 l2 l3 : Value} {x : Int32} : Rr X d MRm_tells 48 [l0, l1, l2, l3] (.int x :: st) h = Rr X d MRm_tells 49 (sL [l0, l1, l2, l3] 3 (.int x)) st h := Rr_nx d_MRm_tells_48 rfl
theorem r_MRm_tells_49 {l0 l1 l2 : Value} {x : Int32} : Rr X d MRm_tells 49 [l0, l1, l2, .int x] st h = Rr X d MRm_tells 50 [l0, l1, l2, .int x] (.int x :: st) h := Rr_nx d_MRm_tells_49 rfl
theorem r_MRm_tells_50 {l1 l2 l3 : Value} {x : Nat} : Rr X d MRm_tells 50 [.ref x, l1, l2, l3] st h = Rr X d MRm_tells 51 [.ref x, l1, l2, l3] (.ref x :: st) h := Rr_nx d_MRm_tells_50 rfl
theorem r_MRm_tells_51 {l0 l2 l3 : Value} {x : Int32} : Rr X d MRm_tells 51 [l0, .int x, l2, l3] st h = Rr X d MRm_tells 52 [l0, .int x, l2, l3] (.int x :: st) h := Rr_nx d_MRm_tells_51 rfl
theorem r_MRm_tells_52 : Rr X d MRm_tells 52 L st h = Rr X d MRm_tells 53 L (.int (1) :: st) h := Rr_nx d_MRm_tells_52 rfl
theorem r_MRm_tells_53 {y0 : Int32} {y1 : Int32} {a : Nat} (hO : qO a 10 = true) (hc : ckS st = true) : Rr X (d + 1) MRm_tells 53 L (.int y1 :: .int y0 :: .ref a :: st) (Wd mu la ro et) = (Rr X d MRm_rolls 0 [.ref a, .int y0, .int y1] [] (Wd mu la ro et)).bind fun q => Rr X (d + 1) MRm_tells 56 L (psh q.1 st) q.2 := R_iv (av := [.int y1, .int y0]) d_MRm_tells_53 fc_10_371 hO (ckS_le hc) rfl (Nat.le_of_ble_eq_true rfl) (Nat.le_of_ble_eq_true rfl)
theorem r_MRm_tells_56 {x y : Int32} : Rr X d MRm_tells 56 L (.int y :: .int x :: st) h = Rr X d MRm_tells 57 L (.int (x - y) :: st) h := Rr_nx d_MRm_tells_56 rfl
theorem r_MRm_tells_57 {x : Int32} : Rr X d MRm_tells 57 L [.int x] h = some (some (.int x), h) := R_ir d_MRm_tells_57 rfl
theorem r_MRm_tells_58 {l1 l2 l3 : Value} {x : Nat} : Rr X d MRm_tells 58 [.ref x, l1, l2, l3] st h = Rr X d MRm_tells 59 [.ref x, l1, l2, l3] (.ref x :: st) h := Rr_nx d_MRm_tells_58 rfl
theorem r_MRm_tells_59 {l0 l2 l3 : Value} {x : Int32} : Rr X d MRm_tells 59 [l0, .int x, l2, l3] st h = Rr X d MRm_tells 60 [l0, .int x, l2, l3] (.int x :: st) h := Rr_nx d_MRm_tells_59 rfl
theorem r_MRm_tells_60 {l0 l1 l3 : Value} {x : Int32} : Rr X d MRm_tells 60 [l0, l1, .int x, l3] st h = Rr X d MRm_tells 61 [l0, l1, .int x, l3] (.int x :: st) h := Rr_nx d_MRm_tells_60 rfl
theorem r_MRm_tells_61 {y0 : Int32} {y1 : Int32} {a : Nat} (hO : qO a 10 = true) (hc : ckS st = true) : Rr X (d + 1) MRm_tells 61 L (.int y1 :: .int y0 :: .ref a :: st) (Wd mu la ro et) = (Rr X d MRm_plainTells 0 [.ref a, .int y0, .int y1, mkU] [] (Wd mu la ro et)).bind fun q => Rr X (d + 1) MRm_tells 64 L (psh q.1 st) q.2 := R_iv (av := [.int y1, .int y0]) d_MRm_tells_61 fc_10_392 hO (ckS_le hc) rfl (Nat.le_of_ble_eq_true rfl) (Nat.le_of_ble_eq_true rfl)
theorem r_MRm_tells_64 {x : Int32} : Rr X d MRm_tells 64 L [.int x] h = some (some (.int x), h) := R_ir d_MRm_tells_64 rfl
end RULES
