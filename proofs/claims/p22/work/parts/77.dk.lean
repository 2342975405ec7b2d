section RULES
variable {X : Tok} {d : Nat} {st L : List Value} {h : Hp} {mu : Nat → Nat → Int32} {la : Nat → Nat → Int64} {ro : Nat → Nat → Option Nat} {et : Nat → Option va_E}
theorem d_MSh_cutDown_0 : decode MSh_cutDown.2.2.1 0 = .ok (.aload_n 0, 1) := lkT_ok tk_MSh_cutDown rfl
theorem d_MSh_cutDown_1 : decode MSh_cutDown.2.2.1 1 = .ok (.getfield 19, 3) := lkT_ok tk_MSh_cutDown rfl
theorem d_MSh_cutDown_4 : decode MSh_cutDown.2.2.1 4 = .ok (.tableswitch 62 0 4 #[36, 41, 46, 62, 50], 36) := lkT_ok tk_MSh_cutDown rfl
theorem d_MSh_cutDown_40 : decode MSh_cutDown.2.2.1 40 = .ok (.lload_n 1, 1) := lkT_ok tk_MSh_cutDown rfl
theorem d_MSh_cutDown_41 : decode MSh_cutDown.2.2.1 41 = .ok (.l2i, 1) := lkT_ok tk_MSh_cutDown rfl
theorem d_MSh_cutDown_42 : decode MSh_cutDown.2.2.1 42 = .ok (.i2b, 1) := lkT_ok tk_MSh_cutDown rfl
theorem d_MSh_cutDown_43 : decode MSh_cutDown.2.2.1 43 = .ok (.i2l, 1) := lkT_ok tk_MSh_cutDown rfl
theorem d_MSh_cutDown_44 : decode MSh_cutDown.2.2.1 44 = .ok (.lreturn, 1) := lkT_ok tk_MSh_cutDown rfl
theorem d_MSh_cutDown_45 : decode MSh_cutDown.2.2.1 45 = .ok (.lload_n 1, 1) := lkT_ok tk_MSh_cutDown rfl
theorem d_MSh_cutDown_46 : decode MSh_cutDown.2.2.1 46 = .ok (.l2i, 1) := lkT_ok tk_MSh_cutDown rfl
theorem d_MSh_cutDown_47 : decode MSh_cutDown.2.2.1 47 = .ok (.i2s, 1) := lkT_ok tk_MSh_cutDown rfl
theorem d_MSh_cutDown_48 : decode MSh_cutDown.2.2.1 48 = .ok (.i2l, 1) := lkT_ok tk_MSh_cutDown rfl
theorem d_MSh_cutDown_49 : decode MSh_cutDown.2.2.1 49 = .ok (.lreturn, 1) := lkT_ok tk_MSh_cutDown rfl
theorem d_MSh_cutDown_50 : decode MSh_cutDown.2.2.1 50 = .ok (.lload_n 1, 1) := lkT_ok tk_MSh_cutDown rfl
theorem d_MSh_cutDown_51 : decode MSh_cutDown.2.2.1 51 = .ok (.l2i, 1) := lkT_ok tk_MSh_cutDown rfl
theorem d_MSh_cutDown_52 : decode MSh_cutDown.2.2.1 52 = .ok (.i2l, 1) := lkT_ok tk_MSh_cutDown rfl
theorem d_MSh_cutDown_53 : decode MSh_cutDown.2.2.1 53 = .ok (.lreturn, 1) := lkT_ok tk_MSh_cutDown rfl
theorem d_MSh_cutDown_54 : decode MSh_cutDown.2.2.1 54 = .ok (.lload_n 1, 1) := lkT_ok tk_MSh_cutDown rfl
theorem d_MSh_cutDown_55 : decode MSh_cutDown.2.2.1 55 = .ok (.lconst 0, 1) := lkT_ok tk_MSh_cutDown rfl
theorem d_MSh_cutDown_56 : decode MSh_cutDown.2.2.1 56 = .ok (.lcmp, 1) := lkT_ok tk_MSh_cutDown rfl
theorem d_MSh_cutDown_57 : decode MSh_cutDown.2.2.1 57 = .ok (.ifCond .eq 7, 3) := lkT_ok tk_MSh_cutDown rfl
theorem d_MSh_cutDown_60 : decode MSh_cutDown.2.2.1 60 = .ok (.lconst 1, 1) := lkT_ok tk_MSh_cutDown rfl
theorem d_MSh_cutDown_61 : decode MSh_cutDown.2.2.1 61 = .ok (.goto 4, 3) := lkT_ok tk_MSh_cutDown rfl
theorem d_MSh_cutDown_64 : decode MSh_cutDown.2.2.1 64 = .ok (.lconst 0, 1) := lkT_ok tk_MSh_cutDown rfl
theorem d_MSh_cutDown_65 : decode MSh_cutDown.2.2.1 65 = .ok (.lreturn, 1) := lkT_ok tk_MSh_cutDown rfl
theorem d_MSh_cutDown_66 : decode MSh_cutDown.2.2.1 66 = .ok (.lload_n 1, 1) := lkT_ok tk_MSh_cutDown rfl
theorem d_MSh_cutDown_67 : decode MSh_cutDown.2.2.1 67 = .ok (.lreturn, 1) := lkT_ok tk_MSh_cutDown rfl
theorem r_MSh_cutDown_0 {l1 l2 : Value} {x : Nat} : Rr X d MSh_cutDown 0 [.ref x, l1, l2] st h = Rr X d MSh_cutDown 1 [.ref x, l1, l2] (.ref x :: st) h := Rr_nx d_MSh_cutDown_0 rfl
theorem r_MSh_cutDown_1 {a : Nat} (hq : qI a 6 2 = true) : Rr X d MSh_cutDown 1 L (.ref a :: st) (Wd mu la ro et) = Rr X d MSh_cutDown 4 L (.int (mu a 2) :: st) (Wd mu la ro et) := R_gfI d_MSh_cutDown_1 ff_6_19 hq
theorem r_MSh_cutDown_4_0 : Rr X d MSh_cutDown 4 L (.int (0) :: st) h = Rr X d MSh_cutDown 40 L st h := R_tab (off := 36) d_MSh_cutDown_4 (by decide) (by decide) (by decide)
theorem r_MSh_cutDown_4_1 : Rr X d MSh_cutDown 4 L (.int (1) :: st) h = Rr X d MSh_cutDown 45 L st h := R_tab (off := 41) d_MSh_cutDown_4 (by decide) (by decide) (by decide)
theorem r_MSh_cutDown_4_2 : Rr X d MSh_cutDown 4 L (.int (2) :: st) h = Rr X d MSh_cutDown 50 L st h := R_tab (off := 46) d_MSh_cutDown_4 (by decide) (by decide) (by decide)
theorem r_MSh_cutDown_4_3 : Rr X d MSh_cutDown 4 L (.int (3) :: st) h = Rr X d MSh_cutDown 66 L st h := R_tab (off := 62) d_MSh_cutDown_4 (by decide) (by decide) (by decide)
theorem r_MSh_cutDown_4_4 : Rr X d MSh_cutDown 4 L (.int (4) :: st) h = Rr X d MSh_cutDown 54 L st h := R_tab (off := 50) d_MSh_cutDown_4 (by decide) (by decide) (by decide)
theorem r_MSh_cutDown_4D {x : Int32} (hx : x.toInt < 0 ∨ 4 < x.toInt) : Rr X d MSh_cutDown 4 L (.int x :: st) h = Rr X d MSh_cutDown 66 L st h := R_tabD d_MSh_cutDown_4 hx (by decide)
theorem r_MSh_cutDown_40 {l0 l2 : Value} {x : Int64} : Rr X d MSh_cutDown 40 [l0, .long x, l2] st h = Rr X d MSh_cutDown 41 [l0, .long x, l2] (.long x :: st) h := Rr_nx d_MSh_cutDown_40 rfl
theorem r_MSh_cutDown_41 {x : Int64} : Rr X d MSh_cutDown 41 L (.long x :: st) h = Rr X d MSh_cutDown 42 L (.int x.toInt32 :: st) h := Rr_nx d_MSh_cutDown_41 rfl
theorem r_MSh_cutDown_42 {x : Int32} : Rr X d MSh_cutDown 42 L (.int x :: st) h = Rr X d MSh_cutDown 43 L (.int (x.toInt8.toInt32) :: st) h := Rr_nx d_MSh_cutDown_42 rfl
theorem r_MSh_cutDown_43 {x : Int32} : Rr X d MSh_cutDown 43 L (.int x :: st) h = Rr X d MSh_cutDown 44 L (.long x.toInt64 :: st) h := Rr_nx d_MSh_cutDown_43 rfl
theorem r_MSh_cutDown_44 {x : Int64} : Rr X d MSh_cutDown 44 L [.long x] h = some (some (.long x), h) := Rr_rt d_MSh_cutDown_44 rfl
theorem r_MSh_cutDown_45 {l0 l2 : Value} {x : Int64} : Rr X d MSh_cutDown 45 [l0, .long x, l2] st h = Rr X d MSh_cutDown 46 [l0, .long x, l2] (.long x :: st) h := Rr_nx d_MSh_cutDown_45 rfl
theorem r_MSh_cutDown_46 {x : Int64} : Rr X d MSh_cutDown 46 L (.long x :: st) h = Rr X d MSh_cutDown 47 L (.int x.toInt32 :: st) h := Rr_nx d_MSh_cutDown_46 rfl
theorem r_MSh_cutDown_47 {x : Int32} : Rr X d MSh_cutDown 47 L (.int x :: st) h = Rr X d MSh_cutDown 48 L (.int (x.toInt16.toInt32) :: st) h := Rr_nx d_MSh_cutDown_47 rfl
theorem r_MSh_cutDown_48 {x : Int32} : Rr X d MSh_cutDown 48 L (.int x :: st) h = Rr X d MSh_cutDown 49 L (.long x.toInt64 :: st) h := Rr_nx d_MSh_cutDown_48 rfl
theorem r_MSh_cutDown_49 {x : Int64} : Rr X d MSh_cutDown 49 L [.long x] h = some (some (.long x), h) := Rr_rt d_MSh_cutDown_49 rfl
theorem r_MSh_cutDown_50 {l0 l2 : Value} {x : Int64} : Rr X d MSh_cutDown 50 [l0, .long x, l2] st h = Rr X d MSh_cutDown 51 [l0, .long x, l2] (.long x :: st) h := Rr_nx d_MSh_cutDown_50 rfl
theorem r_MSh_cutDown_51 {x : Int64} : Rr X d MSh_cutDown 51 L (.long x :: st) h = Rr X d MSh_cutDown 52 L (.int x.toInt32 :: st) h := Rr_nx d_MSh_cutDown_51 rfl
theorem r_MSh_cutDown_52 {x : Int32} : Rr X d MSh_cutDown 52 L (.int x :: st) h = Rr X d MSh_cutDown 53 L (.long x.toInt64 :: st) h := Rr_nx d_MSh_cutDown_52 rfl
theorem r_MSh_cutDown_53 {x : Int64} : Rr X d MSh_cutDown 53 L [.long x] h = some (some (.long x), h) := Rr_rt d_MSh_cutDown_53 rfl
theorem r_MSh_cutDown_54 {l0 l2 : Value} {x : Int64} : Rr X d MSh_cutDown 54 [l0, .long x, l2] st h = Rr X d MSh_cutDown 55 [l0, .long x, l2] (.long x :: st) h := Rr_nx d_MSh_cutDown_54 rfl
theorem r_MSh_cutDown_55 : Rr X d MSh_cutDown 55 L st h = Rr X d MSh_cutDown 56 L (.long 0 :: st) h := Rr_nx d_MSh_cutDown_55 rfl
theorem r_MSh_cutDown_56 {x y : Int64} : Rr X d MSh_cutDown 56 L (.long y :: .long x :: st) h = Rr X d MSh_cutDown 57 L (.int (lg_cmp x y) :: st) h := Rr_nx d_MSh_cutDown_56 rfl
theorem r_MSh_cutDown_57 {x : Int32} : Rr X d MSh_cutDown 57 L (.int x :: st) h = if x = 0 then Rr X d MSh_cutDown 64 L st h else Rr X d MSh_cutDown 60 L st h := R_if_eq d_MSh_cutDown_57 (by decide)
theorem r_MSh_cutDown_60 : Rr X d MSh_cutDown 60 L st h = Rr X d MSh_cutDown 61 L (.long 1 :: st) h := Rr_nx d_MSh_cutDown_60 rfl
theorem r_MSh_cutDown_61 : Rr X d MSh_cutDown 61 L st h = Rr X d MSh_cutDown 65 L st h := R_goto d_MSh_cutDown_61 (by decide)
theorem r_MSh_cutDown_64 : Rr X d MSh_cutDown 64 L st h = Rr X d MSh_cutDown 65 L (.long 0 :: st) h := Rr_nx d_MSh_cutDown_64 rfl
theorem r_MSh_cutDown_65 {x : Int64} : Rr X d MSh_cutDown 65 L [.long x] h = some (some (.long x), h) := Rr_rt d_MSh_cutDown_65 rfl
theorem r_MSh_cutDown_66 {l0 l2 : Value} {x : Int64} : Rr X d MSh_cutDown 66 [l0, .long x, l2] st h = Rr X d MSh_cutDown 67 [l0, .long x, l2] (.long x :: st) h := Rr_nx d_MSh_cutDown_66 rfl
theorem r_MSh_cutDown_67 {x : Int64} : Rr X d MSh_cutDown 67 L [.long x] h = some (some (.long x), h) := Rr_rt d_MSh_cutDown_67 rfl
theorem d_MSh_write_0 : decode MSh_write.2.2.1 0 = .ok (.iload_n 1, 1) := lkT_ok tk_MSh_write rfl
theorem d_MSh_write_1 : decode MSh_write.2.2.1 1 = .ok (.ifCond .lt 31, 3) := lkT_ok tk_MSh_write rfl
theorem d_MSh_write_4 : decode MSh_write.2.2.1 4 = .ok (.iload_n 1, 1) := lkT_ok tk_MSh_write rfl
theorem d_MSh_write_5 : decode MSh_write.2.2.1 5 = .ok (.aload_n 0, 1) := lkT_ok tk_MSh_write rfl
theorem d_MSh_write_6 : decode MSh_write.2.2.1 6 = .ok (.getfield 22, 3) := lkT_ok tk_MSh_write rfl
theorem d_MSh_write_9 : decode MSh_write.2.2.1 9 = .ok (.if_icmp .ge 23, 3) := lkT_ok tk_MSh_write rfl
theorem d_MSh_write_12 : decode MSh_write.2.2.1 12 = .ok (.iload_n 1, 1) := lkT_ok tk_MSh_write rfl
theorem d_MSh_write_13 : decode MSh_write.2.2.1 13 = .ok (.aload_n 0, 1) := lkT_ok tk_MSh_write rfl
theorem d_MSh_write_14 : decode MSh_write.2.2.1 14 = .ok (.getfield 11, 3) := lkT_ok tk_MSh_write rfl
theorem d_MSh_write_17 : decode MSh_write.2.2.1 17 = .ok (.arraylength, 1) := lkT_ok tk_MSh_write rfl
theorem d_MSh_write_18 : decode MSh_write.2.2.1 18 = .ok (.if_icmp .ge 14, 3) := lkT_ok tk_MSh_write rfl
theorem d_MSh_write_21 : decode MSh_write.2.2.1 21 = .ok (.aload_n 0, 1) := lkT_ok tk_MSh_write rfl
theorem d_MSh_write_22 : decode MSh_write.2.2.1 22 = .ok (.getfield 11, 3) := lkT_ok tk_MSh_write rfl
theorem d_MSh_write_25 : decode MSh_write.2.2.1 25 = .ok (.iload_n 1, 1) := lkT_ok tk_MSh_write rfl
theorem d_MSh_write_26 : decode MSh_write.2.2.1 26 = .ok (.aload_n 0, 1) := lkT_ok tk_MSh_write rfl
theorem d_MSh_write_27 : decode MSh_write.2.2.1 27 = .ok (.lload_n 2, 1) := lkT_ok tk_MSh_write rfl
theorem d_MSh_write_28 : decode MSh_write.2.2.1 28 = .ok (.invokevirtual 36, 3) := lkT_ok tk_MSh_write rfl
theorem d_MSh_write_31 : decode MSh_write.2.2.1 31 = .ok (.lastore, 1) := lkT_ok tk_MSh_write rfl
theorem d_MSh_write_32 : decode MSh_write.2.2.1 32 = .ok (.return_, 1) := lkT_ok tk_MSh_write rfl
theorem r_MSh_write_0 {l0 l2 l3 : Value} {x : Int32} : Rr X d MSh_write 0 [l0, .int x, l2, l3] st h = Rr X d MSh_write 1 [l0, .int x, l2, l3] (.int x :: st) h := Rr_nx d_MSh_write_0 rfl
theorem r_MSh_write_1 {x : Int32} : Rr X d MSh_write 1 L (.int x :: st) h = if x < 0 then Rr X d MSh_write 32 L st h else Rr X d MSh_write 4 L st h := R_if_lt d_MSh_write_1 (by decide)
theorem r_MSh_write_4 {l0 l2 l3 : Value} {x : Int32} : Rr X d MSh_write 4 [l0, .int x, l2, l3] st h = Rr X d MSh_write 5 [l0, .int x, l2, l3] (.int x :: st) h := Rr_nx d_MSh_write_4 rfl
theorem r_MSh_write_5 {l1 l2 l3 : Value} {x : Nat} : Rr X d MSh_write 5 [.ref x, l1, l2, l3] st h = Rr X d MSh_write 6 [.ref x, l1, l2, l3] (.ref x :: st) h := Rr_nx d_MSh_write_5 rfl
theorem r_MSh_write_6 {a : Nat} (hq : qI a 6 3 = true) : Rr X d MSh_write 6 L (.ref a :: st) (Wd mu la ro et) = Rr X d MSh_write 9 L (.int (mu a 3) :: st) (Wd mu la ro et) := R_gfI d_MSh_write_6 ff_6_22 hq
theorem r_MSh_write_9 {x y : Int32} : Rr X d MSh_write 9 L (.int y :: .int x :: st) h = if y ≤ x then Rr X d MSh_write 32 L st h else Rr X d MSh_write 12 L st h := R_ic_ge d_MSh_write_9 (by decide)
theorem r_MSh_write_12 {l0 l2 l3 : Value} {x : Int32} : Rr X d MSh_write 12 [l0, .int x, l2, l3] st h = Rr X d MSh_write 13 [l0, .int x, l2, l3] (.int x :: st) h := Rr_nx d_MSh_write_12 rfl
theorem r_MSh_write_13 {l1 l2 l3 : Value} {x : Nat} : Rr X d MSh_write 13 [.ref x, l1, l2, l3] st h = Rr X d MSh_write 14 [.ref x, l1, l2, l3] (.ref x :: st) h := Rr_nx d_MSh_write_13 rfl
theorem r_MSh_write_14 {a : Nat} (hq : (qR a 6 0).isSome = true) : Rr X d MSh_write 14 L (.ref a :: st) (Wd mu la ro et) = Rr X d MSh_write 17 L (.ref (qRd a 6 0) :: st) (Wd mu la ro et) := R_gfR d_MSh_write_14 ff_6_11 hq
theorem r_MSh_write_17 {a : Nat} (hq : (qL a).isSome = true) : Rr X d MSh_write 17 L (.ref a :: st) (Wd mu la ro et) = Rr X d MSh_write 18 L (.int (Int32.ofNat (qLd a)) :: st) (Wd mu la ro et) := R_lenW d_MSh_write_17 hq
theorem r_MSh_write_18 {x y : Int32} : Rr X d MSh_write 18 L (.int y :: .int x :: st) h = if y ≤ x then Rr X d MSh_write 32 L st h else Rr X d MSh_write 21 L st h := R_ic_ge d_MSh_write_18 (by decide)
theorem r_MSh_write_21 {l1 l2 l3 : Value} {x : Nat} : Rr X d MSh_write 21 [.ref x, l1, l2, l3] st h = Rr X d MSh_write 22 [.ref x, l1, l2, l3] (.ref x :: st) h := Rr_nx d_MSh_write_21 rfl
theorem r_MSh_write_22 {a : Nat} (hq : (qR a 6 0).isSome = true) : Rr X d MSh_write 22 L (.ref a :: st) (Wd mu la ro et) = Rr X d MSh_write 25 L (.ref (qRd a 6 0) :: st) (Wd mu la ro et) := R_gfR d_MSh_write_22 ff_6_11 hq
theorem r_MSh_write_25 {l0 l2 l3 : Value} {x : Int32} : Rr X d MSh_write 25 [l0, .int x, l2, l3] st h = Rr X d MSh_write 26 [l0, .int x, l2, l3] (.int x :: st) h := Rr_nx d_MSh_write_25 rfl
theorem r_MSh_write_26 {l1 l2 l3 : Value} {x : Nat} : Rr X d MSh_write 26 [.ref x, l1, l2, l3] st h = Rr X d MSh_write 27 [.ref x, l1, l2, l3] (.ref x :: st) h := Rr_nx d_MSh_write_26 rfl
theorem r_MSh_write_27 {l0 l1 l3 : Value} {x : Int64} : Rr X d MSh_write 27 [l0, l1, .long x, l3] st h = Rr X d MSh_write 28 [l0, l1, .long x, l3] (.long x :: st) h := Rr_nx d_MSh_write_27 rfl
theorem fc_6_36 : fC 6 36 = some (0, 6, 1, MSh_cutDown) := rfl
theorem r_MSh_write_28 {y0 : Int64} {a : Nat} (hO : qO a 6 = true) (hc : ckS st = true) : Rr X (d + 1) MSh_write 28 L (.long y0 :: .ref a :: st) (Wd mu la ro et) = (Rr X d MSh_cutDown 0 [.ref a, .long y0, mkU] [] (Wd mu la ro et)).bind fun q => Rr X (d + 1) MSh_write 31 L (psh q.1 st) q.2 := R_iv (av := [.long y0]) d_MSh_write_28 fc_6_36 hO (ckS_le hc) rfl (Nat.le_of_ble_eq_true rfl) (Nat.le_of_ble_eq_true rfl)
theorem r_MSh_write_31 {a : Nat} {j : Int32} {x : Int64} (hq : (qJ a).isSome = true) : Rr X d MSh_write 31 L (.long x :: .int j :: .ref a :: st) (Wd mu la ro et) = if j < 0 ∨ qJd a ≤ j.toNatClampNeg then none else Rr X d MSh_write 32 L st (Wd mu (upJ la a j.toNatClampNeg x) ro et) := R_lasW d_MSh_write_31 hq
theorem r_MSh_write_32 : Rr X d MSh_write 32 L [] h = some (none, h) := Rr_rt d_MSh_write_32 rfl
theorem d_MSh_read_0 : decode MSh_read.2.2.1 0 = .ok (.iload_n 1, 1) := lkT_ok tk_MSh_read rfl
theorem d_MSh_read_1 : decode MSh_read.2.2.1 1 = .ok (.ifCond .lt 29, 3) := lkT_ok tk_MSh_read rfl
theorem d_MSh_read_4 : decode MSh_read.2.2.1 4 = .ok (.iload_n 1, 1) := lkT_ok tk_MSh_read rfl
theorem d_MSh_read_5 : decode MSh_read.2.2.1 5 = .ok (.aload_n 0, 1) := lkT_ok tk_MSh_read rfl
theorem d_MSh_read_6 : decode MSh_read.2.2.1 6 = .ok (.getfield 22, 3) := lkT_ok tk_MSh_read rfl
theorem d_MSh_read_9 : decode MSh_read.2.2.1 9 = .ok (.if_icmp .ge 21, 3) := lkT_ok tk_MSh_read rfl
theorem d_MSh_read_12 : decode MSh_read.2.2.1 12 = .ok (.iload_n 1, 1) := lkT_ok tk_MSh_read rfl
theorem d_MSh_read_13 : decode MSh_read.2.2.1 13 = .ok (.aload_n 0, 1) := lkT_ok tk_MSh_read rfl
theorem d_MSh_read_14 : decode MSh_read.2.2.1 14 = .ok (.getfield 11, 3) := lkT_ok tk_MSh_read rfl
theorem d_MSh_read_17 : decode MSh_read.2.2.1 17 = .ok (.arraylength, 1) := lkT_ok tk_MSh_read rfl
theorem d_MSh_read_18 : decode MSh_read.2.2.1 18 = .ok (.if_icmp .ge 12, 3) := lkT_ok tk_MSh_read rfl
theorem d_MSh_read_21 : decode MSh_read.2.2.1 21 = .ok (.aload_n 0, 1) := lkT_ok tk_MSh_read rfl
theorem d_MSh_read_22 : decode MSh_read.2.2.1 22 = .ok (.getfield 11, 3) := lkT_ok tk_MSh_read rfl
theorem d_MSh_read_25 : decode MSh_read.2.2.1 25 = .ok (.iload_n 1, 1) := lkT_ok tk_MSh_read rfl
theorem d_MSh_read_26 : decode MSh_read.2.2.1 26 = .ok (.laload, 1) := lkT_ok tk_MSh_read rfl
theorem d_MSh_read_27 : decode MSh_read.2.2.1 27 = .ok (.goto 4, 3) := lkT_ok tk_MSh_read rfl
theorem d_MSh_read_30 : decode MSh_read.2.2.1 30 = .ok (.lconst 0, 1) := lkT_ok tk_MSh_read rfl
theorem d_MSh_read_31 : decode MSh_read.2.2.1 31 = .ok (.lreturn, 1) := lkT_ok tk_MSh_read rfl
theorem r_MSh_read_0 {l0 : Value} {x : Int32} : Rr X d MSh_read 0 [l0, .int x] st h = Rr X d MSh_read 1 [l0, .int x] (.int x :: st) h := Rr_nx d_MSh_read_0 rfl
theorem r_MSh_read_1 {x : Int32} : Rr X d MSh_read 1 L (.int x :: st) h = if x < 0 then Rr X d MSh_read 30 L st h else Rr X d MSh_read 4 L st h := R_if_lt d_MSh_read_1 (by decide)
theorem r_MSh_read_4 {l0 : Value} {x : Int32} : Rr X d MSh_read 4 [l0, .int x] st h = Rr X d MSh_read 5 [l0, .int x] (.int x :: st) h := Rr_nx d_MSh_read_4 rfl
theorem r_MSh_read_5 {l1 : Value} {x : Nat} : Rr X d MSh_read 5 [.ref x, l1] st h = Rr X d MSh_read 6 [.ref x, l1] (.ref x :: st) h := Rr_nx d_MSh_read_5 rfl
theorem r_MSh_read_6 {a : Nat} (hq : qI a 6 3 = true) : Rr X d MSh_read 6 L (.ref a :: st) (Wd mu la ro et) = Rr X d MSh_read 9 L (.int (mu a 3) :: st) (Wd mu la ro et) := R_gfI d_MSh_read_6 ff_6_22 hq
theorem r_MSh_read_9 {x y : Int32} : Rr X d MSh_read 9 L (.int y :: .int x :: st) h = if y ≤ x then Rr X d MSh_read 30 L st h else Rr X d MSh_read 12 L st h := R_ic_ge d_MSh_read_9 (by decide)
theorem r_MSh_read_12 {l0 : Value} {x : Int32} : Rr X d MSh_read 12 [l0, .int x] st h = Rr X d MSh_read 13 [l0, .int x] (.int x :: st) h := Rr_nx d_MSh_read_12 rfl
theorem r_MSh_read_13 {l1 : Value} {x : Nat} : Rr X d MSh_read 13 [.ref x, l1] st h = Rr X d MSh_read 14 [.ref x, l1] (.ref x :: st) h := Rr_nx d_MSh_read_13 rfl
theorem r_MSh_read_14 {a : Nat} (hq : (qR a 6 0).isSome = true) : Rr X d MSh_read 14 L (.ref a :: st) (Wd mu la ro et) = Rr X d MSh_read 17 L (.ref (qRd a 6 0) :: st) (Wd mu la ro et) := R_gfR d_MSh_read_14 ff_6_11 hq
theorem r_MSh_read_17 {a : Nat} (hq : (qL a).isSome = true) : Rr X d MSh_read 17 L (.ref a :: st) (Wd mu la ro et) = Rr X d MSh_read 18 L (.int (Int32.ofNat (qLd a)) :: st) (Wd mu la ro et) := R_lenW d_MSh_read_17 hq
theorem r_MSh_read_18 {x y : Int32} : Rr X d MSh_read 18 L (.int y :: .int x :: st) h = if y ≤ x then Rr X d MSh_read 30 L st h else Rr X d MSh_read 21 L st h := R_ic_ge d_MSh_read_18 (by decide)
theorem r_MSh_read_21 {l1 : Value} {x : Nat} : Rr X d MSh_read 21 [.ref x, l1] st h = Rr X d MSh_read 22 [.ref x, l1] (.ref x :: st) h := Rr_nx d_MSh_read_21 rfl
theorem r_MSh_read_22 {a : Nat} (hq : (qR a 6 0).isSome = true) : Rr X d MSh_read 22 L (.ref a :: st) (Wd mu la ro et) = Rr X d MSh_read 25 L (.ref (qRd a 6 0) :: st) (Wd mu la ro et) := R_gfR d_MSh_read_22 ff_6_11 hq
theorem r_MSh_read_25 {l0 : Value} {x : Int32} : Rr X d MSh_read 25 [l0, .int x] st h = Rr X d MSh_read 26 [l0, .int x] (.int x :: st) h := Rr_nx d_MSh_read_25 rfl
theorem r_MSh_read_26 {a : Nat} {j : Int32} (hq : (qJ a).isSome = true) : Rr X d MSh_read 26 L (.int j :: .ref a :: st) (Wd mu la ro et) = if j < 0 ∨ qJd a ≤ j.toNatClampNeg then none else Rr X d MSh_read 27 L (.long (la a j.toNatClampNeg) :: st) (Wd mu la ro et) := R_lalW d_MSh_read_26 hq
theorem r_MSh_read_27 : Rr X d MSh_read 27 L st h = Rr X d MSh_read 31 L st h := R_goto d_MSh_read_27 (by decide)
theorem r_MSh_read_30 : Rr X d MSh_read 30 L st h = Rr X d MSh_read 31 L (.long 0 :: st) h := Rr_nx d_MSh_read_30 rfl
theorem r_MSh_read_31 {x : Int64} : Rr X d MSh_read 31 L [.long x] h = some (some (.long x), h) := Rr_rt d_MSh_read_31 rfl
theorem d_MTo_element_0 : decode MTo_element.2.2.1 0 = .ok (.aload_n 0, 1) := lkT_ok tk_MTo_element rfl
theorem d_MTo_element_1 : decode MTo_element.2.2.1 1 = .ok (.iload_n 1, 1) := lkT_ok tk_MTo_element rfl
theorem d_MTo_element_2 : decode MTo_element.2.2.1 2 = .ok (.invokevirtual 212, 3) := lkT_ok tk_MTo_element rfl
theorem d_MTo_element_5 : decode MTo_element.2.2.1 5 = .ok (.astore_n 3, 1) := lkT_ok tk_MTo_element rfl
theorem d_MTo_element_6 : decode MTo_element.2.2.1 6 = .ok (.aload_n 3, 1) := lkT_ok tk_MTo_element rfl
theorem d_MTo_element_7 : decode MTo_element.2.2.1 7 = .ok (.ifnull 11, 3) := lkT_ok tk_MTo_element rfl
theorem d_MTo_element_10 : decode MTo_element.2.2.1 10 = .ok (.aload_n 3, 1) := lkT_ok tk_MTo_element rfl
theorem d_MTo_element_11 : decode MTo_element.2.2.1 11 = .ok (.iload_n 2, 1) := lkT_ok tk_MTo_element rfl
theorem d_MTo_element_12 : decode MTo_element.2.2.1 12 = .ok (.invokevirtual 261, 3) := lkT_ok tk_MTo_element rfl
theorem d_MTo_element_15 : decode MTo_element.2.2.1 15 = .ok (.ifCond .eq 9, 3) := lkT_ok tk_MTo_element rfl
theorem d_MTo_element_18 : decode MTo_element.2.2.1 18 = .ok (.ldc2_w 270, 3) := lkT_ok tk_MTo_element rfl
theorem d_MTo_element_21 : decode MTo_element.2.2.1 21 = .ok (.goto 8, 3) := lkT_ok tk_MTo_element rfl
theorem d_MTo_element_24 : decode MTo_element.2.2.1 24 = .ok (.aload_n 3, 1) := lkT_ok tk_MTo_element rfl
theorem d_MTo_element_25 : decode MTo_element.2.2.1 25 = .ok (.iload_n 2, 1) := lkT_ok tk_MTo_element rfl
theorem d_MTo_element_26 : decode MTo_element.2.2.1 26 = .ok (.invokevirtual 272, 3) := lkT_ok tk_MTo_element rfl
theorem d_MTo_element_29 : decode MTo_element.2.2.1 29 = .ok (.lreturn, 1) := lkT_ok tk_MTo_element rfl
theorem r_MTo_element_0 {l1 l2 l3 : Value} {x : Nat} : Rr X d MTo_element 0 [.ref x, l1, l2, l3] st h = Rr X d MTo_element 1 [.ref x, l1, l2, l3] (.ref x :: st) h := Rr_nx d_MTo_element_0 rfl
theorem r_MTo_element_1 {l0 l2 l3 : Value} {x : Int32} : Rr X d MTo_element 1 [l0, .int x, l2, l3] st h = Rr X d MTo_element 2 [l0, .int x, l2, l3] (.int x :: st) h := Rr_nx d_MTo_element_1 rfl
theorem r_MTo_element_2 {y0 : Int32} {a : Nat} (hO : qO a 9 = true) (hc : ckS st = true) : Rr X (d + 1) MTo_element 2 L (.int y0 :: .ref a :: st) (Wd mu la ro et) = (Rr X d MTo_shelfAt 0 [.ref a, .int y0] [] (Wd mu la ro et)).bind fun q => Rr X (d + 1) MTo_element 5 L (psh q.1 st) q.2 := R_iv (av := [.int y0]) d_MTo_element_2 fc_9_212 hO (ckS_le hc) rfl (Nat.le_of_ble_eq_true rfl) (Nat.le_of_ble_eq_true rfl)
theorem r_MTo_element_5 {l0 l1 l2 l3 : Value} {x : Nat} : Rr X d MTo_element 5 [l0, l1, l2, l3] (.ref x :: st) h = Rr X d MTo_element 6 (sL [l0, l1, l2, l3] 3 (.ref x)) st h := Rr_nx d_MTo_element_5 rfl
theorem r_MTo_element_5n {l0 l1 l2 l3 : Value} : Rr X d MTo_element 5 [l0, l1, l2, l3] (.null :: st) h = Rr X d MTo_element 6 (sL [l0, l1, l2, l3] 3 .null) st h := Rr_nx d_MTo_element_5 rfl
theorem r_MTo_element_6 {l0 l1 l2 : Value} {x : Nat} : Rr X d MTo_element 6 [l0, l1, l2, .ref x] st h = Rr X d MTo_element 7 [l0, l1, l2, .ref x] (.ref x :: st) h := Rr_nx d_MTo_element_6 rfl
theorem r_MTo_element_6n {l0 l1 l2 : Value} : Rr X d MTo_element 6 [l0, l1, l2, .null] st h = Rr X d MTo_element 7 [l0, l1, l2, .null] (.null :: st) h := Rr_nx d_MTo_element_6 rfl
theorem r_MTo_element_7 {x : Nat} : Rr X d MTo_element 7 L (.ref x :: st) h = Rr X d MTo_element 10 L st h := R_nul1 d_MTo_element_7
theorem r_MTo_element_7n : Rr X d MTo_element 7 L (.null :: st) h = Rr X d MTo_element 18 L st h := R_nul0 d_MTo_element_7 (by decide)
theorem r_MTo_element_10 {l0 l1 l2 : Value} {x : Nat} : Rr X d MTo_element 10 [l0, l1, l2, .ref x] st h = Rr X d MTo_element 11 [l0, l1, l2, .ref x] (.ref x :: st) h := Rr_nx d_MTo_element_10 rfl
theorem r_MTo_element_10n {l0 l1 l2 : Value} : Rr X d MTo_element 10 [l0, l1, l2, .null] st h = Rr X d MTo_element 11 [l0, l1, l2, .null] (.null :: st) h := Rr_nx d_MTo_element_10 rfl
theorem r_MTo_element_11 {l0 l1 l3 : Value} {x : Int32} : Rr X d MTo_element 11 [l0, l1, .int x, l3] st h = Rr X d MTo_element 12 [l0, l1, .int x, l3] (.int x :: st) h := Rr_nx d_MTo_element_11 rfl
theorem r_MTo_element_12 {y0 : Int32} {a : Nat} (hO : qO a 6 = true) (hc : ckS st = true) : Rr X (d + 1) MTo_element 12 L (.int y0 :: .ref a :: st) (Wd mu la ro et) = (Rr X d MSh_refusal 0 [.ref a, .int y0] [] (Wd mu la ro et)).bind fun q => Rr X (d + 1) MTo_element 15 L (psh q.1 st) q.2 := R_iv (av := [.int y0]) d_MTo_element_12 fc_9_261 hO (ckS_le hc) rfl (Nat.le_of_ble_eq_true rfl) (Nat.le_of_ble_eq_true rfl)
theorem r_MTo_element_15 {x : Int32} : Rr X d MTo_element 15 L (.int x :: st) h = if x = 0 then Rr X d MTo_element 24 L st h else Rr X d MTo_element 18 L st h := R_if_eq d_MTo_element_15 (by decide)
theorem r_MTo_element_18 : Rr X d MTo_element 18 L st h = Rr X d MTo_element 21 L (.long (-9223372036854775808) :: st) h := Rr_nx d_MTo_element_18 rfl
theorem r_MTo_element_21 : Rr X d MTo_element 21 L st h = Rr X d MTo_element 29 L st h := R_goto d_MTo_element_21 (by decide)
theorem r_MTo_element_24 {l0 l1 l2 : Value} {x : Nat} : Rr X d MTo_element 24 [l0, l1, l2, .ref x] st h = Rr X d MTo_element 25 [l0, l1, l2, .ref x] (.ref x :: st) h := Rr_nx d_MTo_element_24 rfl
theorem r_MTo_element_24n {l0 l1 l2 : Value} : Rr X d MTo_element 24 [l0, l1, l2, .null] st h = Rr X d MTo_element 25 [l0, l1, l2, .null] (.null :: st) h := Rr_nx d_MTo_element_24 rfl
theorem r_MTo_element_25 {l0 l1 l3 : Value} {x : Int32} : Rr X d MTo_element 25 [l0, l1, .int x, l3] st h = Rr X d MTo_element 26 [l0, l1, .int x, l3] (.int x :: st) h := Rr_nx d_MTo_element_25 rfl
theorem fc_9_272 : fC 9 272 = some (0, 6, 1, MSh_read) := rfl
theorem r_MTo_element_26 {y0 : Int32} {a : Nat} (hO : qO a 6 = true) (hc : ckS st = true) : Rr X (d + 1) MTo_element 26 L (.int y0 :: .ref a :: st) (Wd mu la ro et) = (Rr X d MSh_read 0 [.ref a, .int y0] [] (Wd mu la ro et)).bind fun q => Rr X (d + 1) MTo_element 29 L (psh q.1 st) q.2 := R_iv (av := [.int y0]) d_MTo_element_26 fc_9_272 hO (ckS_le hc) rfl (Nat.le_of_ble_eq_true rfl) (Nat.le_of_ble_eq_true rfl)
theorem r_MTo_element_29 {x : Int64} : Rr X d MTo_element 29 L [.long x] h = some (some (.long x), h) := Rr_rt d_MTo_element_29 rfl
theorem d_MRm_element_0 : decode MRm_element.2.2.1 0 = .ok (.aload_n 0, 1) := lkT_ok tk_MRm_element rfl
theorem d_MRm_element_1 : decode MRm_element.2.2.1 1 = .ok (.iload_n 1, 1) := lkT_ok tk_MRm_element rfl
theorem d_MRm_element_2 : decode MRm_element.2.2.1 2 = .ok (.iload_n 2, 1) := lkT_ok tk_MRm_element rfl
theorem d_MRm_element_3 : decode MRm_element.2.2.1 3 = .ok (.invokevirtual 401, 3) := lkT_ok tk_MRm_element rfl
theorem d_MRm_element_6 : decode MRm_element.2.2.1 6 = .ok (.ifCond .ge 9, 3) := lkT_ok tk_MRm_element rfl
theorem d_MRm_element_9 : decode MRm_element.2.2.1 9 = .ok (.ldc2_w 406, 3) := lkT_ok tk_MRm_element rfl
theorem d_MRm_element_12 : decode MRm_element.2.2.1 12 = .ok (.goto 14, 3) := lkT_ok tk_MRm_element rfl
theorem d_MRm_element_15 : decode MRm_element.2.2.1 15 = .ok (.aload_n 0, 1) := lkT_ok tk_MRm_element rfl
theorem d_MRm_element_16 : decode MRm_element.2.2.1 16 = .ok (.getfield 98, 3) := lkT_ok tk_MRm_element rfl
theorem d_MRm_element_19 : decode MRm_element.2.2.1 19 = .ok (.bipush 60, 2) := lkT_ok tk_MRm_element rfl
theorem d_MRm_element_21 : decode MRm_element.2.2.1 21 = .ok (.iload_n 1, 1) := lkT_ok tk_MRm_element rfl
theorem d_MRm_element_22 : decode MRm_element.2.2.1 22 = .ok (.imul, 1) := lkT_ok tk_MRm_element rfl
theorem d_MRm_element_23 : decode MRm_element.2.2.1 23 = .ok (.iload_n 2, 1) := lkT_ok tk_MRm_element rfl
theorem d_MRm_element_24 : decode MRm_element.2.2.1 24 = .ok (.iadd, 1) := lkT_ok tk_MRm_element rfl
theorem d_MRm_element_25 : decode MRm_element.2.2.1 25 = .ok (.laload, 1) := lkT_ok tk_MRm_element rfl
theorem d_MRm_element_26 : decode MRm_element.2.2.1 26 = .ok (.lreturn, 1) := lkT_ok tk_MRm_element rfl
theorem r_MRm_element_0 {l1 l2 : Value} {x : Nat} : Rr X d MRm_element 0 [.ref x, l1, l2] st h = Rr X d MRm_element 1 [.ref x, l1, l2] (.ref x :: st) h := Rr_nx d_MRm_element_0 rfl
theorem r_MRm_element_1 {l0 l2 : Value} {x : Int32} : Rr X d MRm_element 1 [l0, .int x, l2] st h = Rr X d MRm_element 2 [l0, .int x, l2] (.int x :: st) h := Rr_nx d_MRm_element_1 rfl
theorem r_MRm_element_2 {l0 l1 : Value} {x : Int32} : Rr X d MRm_element 2 [l0, l1, .int x] st h = Rr X d MRm_element 3 [l0, l1, .int x] (.int x :: st) h := Rr_nx d_MRm_element_2 rfl
theorem r_MRm_element_3 {y0 : Int32} {y1 : Int32} {a : Nat} (hO : qO a 10 = true) (hc : ckS st = true) : Rr X (d + 1) MRm_element 3 L (.int y1 :: .int y0 :: .ref a :: st) (Wd mu la ro et) = (Rr X d MRm_whyNoPlace 0 [.ref a, .int y0, .int y1] [] (Wd mu la ro et)).bind fun q => Rr X (d + 1) MRm_element 6 L (psh q.1 st) q.2 := R_iv (av := [.int y1, .int y0]) d_MRm_element_3 fc_10_401 hO (ckS_le hc) rfl (Nat.le_of_ble_eq_true rfl) (Nat.le_of_ble_eq_true rfl)
theorem r_MRm_element_6 {x : Int32} : Rr X d MRm_element 6 L (.int x :: st) h = if 0 ≤ x then Rr X d MRm_element 15 L st h else Rr X d MRm_element 9 L st h := R_if_ge d_MRm_element_6 (by decide)
theorem r_MRm_element_9 : Rr X d MRm_element 9 L st h = Rr X d MRm_element 12 L (.long (-9223372036854775808) :: st) h := Rr_nx d_MRm_element_9 rfl
theorem r_MRm_element_12 : Rr X d MRm_element 12 L st h = Rr X d MRm_element 26 L st h := R_goto d_MRm_element_12 (by decide)
theorem r_MRm_element_15 {l1 l2 : Value} {x : Nat} : Rr X d MRm_element 15 [.ref x, l1, l2] st h = Rr X d MRm_element 16 [.ref x, l1, l2] (.ref x :: st) h := Rr_nx d_MRm_element_15 rfl
theorem r_MRm_element_16 {a : Nat} (hq : (qR a 10 57).isSome = true) : Rr X d MRm_element 16 L (.ref a :: st) (Wd mu la ro et) = Rr X d MRm_element 19 L (.ref (qRd a 10 57) :: st) (Wd mu la ro et) := R_gfR d_MRm_element_16 ff_10_98 hq
theorem r_MRm_element_19 : Rr X d MRm_element 19 L st h = Rr X d MRm_element 21 L (.int (60) :: st) h := Rr_nx d_MRm_element_19 rfl
theorem r_MRm_element_21 {l0 l2 : Value} {x : Int32} : Rr X d MRm_element 21 [l0, .int x, l2] st h = Rr X d MRm_element 22 [l0, .int x, l2] (.int x :: st) h := Rr_nx d_MRm_element_21 rfl
theorem r_MRm_element_22 {x y : Int32} : Rr X d MRm_element 22 L (.int y :: .int x :: st) h = Rr X d MRm_element 23 L (.int (x * y) :: st) h := Rr_nx d_MRm_element_22 rfl
theorem r_MRm_element_23 {l0 l1 : Value} {x : Int32} : Rr X d MRm_element 23 [l0, l1, .int x] st h = Rr X d MRm_element 24 [l0, l1, .int x] (.int x :: st) h := Rr_nx d_MRm_element_23 rfl
theorem r_MRm_element_24 {x y : Int32} : Rr X d MRm_element 24 L (.int y :: .int x :: st) h = Rr X d MRm_element 25 L (.int (x + y) :: st) h := Rr_nx d_MRm_element_24 rfl
theorem r_MRm_element_25 {a : Nat} {j : Int32} (hq : (qJ a).isSome = true) : Rr X d MRm_element 25 L (.int j :: .ref a :: st) (Wd mu la ro et) = if j < 0 ∨ qJd a ≤ j.toNatClampNeg then none else Rr X d MRm_element 26 L (.long (la a j.toNatClampNeg) :: st) (Wd mu la ro et) := R_lalW d_MRm_element_25 hq
theorem r_MRm_element_26 {x : Int64} : Rr X d MRm_element 26 L [.long x] h = some (some (.long x), h) := Rr_rt d_MRm_element_26 rfl
end RULES
