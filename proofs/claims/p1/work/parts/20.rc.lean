section RULES
variable {X : Tok} {d : Nat} {st L : List Value} {h : Hp} {mu : Nat → Nat → Int32} {la : Nat → Nat → Int64} {ro : Nat → Nat → Option Nat} {et : Nat → Option va_E}
theorem d_MTo_isWithin_0 : decode MTo_isWithin.2.2.1 0 = .ok (.iload_n 0, 1) := by decide +kernel
theorem d_MTo_isWithin_1 : decode MTo_isWithin.2.2.1 1 = .ok (.iload_n 1, 1) := by decide +kernel
theorem d_MTo_isWithin_2 : decode MTo_isWithin.2.2.1 2 = .ok (.if_icmp .lt 12, 3) := by decide +kernel
theorem d_MTo_isWithin_5 : decode MTo_isWithin.2.2.1 5 = .ok (.iload_n 0, 1) := by decide +kernel
theorem d_MTo_isWithin_6 : decode MTo_isWithin.2.2.1 6 = .ok (.iload_n 2, 1) := by decide +kernel
theorem d_MTo_isWithin_7 : decode MTo_isWithin.2.2.1 7 = .ok (.if_icmp .gt 7, 3) := by decide +kernel
theorem d_MTo_isWithin_10 : decode MTo_isWithin.2.2.1 10 = .ok (.iconst 1, 1) := by decide +kernel
theorem d_MTo_isWithin_11 : decode MTo_isWithin.2.2.1 11 = .ok (.goto 4, 3) := by decide +kernel
theorem d_MTo_isWithin_14 : decode MTo_isWithin.2.2.1 14 = .ok (.iconst 0, 1) := by decide +kernel
theorem d_MTo_isWithin_15 : decode MTo_isWithin.2.2.1 15 = .ok (.ireturn, 1) := by decide +kernel
theorem r_MTo_isWithin_0 {l1 l2 : Value} {x : Int32} : Rr X d MTo_isWithin 0 [.int x, l1, l2] st h = Rr X d MTo_isWithin 1 [.int x, l1, l2] (.int x :: st) h := Rr_nx d_MTo_isWithin_0 rfl
theorem r_MTo_isWithin_1 {l0 l2 : Value} {x : Int32} : Rr X d MTo_isWithin 1 [l0, .int x, l2] st h = Rr X d MTo_isWithin 2 [l0, .int x, l2] (.int x :: st) h := Rr_nx d_MTo_isWithin_1 rfl
theorem r_MTo_isWithin_2 {x y : Int32} : Rr X d MTo_isWithin 2 L (.int y :: .int x :: st) h = if x < y then Rr X d MTo_isWithin 14 L st h else Rr X d MTo_isWithin 5 L st h := R_ic_lt d_MTo_isWithin_2 (by decide)
theorem r_MTo_isWithin_5 {l1 l2 : Value} {x : Int32} : Rr X d MTo_isWithin 5 [.int x, l1, l2] st h = Rr X d MTo_isWithin 6 [.int x, l1, l2] (.int x :: st) h := Rr_nx d_MTo_isWithin_5 rfl
theorem r_MTo_isWithin_6 {l0 l1 : Value} {x : Int32} : Rr X d MTo_isWithin 6 [l0, l1, .int x] st h = Rr X d MTo_isWithin 7 [l0, l1, .int x] (.int x :: st) h := Rr_nx d_MTo_isWithin_6 rfl
theorem r_MTo_isWithin_7 {x y : Int32} : Rr X d MTo_isWithin 7 L (.int y :: .int x :: st) h = if y < x then Rr X d MTo_isWithin 14 L st h else Rr X d MTo_isWithin 10 L st h := R_ic_gt d_MTo_isWithin_7 (by decide)
theorem r_MTo_isWithin_10 : Rr X d MTo_isWithin 10 L st h = Rr X d MTo_isWithin 11 L (.int (1) :: st) h := Rr_nx d_MTo_isWithin_10 rfl
theorem r_MTo_isWithin_11 : Rr X d MTo_isWithin 11 L st h = Rr X d MTo_isWithin 15 L st h := R_goto d_MTo_isWithin_11 (by decide)
theorem r_MTo_isWithin_14 : Rr X d MTo_isWithin 14 L st h = Rr X d MTo_isWithin 15 L (.int (0) :: st) h := Rr_nx d_MTo_isWithin_14 rfl
theorem r_MTo_isWithin_15 {x : Int32} : Rr X d MTo_isWithin 15 L [.int x] h = if x = 0 ∨ x = 1 then some (some (.int x), h) else none := R_zr d_MTo_isWithin_15 rfl
theorem d_MTo_isKeen_0 : decode MTo_isKeen.2.2.1 0 = .ok (.iload_n 0, 1) := by decide +kernel
theorem d_MTo_isKeen_1 : decode MTo_isKeen.2.2.1 1 = .ok (.bipush (-9), 2) := by decide +kernel
theorem d_MTo_isKeen_3 : decode MTo_isKeen.2.2.1 3 = .ok (.bipush 9, 2) := by decide +kernel
theorem d_MTo_isKeen_5 : decode MTo_isKeen.2.2.1 5 = .ok (.invokestatic 72, 3) := by decide +kernel
theorem d_MTo_isKeen_8 : decode MTo_isKeen.2.2.1 8 = .ok (.ireturn, 1) := by decide +kernel
theorem r_MTo_isKeen_0 {x : Int32} : Rr X d MTo_isKeen 0 [.int x] st h = Rr X d MTo_isKeen 1 [.int x] (.int x :: st) h := Rr_nx d_MTo_isKeen_0 rfl
theorem r_MTo_isKeen_1 : Rr X d MTo_isKeen 1 L st h = Rr X d MTo_isKeen 3 L (.int (-9) :: st) h := Rr_nx d_MTo_isKeen_1 rfl
theorem r_MTo_isKeen_3 : Rr X d MTo_isKeen 3 L st h = Rr X d MTo_isKeen 5 L (.int (9) :: st) h := Rr_nx d_MTo_isKeen_3 rfl
theorem fc_9_72 : fC 9 72 = some (1, 0, 3, MTo_isWithin) := rfl
theorem r_MTo_isKeen_5 {y0 : Int32} {y1 : Int32} {y2 : Int32} (hc : ckS st = true) : Rr X (d + 1) MTo_isKeen 5 L (.int y2 :: .int y1 :: .int y0 :: st) h = (Rr X d MTo_isWithin 0 [.int y0, .int y1, .int y2] [] h).bind fun q => Rr X (d + 1) MTo_isKeen 8 L (psh q.1 st) q.2 := R_is (av := [.int y2, .int y1, .int y0]) d_MTo_isKeen_5 (Or.inl fc_9_72) (ckS_le hc) rfl (Nat.le_of_ble_eq_true rfl) (Nat.le_of_ble_eq_true rfl)
theorem r_MTo_isKeen_8 {x : Int32} : Rr X d MTo_isKeen 8 L [.int x] h = if x = 0 ∨ x = 1 then some (some (.int x), h) else none := R_zr d_MTo_isKeen_8 rfl
theorem d_MTo_isStart_0 : decode MTo_isStart.2.2.1 0 = .ok (.iload_n 0, 1) := by decide +kernel
theorem d_MTo_isStart_1 : decode MTo_isStart.2.2.1 1 = .ok (.sipush (-999), 3) := by decide +kernel
theorem d_MTo_isStart_4 : decode MTo_isStart.2.2.1 4 = .ok (.sipush 999, 3) := by decide +kernel
theorem d_MTo_isStart_7 : decode MTo_isStart.2.2.1 7 = .ok (.invokestatic 72, 3) := by decide +kernel
theorem d_MTo_isStart_10 : decode MTo_isStart.2.2.1 10 = .ok (.ifCond .eq 18, 3) := by decide +kernel
theorem d_MTo_isStart_13 : decode MTo_isStart.2.2.1 13 = .ok (.iload_n 1, 1) := by decide +kernel
theorem d_MTo_isStart_14 : decode MTo_isStart.2.2.1 14 = .ok (.iconst 0, 1) := by decide +kernel
theorem d_MTo_isStart_15 : decode MTo_isStart.2.2.1 15 = .ok (.ldc_w 307, 3) := by decide +kernel
theorem d_MTo_isStart_18 : decode MTo_isStart.2.2.1 18 = .ok (.invokestatic 72, 3) := by decide +kernel
theorem d_MTo_isStart_21 : decode MTo_isStart.2.2.1 21 = .ok (.ifCond .eq 7, 3) := by decide +kernel
theorem d_MTo_isStart_24 : decode MTo_isStart.2.2.1 24 = .ok (.iconst 1, 1) := by decide +kernel
theorem d_MTo_isStart_25 : decode MTo_isStart.2.2.1 25 = .ok (.goto 4, 3) := by decide +kernel
theorem d_MTo_isStart_28 : decode MTo_isStart.2.2.1 28 = .ok (.iconst 0, 1) := by decide +kernel
theorem d_MTo_isStart_29 : decode MTo_isStart.2.2.1 29 = .ok (.ireturn, 1) := by decide +kernel
theorem r_MTo_isStart_0 {l1 : Value} {x : Int32} : Rr X d MTo_isStart 0 [.int x, l1] st h = Rr X d MTo_isStart 1 [.int x, l1] (.int x :: st) h := Rr_nx d_MTo_isStart_0 rfl
theorem r_MTo_isStart_1 : Rr X d MTo_isStart 1 L st h = Rr X d MTo_isStart 4 L (.int (-999) :: st) h := Rr_nx d_MTo_isStart_1 rfl
theorem r_MTo_isStart_4 : Rr X d MTo_isStart 4 L st h = Rr X d MTo_isStart 7 L (.int (999) :: st) h := Rr_nx d_MTo_isStart_4 rfl
theorem r_MTo_isStart_7 {y0 : Int32} {y1 : Int32} {y2 : Int32} (hc : ckS st = true) : Rr X (d + 1) MTo_isStart 7 L (.int y2 :: .int y1 :: .int y0 :: st) h = (Rr X d MTo_isWithin 0 [.int y0, .int y1, .int y2] [] h).bind fun q => Rr X (d + 1) MTo_isStart 10 L (psh q.1 st) q.2 := R_is (av := [.int y2, .int y1, .int y0]) d_MTo_isStart_7 (Or.inl fc_9_72) (ckS_le hc) rfl (Nat.le_of_ble_eq_true rfl) (Nat.le_of_ble_eq_true rfl)
theorem r_MTo_isStart_10 {x : Int32} : Rr X d MTo_isStart 10 L (.int x :: st) h = if x = 0 then Rr X d MTo_isStart 28 L st h else Rr X d MTo_isStart 13 L st h := R_if_eq d_MTo_isStart_10 (by decide)
theorem r_MTo_isStart_13 {l0 : Value} {x : Int32} : Rr X d MTo_isStart 13 [l0, .int x] st h = Rr X d MTo_isStart 14 [l0, .int x] (.int x :: st) h := Rr_nx d_MTo_isStart_13 rfl
theorem r_MTo_isStart_14 : Rr X d MTo_isStart 14 L st h = Rr X d MTo_isStart 15 L (.int (0) :: st) h := Rr_nx d_MTo_isStart_14 rfl
theorem r_MTo_isStart_15 : Rr X d MTo_isStart 15 L st h = Rr X d MTo_isStart 18 L (.int (999999) :: st) h := Rr_nx d_MTo_isStart_15 rfl
theorem r_MTo_isStart_18 {y0 : Int32} {y1 : Int32} {y2 : Int32} (hc : ckS st = true) : Rr X (d + 1) MTo_isStart 18 L (.int y2 :: .int y1 :: .int y0 :: st) h = (Rr X d MTo_isWithin 0 [.int y0, .int y1, .int y2] [] h).bind fun q => Rr X (d + 1) MTo_isStart 21 L (psh q.1 st) q.2 := R_is (av := [.int y2, .int y1, .int y0]) d_MTo_isStart_18 (Or.inl fc_9_72) (ckS_le hc) rfl (Nat.le_of_ble_eq_true rfl) (Nat.le_of_ble_eq_true rfl)
theorem r_MTo_isStart_21 {x : Int32} : Rr X d MTo_isStart 21 L (.int x :: st) h = if x = 0 then Rr X d MTo_isStart 28 L st h else Rr X d MTo_isStart 24 L st h := R_if_eq d_MTo_isStart_21 (by decide)
theorem r_MTo_isStart_24 : Rr X d MTo_isStart 24 L st h = Rr X d MTo_isStart 25 L (.int (1) :: st) h := Rr_nx d_MTo_isStart_24 rfl
theorem r_MTo_isStart_25 : Rr X d MTo_isStart 25 L st h = Rr X d MTo_isStart 29 L st h := R_goto d_MTo_isStart_25 (by decide)
theorem r_MTo_isStart_28 : Rr X d MTo_isStart 28 L st h = Rr X d MTo_isStart 29 L (.int (0) :: st) h := Rr_nx d_MTo_isStart_28 rfl
theorem r_MTo_isStart_29 {x : Int32} : Rr X d MTo_isStart 29 L [.int x] h = if x = 0 ∨ x = 1 then some (some (.int x), h) else none := R_zr d_MTo_isStart_29 rfl
theorem d_MTo_stoneAt_0 : decode MTo_stoneAt.2.2.1 0 = .ok (.iload_n 1, 1) := by decide +kernel
theorem d_MTo_stoneAt_1 : decode MTo_stoneAt.2.2.1 1 = .ok (.iconst 0, 1) := by decide +kernel
theorem d_MTo_stoneAt_2 : decode MTo_stoneAt.2.2.1 2 = .ok (.aload_n 0, 1) := by decide +kernel
theorem d_MTo_stoneAt_3 : decode MTo_stoneAt.2.2.1 3 = .ok (.getfield 84, 3) := by decide +kernel
theorem d_MTo_stoneAt_6 : decode MTo_stoneAt.2.2.1 6 = .ok (.iconst 1, 1) := by decide +kernel
theorem d_MTo_stoneAt_7 : decode MTo_stoneAt.2.2.1 7 = .ok (.isub, 1) := by decide +kernel
theorem d_MTo_stoneAt_8 : decode MTo_stoneAt.2.2.1 8 = .ok (.invokestatic 72, 3) := by decide +kernel
theorem d_MTo_stoneAt_11 : decode MTo_stoneAt.2.2.1 11 = .ok (.ifCond .eq 21, 3) := by decide +kernel
theorem d_MTo_stoneAt_14 : decode MTo_stoneAt.2.2.1 14 = .ok (.iload_n 1, 1) := by decide +kernel
theorem d_MTo_stoneAt_15 : decode MTo_stoneAt.2.2.1 15 = .ok (.aload_n 0, 1) := by decide +kernel
theorem d_MTo_stoneAt_16 : decode MTo_stoneAt.2.2.1 16 = .ok (.getfield 18, 3) := by decide +kernel
theorem d_MTo_stoneAt_19 : decode MTo_stoneAt.2.2.1 19 = .ok (.arraylength, 1) := by decide +kernel
theorem d_MTo_stoneAt_20 : decode MTo_stoneAt.2.2.1 20 = .ok (.if_icmp .ge 12, 3) := by decide +kernel
theorem d_MTo_stoneAt_23 : decode MTo_stoneAt.2.2.1 23 = .ok (.aload_n 0, 1) := by decide +kernel
theorem d_MTo_stoneAt_24 : decode MTo_stoneAt.2.2.1 24 = .ok (.getfield 18, 3) := by decide +kernel
theorem d_MTo_stoneAt_27 : decode MTo_stoneAt.2.2.1 27 = .ok (.iload_n 1, 1) := by decide +kernel
theorem d_MTo_stoneAt_28 : decode MTo_stoneAt.2.2.1 28 = .ok (.aaload, 1) := by decide +kernel
theorem d_MTo_stoneAt_29 : decode MTo_stoneAt.2.2.1 29 = .ok (.goto 4, 3) := by decide +kernel
theorem d_MTo_stoneAt_32 : decode MTo_stoneAt.2.2.1 32 = .ok (.aconst_null, 1) := by decide +kernel
theorem d_MTo_stoneAt_33 : decode MTo_stoneAt.2.2.1 33 = .ok (.areturn, 1) := by decide +kernel
theorem r_MTo_stoneAt_0 {l0 : Value} {x : Int32} : Rr X d MTo_stoneAt 0 [l0, .int x] st h = Rr X d MTo_stoneAt 1 [l0, .int x] (.int x :: st) h := Rr_nx d_MTo_stoneAt_0 rfl
theorem r_MTo_stoneAt_1 : Rr X d MTo_stoneAt 1 L st h = Rr X d MTo_stoneAt 2 L (.int (0) :: st) h := Rr_nx d_MTo_stoneAt_1 rfl
theorem r_MTo_stoneAt_2 {l1 : Value} {x : Nat} : Rr X d MTo_stoneAt 2 [.ref x, l1] st h = Rr X d MTo_stoneAt 3 [.ref x, l1] (.ref x :: st) h := Rr_nx d_MTo_stoneAt_2 rfl
theorem ff_9_84 : fF 9 84 = some (9, 9, 0, 0) := rfl
theorem r_MTo_stoneAt_3 {a : Nat} (hq : qI a 9 9 = true) : Rr X d MTo_stoneAt 3 L (.ref a :: st) (Wd mu la ro et) = Rr X d MTo_stoneAt 6 L (.int (mu a 9) :: st) (Wd mu la ro et) := R_gfI d_MTo_stoneAt_3 ff_9_84 hq
theorem r_MTo_stoneAt_6 : Rr X d MTo_stoneAt 6 L st h = Rr X d MTo_stoneAt 7 L (.int (1) :: st) h := Rr_nx d_MTo_stoneAt_6 rfl
theorem r_MTo_stoneAt_7 {x y : Int32} : Rr X d MTo_stoneAt 7 L (.int y :: .int x :: st) h = Rr X d MTo_stoneAt 8 L (.int (x - y) :: st) h := Rr_nx d_MTo_stoneAt_7 rfl
theorem r_MTo_stoneAt_8 {y0 : Int32} {y1 : Int32} {y2 : Int32} (hc : ckS st = true) : Rr X (d + 1) MTo_stoneAt 8 L (.int y2 :: .int y1 :: .int y0 :: st) h = (Rr X d MTo_isWithin 0 [.int y0, .int y1, .int y2] [] h).bind fun q => Rr X (d + 1) MTo_stoneAt 11 L (psh q.1 st) q.2 := R_is (av := [.int y2, .int y1, .int y0]) d_MTo_stoneAt_8 (Or.inl fc_9_72) (ckS_le hc) rfl (Nat.le_of_ble_eq_true rfl) (Nat.le_of_ble_eq_true rfl)
theorem r_MTo_stoneAt_11 {x : Int32} : Rr X d MTo_stoneAt 11 L (.int x :: st) h = if x = 0 then Rr X d MTo_stoneAt 32 L st h else Rr X d MTo_stoneAt 14 L st h := R_if_eq d_MTo_stoneAt_11 (by decide)
theorem r_MTo_stoneAt_14 {l0 : Value} {x : Int32} : Rr X d MTo_stoneAt 14 [l0, .int x] st h = Rr X d MTo_stoneAt 15 [l0, .int x] (.int x :: st) h := Rr_nx d_MTo_stoneAt_14 rfl
theorem r_MTo_stoneAt_15 {l1 : Value} {x : Nat} : Rr X d MTo_stoneAt 15 [.ref x, l1] st h = Rr X d MTo_stoneAt 16 [.ref x, l1] (.ref x :: st) h := Rr_nx d_MTo_stoneAt_15 rfl
theorem ff_9_18 : fF 9 18 = some (9, 1, 1, 1) := rfl
theorem r_MTo_stoneAt_16 {a : Nat} (hq : (qR a 9 1).isSome = true) : Rr X d MTo_stoneAt 16 L (.ref a :: st) (Wd mu la ro et) = Rr X d MTo_stoneAt 19 L (.ref (qRd a 9 1) :: st) (Wd mu la ro et) := R_gfR d_MTo_stoneAt_16 ff_9_18 hq
theorem r_MTo_stoneAt_19 {a : Nat} (hq : (qL a).isSome = true) : Rr X d MTo_stoneAt 19 L (.ref a :: st) (Wd mu la ro et) = Rr X d MTo_stoneAt 20 L (.int (Int32.ofNat (qLd a)) :: st) (Wd mu la ro et) := R_lenW d_MTo_stoneAt_19 hq
theorem r_MTo_stoneAt_20 {x y : Int32} : Rr X d MTo_stoneAt 20 L (.int y :: .int x :: st) h = if y ≤ x then Rr X d MTo_stoneAt 32 L st h else Rr X d MTo_stoneAt 23 L st h := R_ic_ge d_MTo_stoneAt_20 (by decide)
theorem r_MTo_stoneAt_23 {l1 : Value} {x : Nat} : Rr X d MTo_stoneAt 23 [.ref x, l1] st h = Rr X d MTo_stoneAt 24 [.ref x, l1] (.ref x :: st) h := Rr_nx d_MTo_stoneAt_23 rfl
theorem r_MTo_stoneAt_24 {a : Nat} (hq : (qR a 9 1).isSome = true) : Rr X d MTo_stoneAt 24 L (.ref a :: st) (Wd mu la ro et) = Rr X d MTo_stoneAt 27 L (.ref (qRd a 9 1) :: st) (Wd mu la ro et) := R_gfR d_MTo_stoneAt_24 ff_9_18 hq
theorem r_MTo_stoneAt_27 {l0 : Value} {x : Int32} : Rr X d MTo_stoneAt 27 [l0, .int x] st h = Rr X d MTo_stoneAt 28 [l0, .int x] (.int x :: st) h := Rr_nx d_MTo_stoneAt_27 rfl
theorem r_MTo_stoneAt_28 {a : Nat} {j : Int32} (hq : (qQ a).isSome = true) : Rr X d MTo_stoneAt 28 L (.int j :: .ref a :: st) (Wd mu la ro et) = if j < 0 ∨ qQd a ≤ j.toNatClampNeg then none else Rr X d MTo_stoneAt 29 L (va_rf (ro a j.toNatClampNeg) :: st) (Wd mu la ro et) := R_aalW d_MTo_stoneAt_28 hq
theorem r_MTo_stoneAt_29 : Rr X d MTo_stoneAt 29 L st h = Rr X d MTo_stoneAt 33 L st h := R_goto d_MTo_stoneAt_29 (by decide)
theorem r_MTo_stoneAt_32 : Rr X d MTo_stoneAt 32 L st h = Rr X d MTo_stoneAt 33 L (.null :: st) h := Rr_nx d_MTo_stoneAt_32 rfl
theorem r_MTo_stoneAt_33 {x : Nat} : Rr X d MTo_stoneAt 33 L [.ref x] h = some (some (.ref x), h) := Rr_rt d_MTo_stoneAt_33 rfl
theorem r_MTo_stoneAt_33n : Rr X d MTo_stoneAt 33 L [.null] h = some (some .null, h) := Rr_rt d_MTo_stoneAt_33 rfl
theorem d_MTo_floorAt_0 : decode MTo_floorAt.2.2.1 0 = .ok (.iload_n 1, 1) := by decide +kernel
theorem d_MTo_floorAt_1 : decode MTo_floorAt.2.2.1 1 = .ok (.iconst 0, 1) := by decide +kernel
theorem d_MTo_floorAt_2 : decode MTo_floorAt.2.2.1 2 = .ok (.aload_n 0, 1) := by decide +kernel
theorem d_MTo_floorAt_3 : decode MTo_floorAt.2.2.1 3 = .ok (.getfield 127, 3) := by decide +kernel
theorem d_MTo_floorAt_6 : decode MTo_floorAt.2.2.1 6 = .ok (.iconst 1, 1) := by decide +kernel
theorem d_MTo_floorAt_7 : decode MTo_floorAt.2.2.1 7 = .ok (.isub, 1) := by decide +kernel
theorem d_MTo_floorAt_8 : decode MTo_floorAt.2.2.1 8 = .ok (.invokestatic 72, 3) := by decide +kernel
theorem d_MTo_floorAt_11 : decode MTo_floorAt.2.2.1 11 = .ok (.ifCond .eq 21, 3) := by decide +kernel
theorem d_MTo_floorAt_14 : decode MTo_floorAt.2.2.1 14 = .ok (.iload_n 1, 1) := by decide +kernel
theorem d_MTo_floorAt_15 : decode MTo_floorAt.2.2.1 15 = .ok (.aload_n 0, 1) := by decide +kernel
theorem d_MTo_floorAt_16 : decode MTo_floorAt.2.2.1 16 = .ok (.getfield 24, 3) := by decide +kernel
theorem d_MTo_floorAt_19 : decode MTo_floorAt.2.2.1 19 = .ok (.arraylength, 1) := by decide +kernel
theorem d_MTo_floorAt_20 : decode MTo_floorAt.2.2.1 20 = .ok (.if_icmp .ge 12, 3) := by decide +kernel
theorem d_MTo_floorAt_23 : decode MTo_floorAt.2.2.1 23 = .ok (.aload_n 0, 1) := by decide +kernel
theorem d_MTo_floorAt_24 : decode MTo_floorAt.2.2.1 24 = .ok (.getfield 24, 3) := by decide +kernel
theorem d_MTo_floorAt_27 : decode MTo_floorAt.2.2.1 27 = .ok (.iload_n 1, 1) := by decide +kernel
theorem d_MTo_floorAt_28 : decode MTo_floorAt.2.2.1 28 = .ok (.aaload, 1) := by decide +kernel
theorem d_MTo_floorAt_29 : decode MTo_floorAt.2.2.1 29 = .ok (.goto 4, 3) := by decide +kernel
theorem d_MTo_floorAt_32 : decode MTo_floorAt.2.2.1 32 = .ok (.aconst_null, 1) := by decide +kernel
theorem d_MTo_floorAt_33 : decode MTo_floorAt.2.2.1 33 = .ok (.areturn, 1) := by decide +kernel
theorem r_MTo_floorAt_0 {l0 : Value} {x : Int32} : Rr X d MTo_floorAt 0 [l0, .int x] st h = Rr X d MTo_floorAt 1 [l0, .int x] (.int x :: st) h := Rr_nx d_MTo_floorAt_0 rfl
theorem r_MTo_floorAt_1 : Rr X d MTo_floorAt 1 L st h = Rr X d MTo_floorAt 2 L (.int (0) :: st) h := Rr_nx d_MTo_floorAt_1 rfl
theorem r_MTo_floorAt_2 {l1 : Value} {x : Nat} : Rr X d MTo_floorAt 2 [.ref x, l1] st h = Rr X d MTo_floorAt 3 [.ref x, l1] (.ref x :: st) h := Rr_nx d_MTo_floorAt_2 rfl
theorem ff_9_127 : fF 9 127 = some (9, 10, 0, 0) := rfl
theorem r_MTo_floorAt_3 {a : Nat} (hq : qI a 9 10 = true) : Rr X d MTo_floorAt 3 L (.ref a :: st) (Wd mu la ro et) = Rr X d MTo_floorAt 6 L (.int (mu a 10) :: st) (Wd mu la ro et) := R_gfI d_MTo_floorAt_3 ff_9_127 hq
theorem r_MTo_floorAt_6 : Rr X d MTo_floorAt 6 L st h = Rr X d MTo_floorAt 7 L (.int (1) :: st) h := Rr_nx d_MTo_floorAt_6 rfl
theorem r_MTo_floorAt_7 {x y : Int32} : Rr X d MTo_floorAt 7 L (.int y :: .int x :: st) h = Rr X d MTo_floorAt 8 L (.int (x - y) :: st) h := Rr_nx d_MTo_floorAt_7 rfl
theorem r_MTo_floorAt_8 {y0 : Int32} {y1 : Int32} {y2 : Int32} (hc : ckS st = true) : Rr X (d + 1) MTo_floorAt 8 L (.int y2 :: .int y1 :: .int y0 :: st) h = (Rr X d MTo_isWithin 0 [.int y0, .int y1, .int y2] [] h).bind fun q => Rr X (d + 1) MTo_floorAt 11 L (psh q.1 st) q.2 := R_is (av := [.int y2, .int y1, .int y0]) d_MTo_floorAt_8 (Or.inl fc_9_72) (ckS_le hc) rfl (Nat.le_of_ble_eq_true rfl) (Nat.le_of_ble_eq_true rfl)
theorem r_MTo_floorAt_11 {x : Int32} : Rr X d MTo_floorAt 11 L (.int x :: st) h = if x = 0 then Rr X d MTo_floorAt 32 L st h else Rr X d MTo_floorAt 14 L st h := R_if_eq d_MTo_floorAt_11 (by decide)
theorem r_MTo_floorAt_14 {l0 : Value} {x : Int32} : Rr X d MTo_floorAt 14 [l0, .int x] st h = Rr X d MTo_floorAt 15 [l0, .int x] (.int x :: st) h := Rr_nx d_MTo_floorAt_14 rfl
theorem r_MTo_floorAt_15 {l1 : Value} {x : Nat} : Rr X d MTo_floorAt 15 [.ref x, l1] st h = Rr X d MTo_floorAt 16 [.ref x, l1] (.ref x :: st) h := Rr_nx d_MTo_floorAt_15 rfl
theorem ff_9_24 : fF 9 24 = some (9, 2, 1, 1) := rfl
theorem r_MTo_floorAt_16 {a : Nat} (hq : (qR a 9 2).isSome = true) : Rr X d MTo_floorAt 16 L (.ref a :: st) (Wd mu la ro et) = Rr X d MTo_floorAt 19 L (.ref (qRd a 9 2) :: st) (Wd mu la ro et) := R_gfR d_MTo_floorAt_16 ff_9_24 hq
theorem r_MTo_floorAt_19 {a : Nat} (hq : (qL a).isSome = true) : Rr X d MTo_floorAt 19 L (.ref a :: st) (Wd mu la ro et) = Rr X d MTo_floorAt 20 L (.int (Int32.ofNat (qLd a)) :: st) (Wd mu la ro et) := R_lenW d_MTo_floorAt_19 hq
theorem r_MTo_floorAt_20 {x y : Int32} : Rr X d MTo_floorAt 20 L (.int y :: .int x :: st) h = if y ≤ x then Rr X d MTo_floorAt 32 L st h else Rr X d MTo_floorAt 23 L st h := R_ic_ge d_MTo_floorAt_20 (by decide)
theorem r_MTo_floorAt_23 {l1 : Value} {x : Nat} : Rr X d MTo_floorAt 23 [.ref x, l1] st h = Rr X d MTo_floorAt 24 [.ref x, l1] (.ref x :: st) h := Rr_nx d_MTo_floorAt_23 rfl
theorem r_MTo_floorAt_24 {a : Nat} (hq : (qR a 9 2).isSome = true) : Rr X d MTo_floorAt 24 L (.ref a :: st) (Wd mu la ro et) = Rr X d MTo_floorAt 27 L (.ref (qRd a 9 2) :: st) (Wd mu la ro et) := R_gfR d_MTo_floorAt_24 ff_9_24 hq
theorem r_MTo_floorAt_27 {l0 : Value} {x : Int32} : Rr X d MTo_floorAt 27 [l0, .int x] st h = Rr X d MTo_floorAt 28 [l0, .int x] (.int x :: st) h := Rr_nx d_MTo_floorAt_27 rfl
theorem r_MTo_floorAt_28 {a : Nat} {j : Int32} (hq : (qQ a).isSome = true) : Rr X d MTo_floorAt 28 L (.int j :: .ref a :: st) (Wd mu la ro et) = if j < 0 ∨ qQd a ≤ j.toNatClampNeg then none else Rr X d MTo_floorAt 29 L (va_rf (ro a j.toNatClampNeg) :: st) (Wd mu la ro et) := R_aalW d_MTo_floorAt_28 hq
theorem r_MTo_floorAt_29 : Rr X d MTo_floorAt 29 L st h = Rr X d MTo_floorAt 33 L st h := R_goto d_MTo_floorAt_29 (by decide)
theorem r_MTo_floorAt_32 : Rr X d MTo_floorAt 32 L st h = Rr X d MTo_floorAt 33 L (.null :: st) h := Rr_nx d_MTo_floorAt_32 rfl
theorem r_MTo_floorAt_33 {x : Nat} : Rr X d MTo_floorAt 33 L [.ref x] h = some (some (.ref x), h) := Rr_rt d_MTo_floorAt_33 rfl
theorem r_MTo_floorAt_33n : Rr X d MTo_floorAt 33 L [.null] h = some (some .null, h) := Rr_rt d_MTo_floorAt_33 rfl
theorem d_MTo_shelfAt_0 : decode MTo_shelfAt.2.2.1 0 = .ok (.iload_n 1, 1) := by decide +kernel
theorem d_MTo_shelfAt_1 : decode MTo_shelfAt.2.2.1 1 = .ok (.iconst 0, 1) := by decide +kernel
theorem d_MTo_shelfAt_2 : decode MTo_shelfAt.2.2.1 2 = .ok (.aload_n 0, 1) := by decide +kernel
theorem d_MTo_shelfAt_3 : decode MTo_shelfAt.2.2.1 3 = .ok (.getfield 30, 3) := by decide +kernel
theorem d_MTo_shelfAt_6 : decode MTo_shelfAt.2.2.1 6 = .ok (.arraylength, 1) := by decide +kernel
theorem d_MTo_shelfAt_7 : decode MTo_shelfAt.2.2.1 7 = .ok (.iconst 1, 1) := by decide +kernel
theorem d_MTo_shelfAt_8 : decode MTo_shelfAt.2.2.1 8 = .ok (.isub, 1) := by decide +kernel
theorem d_MTo_shelfAt_9 : decode MTo_shelfAt.2.2.1 9 = .ok (.invokestatic 72, 3) := by decide +kernel
theorem d_MTo_shelfAt_12 : decode MTo_shelfAt.2.2.1 12 = .ok (.ifCond .eq 12, 3) := by decide +kernel
theorem d_MTo_shelfAt_15 : decode MTo_shelfAt.2.2.1 15 = .ok (.aload_n 0, 1) := by decide +kernel
theorem d_MTo_shelfAt_16 : decode MTo_shelfAt.2.2.1 16 = .ok (.getfield 30, 3) := by decide +kernel
theorem d_MTo_shelfAt_19 : decode MTo_shelfAt.2.2.1 19 = .ok (.iload_n 1, 1) := by decide +kernel
theorem d_MTo_shelfAt_20 : decode MTo_shelfAt.2.2.1 20 = .ok (.aaload, 1) := by decide +kernel
theorem d_MTo_shelfAt_21 : decode MTo_shelfAt.2.2.1 21 = .ok (.goto 4, 3) := by decide +kernel
theorem d_MTo_shelfAt_24 : decode MTo_shelfAt.2.2.1 24 = .ok (.aconst_null, 1) := by decide +kernel
theorem d_MTo_shelfAt_25 : decode MTo_shelfAt.2.2.1 25 = .ok (.areturn, 1) := by decide +kernel
theorem r_MTo_shelfAt_0 {l0 : Value} {x : Int32} : Rr X d MTo_shelfAt 0 [l0, .int x] st h = Rr X d MTo_shelfAt 1 [l0, .int x] (.int x :: st) h := Rr_nx d_MTo_shelfAt_0 rfl
theorem r_MTo_shelfAt_1 : Rr X d MTo_shelfAt 1 L st h = Rr X d MTo_shelfAt 2 L (.int (0) :: st) h := Rr_nx d_MTo_shelfAt_1 rfl
theorem r_MTo_shelfAt_2 {l1 : Value} {x : Nat} : Rr X d MTo_shelfAt 2 [.ref x, l1] st h = Rr X d MTo_shelfAt 3 [.ref x, l1] (.ref x :: st) h := Rr_nx d_MTo_shelfAt_2 rfl
theorem ff_9_30 : fF 9 30 = some (9, 3, 1, 1) := rfl
theorem r_MTo_shelfAt_3 {a : Nat} (hq : (qR a 9 3).isSome = true) : Rr X d MTo_shelfAt 3 L (.ref a :: st) (Wd mu la ro et) = Rr X d MTo_shelfAt 6 L (.ref (qRd a 9 3) :: st) (Wd mu la ro et) := R_gfR d_MTo_shelfAt_3 ff_9_30 hq
theorem r_MTo_shelfAt_6 {a : Nat} (hq : (qL a).isSome = true) : Rr X d MTo_shelfAt 6 L (.ref a :: st) (Wd mu la ro et) = Rr X d MTo_shelfAt 7 L (.int (Int32.ofNat (qLd a)) :: st) (Wd mu la ro et) := R_lenW d_MTo_shelfAt_6 hq
theorem r_MTo_shelfAt_7 : Rr X d MTo_shelfAt 7 L st h = Rr X d MTo_shelfAt 8 L (.int (1) :: st) h := Rr_nx d_MTo_shelfAt_7 rfl
theorem r_MTo_shelfAt_8 {x y : Int32} : Rr X d MTo_shelfAt 8 L (.int y :: .int x :: st) h = Rr X d MTo_shelfAt 9 L (.int (x - y) :: st) h := Rr_nx d_MTo_shelfAt_8 rfl
theorem r_MTo_shelfAt_9 {y0 : Int32} {y1 : Int32} {y2 : Int32} (hc : ckS st = true) : Rr X (d + 1) MTo_shelfAt 9 L (.int y2 :: .int y1 :: .int y0 :: st) h = (Rr X d MTo_isWithin 0 [.int y0, .int y1, .int y2] [] h).bind fun q => Rr X (d + 1) MTo_shelfAt 12 L (psh q.1 st) q.2 := R_is (av := [.int y2, .int y1, .int y0]) d_MTo_shelfAt_9 (Or.inl fc_9_72) (ckS_le hc) rfl (Nat.le_of_ble_eq_true rfl) (Nat.le_of_ble_eq_true rfl)
theorem r_MTo_shelfAt_12 {x : Int32} : Rr X d MTo_shelfAt 12 L (.int x :: st) h = if x = 0 then Rr X d MTo_shelfAt 24 L st h else Rr X d MTo_shelfAt 15 L st h := R_if_eq d_MTo_shelfAt_12 (by decide)
theorem r_MTo_shelfAt_15 {l1 : Value} {x : Nat} : Rr X d MTo_shelfAt 15 [.ref x, l1] st h = Rr X d MTo_shelfAt 16 [.ref x, l1] (.ref x :: st) h := Rr_nx d_MTo_shelfAt_15 rfl
theorem r_MTo_shelfAt_16 {a : Nat} (hq : (qR a 9 3).isSome = true) : Rr X d MTo_shelfAt 16 L (.ref a :: st) (Wd mu la ro et) = Rr X d MTo_shelfAt 19 L (.ref (qRd a 9 3) :: st) (Wd mu la ro et) := R_gfR d_MTo_shelfAt_16 ff_9_30 hq
theorem r_MTo_shelfAt_19 {l0 : Value} {x : Int32} : Rr X d MTo_shelfAt 19 [l0, .int x] st h = Rr X d MTo_shelfAt 20 [l0, .int x] (.int x :: st) h := Rr_nx d_MTo_shelfAt_19 rfl
theorem r_MTo_shelfAt_20 {a : Nat} {j : Int32} (hq : (qQ a).isSome = true) : Rr X d MTo_shelfAt 20 L (.int j :: .ref a :: st) (Wd mu la ro et) = if j < 0 ∨ qQd a ≤ j.toNatClampNeg then none else Rr X d MTo_shelfAt 21 L (va_rf (ro a j.toNatClampNeg) :: st) (Wd mu la ro et) := R_aalW d_MTo_shelfAt_20 hq
theorem r_MTo_shelfAt_21 : Rr X d MTo_shelfAt 21 L st h = Rr X d MTo_shelfAt 25 L st h := R_goto d_MTo_shelfAt_21 (by decide)
theorem r_MTo_shelfAt_24 : Rr X d MTo_shelfAt 24 L st h = Rr X d MTo_shelfAt 25 L (.null :: st) h := Rr_nx d_MTo_shelfAt_24 rfl
theorem r_MTo_shelfAt_25 {x : Nat} : Rr X d MTo_shelfAt 25 L [.ref x] h = some (some (.ref x), h) := Rr_rt d_MTo_shelfAt_25 rfl
theorem r_MTo_shelfAt_25n : Rr X d MTo_shelfAt 25 L [.null] h = some (some .null, h) := Rr_rt d_MTo_shelfAt_25 rfl
theorem d_MTo_isFloorOrNone_0 : decode MTo_isFloorOrNone.2.2.1 0 = .ok (.iload_n 1, 1) := by decide +kernel
theorem d_MTo_isFloorOrNone_1 : decode MTo_isFloorOrNone.2.2.1 1 = .ok (.bipush 9, 2) := by decide +kernel
theorem d_MTo_isFloorOrNone_3 : decode MTo_isFloorOrNone.2.2.1 3 = .ok (.if_icmp .eq 11, 3) := by decide +kernel
theorem d_MTo_isFloorOrNone_6 : decode MTo_isFloorOrNone.2.2.1 6 = .ok (.aload_n 0, 1) := by decide +kernel
theorem d_MTo_isFloorOrNone_7 : decode MTo_isFloorOrNone.2.2.1 7 = .ok (.iload_n 1, 1) := by decide +kernel
theorem d_MTo_isFloorOrNone_8 : decode MTo_isFloorOrNone.2.2.1 8 = .ok (.invokevirtual 309, 3) := by decide +kernel
theorem d_MTo_isFloorOrNone_11 : decode MTo_isFloorOrNone.2.2.1 11 = .ok (.ifnull 7, 3) := by decide +kernel
theorem d_MTo_isFloorOrNone_14 : decode MTo_isFloorOrNone.2.2.1 14 = .ok (.iconst 1, 1) := by decide +kernel
theorem d_MTo_isFloorOrNone_15 : decode MTo_isFloorOrNone.2.2.1 15 = .ok (.goto 4, 3) := by decide +kernel
theorem d_MTo_isFloorOrNone_18 : decode MTo_isFloorOrNone.2.2.1 18 = .ok (.iconst 0, 1) := by decide +kernel
theorem d_MTo_isFloorOrNone_19 : decode MTo_isFloorOrNone.2.2.1 19 = .ok (.ireturn, 1) := by decide +kernel
theorem r_MTo_isFloorOrNone_0 {l0 : Value} {x : Int32} : Rr X d MTo_isFloorOrNone 0 [l0, .int x] st h = Rr X d MTo_isFloorOrNone 1 [l0, .int x] (.int x :: st) h := Rr_nx d_MTo_isFloorOrNone_0 rfl
theorem r_MTo_isFloorOrNone_1 : Rr X d MTo_isFloorOrNone 1 L st h = Rr X d MTo_isFloorOrNone 3 L (.int (9) :: st) h := Rr_nx d_MTo_isFloorOrNone_1 rfl
theorem r_MTo_isFloorOrNone_3 {x y : Int32} : Rr X d MTo_isFloorOrNone 3 L (.int y :: .int x :: st) h = if x = y then Rr X d MTo_isFloorOrNone 14 L st h else Rr X d MTo_isFloorOrNone 6 L st h := R_ic_eq d_MTo_isFloorOrNone_3 (by decide)
theorem r_MTo_isFloorOrNone_6 {l1 : Value} {x : Nat} : Rr X d MTo_isFloorOrNone 6 [.ref x, l1] st h = Rr X d MTo_isFloorOrNone 7 [.ref x, l1] (.ref x :: st) h := Rr_nx d_MTo_isFloorOrNone_6 rfl
theorem r_MTo_isFloorOrNone_7 {l0 : Value} {x : Int32} : Rr X d MTo_isFloorOrNone 7 [l0, .int x] st h = Rr X d MTo_isFloorOrNone 8 [l0, .int x] (.int x :: st) h := Rr_nx d_MTo_isFloorOrNone_7 rfl
theorem fc_9_309 : fC 9 309 = some (0, 9, 1, MTo_floorAt) := rfl
theorem r_MTo_isFloorOrNone_8 {y0 : Int32} {a : Nat} (hO : qO a 9 = true) (hc : ckS st = true) : Rr X (d + 1) MTo_isFloorOrNone 8 L (.int y0 :: .ref a :: st) (Wd mu la ro et) = (Rr X d MTo_floorAt 0 [.ref a, .int y0] [] (Wd mu la ro et)).bind fun q => Rr X (d + 1) MTo_isFloorOrNone 11 L (psh q.1 st) q.2 := R_iv (av := [.int y0]) d_MTo_isFloorOrNone_8 fc_9_309 hO (ckS_le hc) rfl (Nat.le_of_ble_eq_true rfl) (Nat.le_of_ble_eq_true rfl)
theorem r_MTo_isFloorOrNone_11 {x : Nat} : Rr X d MTo_isFloorOrNone 11 L (.ref x :: st) h = Rr X d MTo_isFloorOrNone 14 L st h := R_nul1 d_MTo_isFloorOrNone_11
theorem r_MTo_isFloorOrNone_11n : Rr X d MTo_isFloorOrNone 11 L (.null :: st) h = Rr X d MTo_isFloorOrNone 18 L st h := R_nul0 d_MTo_isFloorOrNone_11 (by decide)
theorem r_MTo_isFloorOrNone_14 : Rr X d MTo_isFloorOrNone 14 L st h = Rr X d MTo_isFloorOrNone 15 L (.int (1) :: st) h := Rr_nx d_MTo_isFloorOrNone_14 rfl
theorem r_MTo_isFloorOrNone_15 : Rr X d MTo_isFloorOrNone 15 L st h = Rr X d MTo_isFloorOrNone 19 L st h := R_goto d_MTo_isFloorOrNone_15 (by decide)
theorem r_MTo_isFloorOrNone_18 : Rr X d MTo_isFloorOrNone 18 L st h = Rr X d MTo_isFloorOrNone 19 L (.int (0) :: st) h := Rr_nx d_MTo_isFloorOrNone_18 rfl
theorem r_MTo_isFloorOrNone_19 {x : Int32} : Rr X d MTo_isFloorOrNone 19 L [.int x] h = if x = 0 ∨ x = 1 then some (some (.int x), h) else none := R_zr d_MTo_isFloorOrNone_19 rfl
theorem d_MTo_isGround_0 : decode MTo_isGround.2.2.1 0 = .ok (.iload_n 1, 1) := by decide +kernel
theorem d_MTo_isGround_1 : decode MTo_isGround.2.2.1 1 = .ok (.ifCond .lt 29, 3) := by decide +kernel
theorem d_MTo_isGround_4 : decode MTo_isGround.2.2.1 4 = .ok (.aload_n 0, 1) := by decide +kernel
theorem d_MTo_isGround_5 : decode MTo_isGround.2.2.1 5 = .ok (.iload_n 1, 1) := by decide +kernel
theorem d_MTo_isGround_6 : decode MTo_isGround.2.2.1 6 = .ok (.bipush 10, 2) := by decide +kernel
theorem d_MTo_isGround_8 : decode MTo_isGround.2.2.1 8 = .ok (.idiv, 1) := by decide +kernel
theorem d_MTo_isGround_9 : decode MTo_isGround.2.2.1 9 = .ok (.invokevirtual 100, 3) := by decide +kernel
theorem d_MTo_isGround_12 : decode MTo_isGround.2.2.1 12 = .ok (.ifnull 18, 3) := by decide +kernel
theorem d_MTo_isGround_15 : decode MTo_isGround.2.2.1 15 = .ok (.aload_n 0, 1) := by decide +kernel
theorem d_MTo_isGround_16 : decode MTo_isGround.2.2.1 16 = .ok (.iload_n 1, 1) := by decide +kernel
theorem d_MTo_isGround_17 : decode MTo_isGround.2.2.1 17 = .ok (.bipush 10, 2) := by decide +kernel
theorem d_MTo_isGround_19 : decode MTo_isGround.2.2.1 19 = .ok (.irem, 1) := by decide +kernel
theorem d_MTo_isGround_20 : decode MTo_isGround.2.2.1 20 = .ok (.invokevirtual 185, 3) := by decide +kernel
theorem d_MTo_isGround_23 : decode MTo_isGround.2.2.1 23 = .ok (.ifCond .eq 7, 3) := by decide +kernel
theorem d_MTo_isGround_26 : decode MTo_isGround.2.2.1 26 = .ok (.iconst 1, 1) := by decide +kernel
theorem d_MTo_isGround_27 : decode MTo_isGround.2.2.1 27 = .ok (.goto 4, 3) := by decide +kernel
theorem d_MTo_isGround_30 : decode MTo_isGround.2.2.1 30 = .ok (.iconst 0, 1) := by decide +kernel
theorem d_MTo_isGround_31 : decode MTo_isGround.2.2.1 31 = .ok (.ireturn, 1) := by decide +kernel
theorem r_MTo_isGround_0 {l0 : Value} {x : Int32} : Rr X d MTo_isGround 0 [l0, .int x] st h = Rr X d MTo_isGround 1 [l0, .int x] (.int x :: st) h := Rr_nx d_MTo_isGround_0 rfl
theorem r_MTo_isGround_1 {x : Int32} : Rr X d MTo_isGround 1 L (.int x :: st) h = if x < 0 then Rr X d MTo_isGround 30 L st h else Rr X d MTo_isGround 4 L st h := R_if_lt d_MTo_isGround_1 (by decide)
theorem r_MTo_isGround_4 {l1 : Value} {x : Nat} : Rr X d MTo_isGround 4 [.ref x, l1] st h = Rr X d MTo_isGround 5 [.ref x, l1] (.ref x :: st) h := Rr_nx d_MTo_isGround_4 rfl
theorem r_MTo_isGround_5 {l0 : Value} {x : Int32} : Rr X d MTo_isGround 5 [l0, .int x] st h = Rr X d MTo_isGround 6 [l0, .int x] (.int x :: st) h := Rr_nx d_MTo_isGround_5 rfl
theorem r_MTo_isGround_6 : Rr X d MTo_isGround 6 L st h = Rr X d MTo_isGround 8 L (.int (10) :: st) h := Rr_nx d_MTo_isGround_6 rfl
theorem r_MTo_isGround_8 {x y : Int32} : Rr X d MTo_isGround 8 L (.int y :: .int x :: st) h = if y = 0 then none else Rr X d MTo_isGround 9 L (.int (x / y) :: st) h := R_dv d_MTo_isGround_8
theorem fc_9_100 : fC 9 100 = some (0, 9, 1, MTo_stoneAt) := rfl
theorem r_MTo_isGround_9 {y0 : Int32} {a : Nat} (hO : qO a 9 = true) (hc : ckS st = true) : Rr X (d + 1) MTo_isGround 9 L (.int y0 :: .ref a :: st) (Wd mu la ro et) = (Rr X d MTo_stoneAt 0 [.ref a, .int y0] [] (Wd mu la ro et)).bind fun q => Rr X (d + 1) MTo_isGround 12 L (psh q.1 st) q.2 := R_iv (av := [.int y0]) d_MTo_isGround_9 fc_9_100 hO (ckS_le hc) rfl (Nat.le_of_ble_eq_true rfl) (Nat.le_of_ble_eq_true rfl)
theorem r_MTo_isGround_12 {x : Nat} : Rr X d MTo_isGround 12 L (.ref x :: st) h = Rr X d MTo_isGround 15 L st h := R_nul1 d_MTo_isGround_12
theorem r_MTo_isGround_12n : Rr X d MTo_isGround 12 L (.null :: st) h = Rr X d MTo_isGround 30 L st h := R_nul0 d_MTo_isGround_12 (by decide)
theorem r_MTo_isGround_15 {l1 : Value} {x : Nat} : Rr X d MTo_isGround 15 [.ref x, l1] st h = Rr X d MTo_isGround 16 [.ref x, l1] (.ref x :: st) h := Rr_nx d_MTo_isGround_15 rfl
theorem r_MTo_isGround_16 {l0 : Value} {x : Int32} : Rr X d MTo_isGround 16 [l0, .int x] st h = Rr X d MTo_isGround 17 [l0, .int x] (.int x :: st) h := Rr_nx d_MTo_isGround_16 rfl
theorem r_MTo_isGround_17 : Rr X d MTo_isGround 17 L st h = Rr X d MTo_isGround 19 L (.int (10) :: st) h := Rr_nx d_MTo_isGround_17 rfl
theorem r_MTo_isGround_19 {x y : Int32} : Rr X d MTo_isGround 19 L (.int y :: .int x :: st) h = if y = 0 then none else Rr X d MTo_isGround 20 L (.int (x - x / y * y) :: st) h := R_rm d_MTo_isGround_19
theorem fc_9_185 : fC 9 185 = some (0, 9, 1, MTo_isFloorOrNone) := rfl
theorem r_MTo_isGround_20 {y0 : Int32} {a : Nat} (hO : qO a 9 = true) (hc : ckS st = true) : Rr X (d + 1) MTo_isGround 20 L (.int y0 :: .ref a :: st) (Wd mu la ro et) = (Rr X d MTo_isFloorOrNone 0 [.ref a, .int y0] [] (Wd mu la ro et)).bind fun q => Rr X (d + 1) MTo_isGround 23 L (psh q.1 st) q.2 := R_iv (av := [.int y0]) d_MTo_isGround_20 fc_9_185 hO (ckS_le hc) rfl (Nat.le_of_ble_eq_true rfl) (Nat.le_of_ble_eq_true rfl)
theorem r_MTo_isGround_23 {x : Int32} : Rr X d MTo_isGround 23 L (.int x :: st) h = if x = 0 then Rr X d MTo_isGround 30 L st h else Rr X d MTo_isGround 26 L st h := R_if_eq d_MTo_isGround_23 (by decide)
theorem r_MTo_isGround_26 : Rr X d MTo_isGround 26 L st h = Rr X d MTo_isGround 27 L (.int (1) :: st) h := Rr_nx d_MTo_isGround_26 rfl
theorem r_MTo_isGround_27 : Rr X d MTo_isGround 27 L st h = Rr X d MTo_isGround 31 L st h := R_goto d_MTo_isGround_27 (by decide)
theorem r_MTo_isGround_30 : Rr X d MTo_isGround 30 L st h = Rr X d MTo_isGround 31 L (.int (0) :: st) h := Rr_nx d_MTo_isGround_30 rfl
theorem r_MTo_isGround_31 {x : Int32} : Rr X d MTo_isGround 31 L [.int x] h = if x = 0 ∨ x = 1 then some (some (.int x), h) else none := R_zr d_MTo_isGround_31 rfl
theorem d_MTa_append_0 : decode MTa_append.2.2.1 0 = .ok (.aload_n 0, 1) := by decide +kernel
theorem d_MTa_append_1 : decode MTa_append.2.2.1 1 = .ok (.getfield 13, 3) := by decide +kernel
theorem d_MTa_append_4 : decode MTa_append.2.2.1 4 = .ok (.ifCond .lt 36, 3) := by decide +kernel
theorem d_MTa_append_7 : decode MTa_append.2.2.1 7 = .ok (.aload_n 0, 1) := by decide +kernel
theorem d_MTa_append_8 : decode MTa_append.2.2.1 8 = .ok (.getfield 13, 3) := by decide +kernel
theorem d_MTa_append_11 : decode MTa_append.2.2.1 11 = .ok (.aload_n 0, 1) := by decide +kernel
theorem d_MTa_append_12 : decode MTa_append.2.2.1 12 = .ok (.getfield 9, 3) := by decide +kernel
theorem d_MTa_append_15 : decode MTa_append.2.2.1 15 = .ok (.arraylength, 1) := by decide +kernel
theorem d_MTa_append_16 : decode MTa_append.2.2.1 16 = .ok (.if_icmp .ge 24, 3) := by decide +kernel
theorem d_MTa_append_19 : decode MTa_append.2.2.1 19 = .ok (.aload_n 0, 1) := by decide +kernel
theorem d_MTa_append_20 : decode MTa_append.2.2.1 20 = .ok (.getfield 9, 3) := by decide +kernel
theorem d_MTa_append_23 : decode MTa_append.2.2.1 23 = .ok (.aload_n 0, 1) := by decide +kernel
theorem d_MTa_append_24 : decode MTa_append.2.2.1 24 = .ok (.getfield 13, 3) := by decide +kernel
theorem d_MTa_append_27 : decode MTa_append.2.2.1 27 = .ok (.iload_n 1, 1) := by decide +kernel
theorem d_MTa_append_28 : decode MTa_append.2.2.1 28 = .ok (.i2b, 1) := by decide +kernel
theorem d_MTa_append_29 : decode MTa_append.2.2.1 29 = .ok (.bastore, 1) := by decide +kernel
theorem d_MTa_append_30 : decode MTa_append.2.2.1 30 = .ok (.aload_n 0, 1) := by decide +kernel
theorem d_MTa_append_31 : decode MTa_append.2.2.1 31 = .ok (.dup, 1) := by decide +kernel
theorem d_MTa_append_32 : decode MTa_append.2.2.1 32 = .ok (.getfield 13, 3) := by decide +kernel
theorem d_MTa_append_35 : decode MTa_append.2.2.1 35 = .ok (.iconst 1, 1) := by decide +kernel
theorem d_MTa_append_36 : decode MTa_append.2.2.1 36 = .ok (.iadd, 1) := by decide +kernel
theorem d_MTa_append_37 : decode MTa_append.2.2.1 37 = .ok (.putfield 13, 3) := by decide +kernel
theorem d_MTa_append_40 : decode MTa_append.2.2.1 40 = .ok (.return_, 1) := by decide +kernel
theorem r_MTa_append_0 {l1 : Value} {x : Nat} : Rr X d MTa_append 0 [.ref x, l1] st h = Rr X d MTa_append 1 [.ref x, l1] (.ref x :: st) h := Rr_nx d_MTa_append_0 rfl
theorem ff_8_13 : fF 8 13 = some (8, 1, 0, 0) := rfl
theorem r_MTa_append_1 {a : Nat} (hq : qI a 8 1 = true) : Rr X d MTa_append 1 L (.ref a :: st) (Wd mu la ro et) = Rr X d MTa_append 4 L (.int (mu a 1) :: st) (Wd mu la ro et) := R_gfI d_MTa_append_1 ff_8_13 hq
theorem r_MTa_append_4 {x : Int32} : Rr X d MTa_append 4 L (.int x :: st) h = if x < 0 then Rr X d MTa_append 40 L st h else Rr X d MTa_append 7 L st h := R_if_lt d_MTa_append_4 (by decide)
theorem r_MTa_append_7 {l1 : Value} {x : Nat} : Rr X d MTa_append 7 [.ref x, l1] st h = Rr X d MTa_append 8 [.ref x, l1] (.ref x :: st) h := Rr_nx d_MTa_append_7 rfl
theorem r_MTa_append_8 {a : Nat} (hq : qI a 8 1 = true) : Rr X d MTa_append 8 L (.ref a :: st) (Wd mu la ro et) = Rr X d MTa_append 11 L (.int (mu a 1) :: st) (Wd mu la ro et) := R_gfI d_MTa_append_8 ff_8_13 hq
theorem r_MTa_append_11 {l1 : Value} {x : Nat} : Rr X d MTa_append 11 [.ref x, l1] st h = Rr X d MTa_append 12 [.ref x, l1] (.ref x :: st) h := Rr_nx d_MTa_append_11 rfl
theorem ff_8_9 : fF 8 9 = some (8, 0, 1, 1) := rfl
theorem r_MTa_append_12 {a : Nat} (hq : (qR a 8 0).isSome = true) : Rr X d MTa_append 12 L (.ref a :: st) (Wd mu la ro et) = Rr X d MTa_append 15 L (.ref (qRd a 8 0) :: st) (Wd mu la ro et) := R_gfR d_MTa_append_12 ff_8_9 hq
theorem r_MTa_append_15 {a : Nat} (hq : (qL a).isSome = true) : Rr X d MTa_append 15 L (.ref a :: st) (Wd mu la ro et) = Rr X d MTa_append 16 L (.int (Int32.ofNat (qLd a)) :: st) (Wd mu la ro et) := R_lenW d_MTa_append_15 hq
theorem r_MTa_append_16 {x y : Int32} : Rr X d MTa_append 16 L (.int y :: .int x :: st) h = if y ≤ x then Rr X d MTa_append 40 L st h else Rr X d MTa_append 19 L st h := R_ic_ge d_MTa_append_16 (by decide)
theorem r_MTa_append_19 {l1 : Value} {x : Nat} : Rr X d MTa_append 19 [.ref x, l1] st h = Rr X d MTa_append 20 [.ref x, l1] (.ref x :: st) h := Rr_nx d_MTa_append_19 rfl
theorem r_MTa_append_20 {a : Nat} (hq : (qR a 8 0).isSome = true) : Rr X d MTa_append 20 L (.ref a :: st) (Wd mu la ro et) = Rr X d MTa_append 23 L (.ref (qRd a 8 0) :: st) (Wd mu la ro et) := R_gfR d_MTa_append_20 ff_8_9 hq
theorem r_MTa_append_23 {l1 : Value} {x : Nat} : Rr X d MTa_append 23 [.ref x, l1] st h = Rr X d MTa_append 24 [.ref x, l1] (.ref x :: st) h := Rr_nx d_MTa_append_23 rfl
theorem r_MTa_append_24 {a : Nat} (hq : qI a 8 1 = true) : Rr X d MTa_append 24 L (.ref a :: st) (Wd mu la ro et) = Rr X d MTa_append 27 L (.int (mu a 1) :: st) (Wd mu la ro et) := R_gfI d_MTa_append_24 ff_8_13 hq
theorem r_MTa_append_27 {l0 : Value} {x : Int32} : Rr X d MTa_append 27 [l0, .int x] st h = Rr X d MTa_append 28 [l0, .int x] (.int x :: st) h := Rr_nx d_MTa_append_27 rfl
theorem r_MTa_append_28 {x : Int32} : Rr X d MTa_append 28 L (.int x :: st) h = Rr X d MTa_append 29 L (.int (x.toInt8.toInt32) :: st) h := Rr_nx d_MTa_append_28 rfl
theorem r_MTa_append_29 {a : Nat} {j x : Int32} (hq : (qA a 2).isSome = true) : Rr X d MTa_append 29 L (.int x :: .int j :: .ref a :: st) (Wd mu la ro et) = if j < 0 ∨ qAd a 2 ≤ j.toNatClampNeg then none else Rr X d MTa_append 30 L st (Wd (up2 mu a j.toNatClampNeg (x.toInt8.toInt32)) la ro et) := R_basW d_MTa_append_29 hq
theorem r_MTa_append_30 {l1 : Value} {x : Nat} : Rr X d MTa_append 30 [.ref x, l1] st h = Rr X d MTa_append 31 [.ref x, l1] (.ref x :: st) h := Rr_nx d_MTa_append_30 rfl
theorem r_MTa_append_31 {x : Nat} : Rr X d MTa_append 31 L (.ref x :: st) h = Rr X d MTa_append 32 L (.ref x :: .ref x :: st) h := Rr_nx d_MTa_append_31 rfl
theorem r_MTa_append_31i {x : Int32} : Rr X d MTa_append 31 L (.int x :: st) h = Rr X d MTa_append 32 L (.int x :: .int x :: st) h := Rr_nx d_MTa_append_31 rfl
theorem r_MTa_append_32 {a : Nat} (hq : qI a 8 1 = true) : Rr X d MTa_append 32 L (.ref a :: st) (Wd mu la ro et) = Rr X d MTa_append 35 L (.int (mu a 1) :: st) (Wd mu la ro et) := R_gfI d_MTa_append_32 ff_8_13 hq
theorem r_MTa_append_35 : Rr X d MTa_append 35 L st h = Rr X d MTa_append 36 L (.int (1) :: st) h := Rr_nx d_MTa_append_35 rfl
theorem r_MTa_append_36 {x y : Int32} : Rr X d MTa_append 36 L (.int y :: .int x :: st) h = Rr X d MTa_append 37 L (.int (x + y) :: st) h := Rr_nx d_MTa_append_36 rfl
theorem r_MTa_append_37 {a : Nat} {x : Int32} (hq : qI a 8 1 = true) : Rr X d MTa_append 37 L (.int x :: .ref a :: st) (Wd mu la ro et) = Rr X d MTa_append 40 L st (Wd (up2 mu a 1 x) la ro et) := R_pfI d_MTa_append_37 ff_8_13 hq
theorem r_MTa_append_40 : Rr X d MTa_append 40 L [] h = some (none, h) := Rr_rt d_MTa_append_40 rfl
theorem d_MTa_clear_0 : decode MTa_clear.2.2.1 0 = .ok (.aload_n 0, 1) := by decide +kernel
theorem d_MTa_clear_1 : decode MTa_clear.2.2.1 1 = .ok (.iconst 0, 1) := by decide +kernel
theorem d_MTa_clear_2 : decode MTa_clear.2.2.1 2 = .ok (.putfield 13, 3) := by decide +kernel
theorem d_MTa_clear_5 : decode MTa_clear.2.2.1 5 = .ok (.aload_n 0, 1) := by decide +kernel
theorem d_MTa_clear_6 : decode MTa_clear.2.2.1 6 = .ok (.iconst 0, 1) := by decide +kernel
theorem d_MTa_clear_7 : decode MTa_clear.2.2.1 7 = .ok (.putfield 17, 3) := by decide +kernel
theorem d_MTa_clear_10 : decode MTa_clear.2.2.1 10 = .ok (.return_, 1) := by decide +kernel
theorem r_MTa_clear_0 {x : Nat} : Rr X d MTa_clear 0 [.ref x] st h = Rr X d MTa_clear 1 [.ref x] (.ref x :: st) h := Rr_nx d_MTa_clear_0 rfl
theorem r_MTa_clear_1 : Rr X d MTa_clear 1 L st h = Rr X d MTa_clear 2 L (.int (0) :: st) h := Rr_nx d_MTa_clear_1 rfl
theorem r_MTa_clear_2 {a : Nat} {x : Int32} (hq : qI a 8 1 = true) : Rr X d MTa_clear 2 L (.int x :: .ref a :: st) (Wd mu la ro et) = Rr X d MTa_clear 5 L st (Wd (up2 mu a 1 x) la ro et) := R_pfI d_MTa_clear_2 ff_8_13 hq
theorem r_MTa_clear_5 {x : Nat} : Rr X d MTa_clear 5 [.ref x] st h = Rr X d MTa_clear 6 [.ref x] (.ref x :: st) h := Rr_nx d_MTa_clear_5 rfl
theorem r_MTa_clear_6 : Rr X d MTa_clear 6 L st h = Rr X d MTa_clear 7 L (.int (0) :: st) h := Rr_nx d_MTa_clear_6 rfl
theorem ff_8_17 : fF 8 17 = some (8, 2, 0, 0) := rfl
theorem r_MTa_clear_7 {a : Nat} {x : Int32} (hq : qI a 8 2 = true) : Rr X d MTa_clear 7 L (.int x :: .ref a :: st) (Wd mu la ro et) = Rr X d MTa_clear 10 L st (Wd (up2 mu a 2 x) la ro et) := R_pfI d_MTa_clear_7 ff_8_17 hq
theorem r_MTa_clear_10 : Rr X d MTa_clear 10 L [] h = some (none, h) := Rr_rt d_MTa_clear_10 rfl
theorem d_MTa_rewind_0 : decode MTa_rewind.2.2.1 0 = .ok (.aload_n 0, 1) := by decide +kernel
theorem d_MTa_rewind_1 : decode MTa_rewind.2.2.1 1 = .ok (.iconst 0, 1) := by decide +kernel
theorem d_MTa_rewind_2 : decode MTa_rewind.2.2.1 2 = .ok (.putfield 17, 3) := by decide +kernel
theorem d_MTa_rewind_5 : decode MTa_rewind.2.2.1 5 = .ok (.return_, 1) := by decide +kernel
theorem r_MTa_rewind_0 {x : Nat} : Rr X d MTa_rewind 0 [.ref x] st h = Rr X d MTa_rewind 1 [.ref x] (.ref x :: st) h := Rr_nx d_MTa_rewind_0 rfl
theorem r_MTa_rewind_1 : Rr X d MTa_rewind 1 L st h = Rr X d MTa_rewind 2 L (.int (0) :: st) h := Rr_nx d_MTa_rewind_1 rfl
theorem r_MTa_rewind_2 {a : Nat} {x : Int32} (hq : qI a 8 2 = true) : Rr X d MTa_rewind 2 L (.int x :: .ref a :: st) (Wd mu la ro et) = Rr X d MTa_rewind 5 L st (Wd (up2 mu a 2 x) la ro et) := R_pfI d_MTa_rewind_2 ff_8_17 hq
theorem r_MTa_rewind_5 : Rr X d MTa_rewind 5 L [] h = some (none, h) := Rr_rt d_MTa_rewind_5 rfl
theorem d_MTa_isAtEnd_0 : decode MTa_isAtEnd.2.2.1 0 = .ok (.aload_n 0, 1) := by decide +kernel
theorem d_MTa_isAtEnd_1 : decode MTa_isAtEnd.2.2.1 1 = .ok (.getfield 17, 3) := by decide +kernel
theorem d_MTa_isAtEnd_4 : decode MTa_isAtEnd.2.2.1 4 = .ok (.aload_n 0, 1) := by decide +kernel
theorem d_MTa_isAtEnd_5 : decode MTa_isAtEnd.2.2.1 5 = .ok (.getfield 13, 3) := by decide +kernel
theorem d_MTa_isAtEnd_8 : decode MTa_isAtEnd.2.2.1 8 = .ok (.if_icmp .ne 7, 3) := by decide +kernel
theorem d_MTa_isAtEnd_11 : decode MTa_isAtEnd.2.2.1 11 = .ok (.iconst 1, 1) := by decide +kernel
theorem d_MTa_isAtEnd_12 : decode MTa_isAtEnd.2.2.1 12 = .ok (.goto 4, 3) := by decide +kernel
theorem d_MTa_isAtEnd_15 : decode MTa_isAtEnd.2.2.1 15 = .ok (.iconst 0, 1) := by decide +kernel
theorem d_MTa_isAtEnd_16 : decode MTa_isAtEnd.2.2.1 16 = .ok (.ireturn, 1) := by decide +kernel
theorem r_MTa_isAtEnd_0 {x : Nat} : Rr X d MTa_isAtEnd 0 [.ref x] st h = Rr X d MTa_isAtEnd 1 [.ref x] (.ref x :: st) h := Rr_nx d_MTa_isAtEnd_0 rfl
theorem r_MTa_isAtEnd_1 {a : Nat} (hq : qI a 8 2 = true) : Rr X d MTa_isAtEnd 1 L (.ref a :: st) (Wd mu la ro et) = Rr X d MTa_isAtEnd 4 L (.int (mu a 2) :: st) (Wd mu la ro et) := R_gfI d_MTa_isAtEnd_1 ff_8_17 hq
theorem r_MTa_isAtEnd_4 {x : Nat} : Rr X d MTa_isAtEnd 4 [.ref x] st h = Rr X d MTa_isAtEnd 5 [.ref x] (.ref x :: st) h := Rr_nx d_MTa_isAtEnd_4 rfl
theorem r_MTa_isAtEnd_5 {a : Nat} (hq : qI a 8 1 = true) : Rr X d MTa_isAtEnd 5 L (.ref a :: st) (Wd mu la ro et) = Rr X d MTa_isAtEnd 8 L (.int (mu a 1) :: st) (Wd mu la ro et) := R_gfI d_MTa_isAtEnd_5 ff_8_13 hq
theorem r_MTa_isAtEnd_8 {x y : Int32} : Rr X d MTa_isAtEnd 8 L (.int y :: .int x :: st) h = if ¬ x = y then Rr X d MTa_isAtEnd 15 L st h else Rr X d MTa_isAtEnd 11 L st h := R_ic_ne d_MTa_isAtEnd_8 (by decide)
theorem r_MTa_isAtEnd_11 : Rr X d MTa_isAtEnd 11 L st h = Rr X d MTa_isAtEnd 12 L (.int (1) :: st) h := Rr_nx d_MTa_isAtEnd_11 rfl
theorem r_MTa_isAtEnd_12 : Rr X d MTa_isAtEnd 12 L st h = Rr X d MTa_isAtEnd 16 L st h := R_goto d_MTa_isAtEnd_12 (by decide)
theorem r_MTa_isAtEnd_15 : Rr X d MTa_isAtEnd 15 L st h = Rr X d MTa_isAtEnd 16 L (.int (0) :: st) h := Rr_nx d_MTa_isAtEnd_15 rfl
theorem r_MTa_isAtEnd_16 {x : Int32} : Rr X d MTa_isAtEnd 16 L [.int x] h = if x = 0 ∨ x = 1 then some (some (.int x), h) else none := R_zr d_MTa_isAtEnd_16 rfl
theorem d_MTa_here_0 : decode MTa_here.2.2.1 0 = .ok (.aload_n 0, 1) := by decide +kernel
theorem d_MTa_here_1 : decode MTa_here.2.2.1 1 = .ok (.getfield 17, 3) := by decide +kernel
theorem d_MTa_here_4 : decode MTa_here.2.2.1 4 = .ok (.ifCond .lt 42, 3) := by decide +kernel
theorem d_MTa_here_7 : decode MTa_here.2.2.1 7 = .ok (.aload_n 0, 1) := by decide +kernel
theorem d_MTa_here_8 : decode MTa_here.2.2.1 8 = .ok (.getfield 17, 3) := by decide +kernel
theorem d_MTa_here_11 : decode MTa_here.2.2.1 11 = .ok (.aload_n 0, 1) := by decide +kernel
theorem d_MTa_here_12 : decode MTa_here.2.2.1 12 = .ok (.getfield 13, 3) := by decide +kernel
theorem d_MTa_here_15 : decode MTa_here.2.2.1 15 = .ok (.if_icmp .ge 31, 3) := by decide +kernel
theorem d_MTa_here_18 : decode MTa_here.2.2.1 18 = .ok (.aload_n 0, 1) := by decide +kernel
theorem d_MTa_here_19 : decode MTa_here.2.2.1 19 = .ok (.getfield 17, 3) := by decide +kernel
theorem d_MTa_here_22 : decode MTa_here.2.2.1 22 = .ok (.aload_n 0, 1) := by decide +kernel
theorem d_MTa_here_23 : decode MTa_here.2.2.1 23 = .ok (.getfield 9, 3) := by decide +kernel
theorem d_MTa_here_26 : decode MTa_here.2.2.1 26 = .ok (.arraylength, 1) := by decide +kernel
theorem d_MTa_here_27 : decode MTa_here.2.2.1 27 = .ok (.if_icmp .ge 19, 3) := by decide +kernel
theorem d_MTa_here_30 : decode MTa_here.2.2.1 30 = .ok (.aload_n 0, 1) := by decide +kernel
theorem d_MTa_here_31 : decode MTa_here.2.2.1 31 = .ok (.getfield 9, 3) := by decide +kernel
theorem d_MTa_here_34 : decode MTa_here.2.2.1 34 = .ok (.aload_n 0, 1) := by decide +kernel
theorem d_MTa_here_35 : decode MTa_here.2.2.1 35 = .ok (.getfield 17, 3) := by decide +kernel
theorem d_MTa_here_38 : decode MTa_here.2.2.1 38 = .ok (.baload, 1) := by decide +kernel
theorem d_MTa_here_39 : decode MTa_here.2.2.1 39 = .ok (.sipush 255, 3) := by decide +kernel
theorem d_MTa_here_42 : decode MTa_here.2.2.1 42 = .ok (.iand, 1) := by decide +kernel
theorem d_MTa_here_43 : decode MTa_here.2.2.1 43 = .ok (.goto 4, 3) := by decide +kernel
theorem d_MTa_here_46 : decode MTa_here.2.2.1 46 = .ok (.iconst (-1), 1) := by decide +kernel
theorem d_MTa_here_47 : decode MTa_here.2.2.1 47 = .ok (.ireturn, 1) := by decide +kernel
theorem r_MTa_here_0 {x : Nat} : Rr X d MTa_here 0 [.ref x] st h = Rr X d MTa_here 1 [.ref x] (.ref x :: st) h := Rr_nx d_MTa_here_0 rfl
theorem r_MTa_here_1 {a : Nat} (hq : qI a 8 2 = true) : Rr X d MTa_here 1 L (.ref a :: st) (Wd mu la ro et) = Rr X d MTa_here 4 L (.int (mu a 2) :: st) (Wd mu la ro et) := R_gfI d_MTa_here_1 ff_8_17 hq
theorem r_MTa_here_4 {x : Int32} : Rr X d MTa_here 4 L (.int x :: st) h = if x < 0 then Rr X d MTa_here 46 L st h else Rr X d MTa_here 7 L st h := R_if_lt d_MTa_here_4 (by decide)
theorem r_MTa_here_7 {x : Nat} : Rr X d MTa_here 7 [.ref x] st h = Rr X d MTa_here 8 [.ref x] (.ref x :: st) h := Rr_nx d_MTa_here_7 rfl
theorem r_MTa_here_8 {a : Nat} (hq : qI a 8 2 = true) : Rr X d MTa_here 8 L (.ref a :: st) (Wd mu la ro et) = Rr X d MTa_here 11 L (.int (mu a 2) :: st) (Wd mu la ro et) := R_gfI d_MTa_here_8 ff_8_17 hq
theorem r_MTa_here_11 {x : Nat} : Rr X d MTa_here 11 [.ref x] st h = Rr X d MTa_here 12 [.ref x] (.ref x :: st) h := Rr_nx d_MTa_here_11 rfl
theorem r_MTa_here_12 {a : Nat} (hq : qI a 8 1 = true) : Rr X d MTa_here 12 L (.ref a :: st) (Wd mu la ro et) = Rr X d MTa_here 15 L (.int (mu a 1) :: st) (Wd mu la ro et) := R_gfI d_MTa_here_12 ff_8_13 hq
theorem r_MTa_here_15 {x y : Int32} : Rr X d MTa_here 15 L (.int y :: .int x :: st) h = if y ≤ x then Rr X d MTa_here 46 L st h else Rr X d MTa_here 18 L st h := R_ic_ge d_MTa_here_15 (by decide)
theorem r_MTa_here_18 {x : Nat} : Rr X d MTa_here 18 [.ref x] st h = Rr X d MTa_here 19 [.ref x] (.ref x :: st) h := Rr_nx d_MTa_here_18 rfl
theorem r_MTa_here_19 {a : Nat} (hq : qI a 8 2 = true) : Rr X d MTa_here 19 L (.ref a :: st) (Wd mu la ro et) = Rr X d MTa_here 22 L (.int (mu a 2) :: st) (Wd mu la ro et) := R_gfI d_MTa_here_19 ff_8_17 hq
theorem r_MTa_here_22 {x : Nat} : Rr X d MTa_here 22 [.ref x] st h = Rr X d MTa_here 23 [.ref x] (.ref x :: st) h := Rr_nx d_MTa_here_22 rfl
theorem r_MTa_here_23 {a : Nat} (hq : (qR a 8 0).isSome = true) : Rr X d MTa_here 23 L (.ref a :: st) (Wd mu la ro et) = Rr X d MTa_here 26 L (.ref (qRd a 8 0) :: st) (Wd mu la ro et) := R_gfR d_MTa_here_23 ff_8_9 hq
theorem r_MTa_here_26 {a : Nat} (hq : (qL a).isSome = true) : Rr X d MTa_here 26 L (.ref a :: st) (Wd mu la ro et) = Rr X d MTa_here 27 L (.int (Int32.ofNat (qLd a)) :: st) (Wd mu la ro et) := R_lenW d_MTa_here_26 hq
theorem r_MTa_here_27 {x y : Int32} : Rr X d MTa_here 27 L (.int y :: .int x :: st) h = if y ≤ x then Rr X d MTa_here 46 L st h else Rr X d MTa_here 30 L st h := R_ic_ge d_MTa_here_27 (by decide)
theorem r_MTa_here_30 {x : Nat} : Rr X d MTa_here 30 [.ref x] st h = Rr X d MTa_here 31 [.ref x] (.ref x :: st) h := Rr_nx d_MTa_here_30 rfl
theorem r_MTa_here_31 {a : Nat} (hq : (qR a 8 0).isSome = true) : Rr X d MTa_here 31 L (.ref a :: st) (Wd mu la ro et) = Rr X d MTa_here 34 L (.ref (qRd a 8 0) :: st) (Wd mu la ro et) := R_gfR d_MTa_here_31 ff_8_9 hq
theorem r_MTa_here_34 {x : Nat} : Rr X d MTa_here 34 [.ref x] st h = Rr X d MTa_here 35 [.ref x] (.ref x :: st) h := Rr_nx d_MTa_here_34 rfl
theorem r_MTa_here_35 {a : Nat} (hq : qI a 8 2 = true) : Rr X d MTa_here 35 L (.ref a :: st) (Wd mu la ro et) = Rr X d MTa_here 38 L (.int (mu a 2) :: st) (Wd mu la ro et) := R_gfI d_MTa_here_35 ff_8_17 hq
theorem r_MTa_here_38 {a : Nat} {j : Int32} (hq : (qA a 2).isSome = true) : Rr X d MTa_here 38 L (.int j :: .ref a :: st) (Wd mu la ro et) = if j < 0 ∨ qAd a 2 ≤ j.toNatClampNeg then none else Rr X d MTa_here 39 L (.int (mu a j.toNatClampNeg) :: st) (Wd mu la ro et) := R_balW d_MTa_here_38 hq
theorem r_MTa_here_39 : Rr X d MTa_here 39 L st h = Rr X d MTa_here 42 L (.int (255) :: st) h := Rr_nx d_MTa_here_39 rfl
theorem r_MTa_here_42 {x y : Int32} : Rr X d MTa_here 42 L (.int y :: .int x :: st) h = Rr X d MTa_here 43 L (.int (x &&& y) :: st) h := Rr_nx d_MTa_here_42 rfl
theorem r_MTa_here_43 : Rr X d MTa_here 43 L st h = Rr X d MTa_here 47 L st h := R_goto d_MTa_here_43 (by decide)
theorem r_MTa_here_46 : Rr X d MTa_here 46 L st h = Rr X d MTa_here 47 L (.int (-1) :: st) h := Rr_nx d_MTa_here_46 rfl
theorem r_MTa_here_47 {x : Int32} : Rr X d MTa_here 47 L [.int x] h = some (some (.int x), h) := R_ir d_MTa_here_47 rfl
theorem d_MTa_skip_0 : decode MTa_skip.2.2.1 0 = .ok (.aload_n 0, 1) := by decide +kernel
theorem d_MTa_skip_1 : decode MTa_skip.2.2.1 1 = .ok (.invokevirtual 20, 3) := by decide +kernel
theorem d_MTa_skip_4 : decode MTa_skip.2.2.1 4 = .ok (.iload_n 1, 1) := by decide +kernel
theorem d_MTa_skip_5 : decode MTa_skip.2.2.1 5 = .ok (.if_icmp .eq 5, 3) := by decide +kernel
theorem d_MTa_skip_8 : decode MTa_skip.2.2.1 8 = .ok (.iconst 0, 1) := by decide +kernel
theorem d_MTa_skip_9 : decode MTa_skip.2.2.1 9 = .ok (.ireturn, 1) := by decide +kernel
theorem d_MTa_skip_10 : decode MTa_skip.2.2.1 10 = .ok (.aload_n 0, 1) := by decide +kernel
theorem d_MTa_skip_11 : decode MTa_skip.2.2.1 11 = .ok (.dup, 1) := by decide +kernel
theorem d_MTa_skip_12 : decode MTa_skip.2.2.1 12 = .ok (.getfield 17, 3) := by decide +kernel
theorem d_MTa_skip_15 : decode MTa_skip.2.2.1 15 = .ok (.iconst 1, 1) := by decide +kernel
theorem d_MTa_skip_16 : decode MTa_skip.2.2.1 16 = .ok (.iadd, 1) := by decide +kernel
theorem d_MTa_skip_17 : decode MTa_skip.2.2.1 17 = .ok (.putfield 17, 3) := by decide +kernel
theorem d_MTa_skip_20 : decode MTa_skip.2.2.1 20 = .ok (.iconst 1, 1) := by decide +kernel
theorem d_MTa_skip_21 : decode MTa_skip.2.2.1 21 = .ok (.ireturn, 1) := by decide +kernel
theorem r_MTa_skip_0 {l1 : Value} {x : Nat} : Rr X d MTa_skip 0 [.ref x, l1] st h = Rr X d MTa_skip 1 [.ref x, l1] (.ref x :: st) h := Rr_nx d_MTa_skip_0 rfl
theorem fc_8_20 : fC 8 20 = some (0, 8, 0, MTa_here) := rfl
theorem r_MTa_skip_1 {a : Nat} (hO : qO a 8 = true) (hc : ckS st = true) : Rr X (d + 1) MTa_skip 1 L (.ref a :: st) (Wd mu la ro et) = (Rr X d MTa_here 0 [.ref a] [] (Wd mu la ro et)).bind fun q => Rr X (d + 1) MTa_skip 4 L (psh q.1 st) q.2 := R_iv (av := []) d_MTa_skip_1 fc_8_20 hO (ckS_le hc) rfl (Nat.le_of_ble_eq_true rfl) (Nat.le_of_ble_eq_true rfl)
theorem r_MTa_skip_4 {l0 : Value} {x : Int32} : Rr X d MTa_skip 4 [l0, .int x] st h = Rr X d MTa_skip 5 [l0, .int x] (.int x :: st) h := Rr_nx d_MTa_skip_4 rfl
theorem r_MTa_skip_5 {x y : Int32} : Rr X d MTa_skip 5 L (.int y :: .int x :: st) h = if x = y then Rr X d MTa_skip 10 L st h else Rr X d MTa_skip 8 L st h := R_ic_eq d_MTa_skip_5 (by decide)
theorem r_MTa_skip_8 : Rr X d MTa_skip 8 L st h = Rr X d MTa_skip 9 L (.int (0) :: st) h := Rr_nx d_MTa_skip_8 rfl
theorem r_MTa_skip_9 {x : Int32} : Rr X d MTa_skip 9 L [.int x] h = if x = 0 ∨ x = 1 then some (some (.int x), h) else none := R_zr d_MTa_skip_9 rfl
theorem r_MTa_skip_10 {l1 : Value} {x : Nat} : Rr X d MTa_skip 10 [.ref x, l1] st h = Rr X d MTa_skip 11 [.ref x, l1] (.ref x :: st) h := Rr_nx d_MTa_skip_10 rfl
theorem r_MTa_skip_11 {x : Nat} : Rr X d MTa_skip 11 L (.ref x :: st) h = Rr X d MTa_skip 12 L (.ref x :: .ref x :: st) h := Rr_nx d_MTa_skip_11 rfl
theorem r_MTa_skip_11i {x : Int32} : Rr X d MTa_skip 11 L (.int x :: st) h = Rr X d MTa_skip 12 L (.int x :: .int x :: st) h := Rr_nx d_MTa_skip_11 rfl
theorem r_MTa_skip_12 {a : Nat} (hq : qI a 8 2 = true) : Rr X d MTa_skip 12 L (.ref a :: st) (Wd mu la ro et) = Rr X d MTa_skip 15 L (.int (mu a 2) :: st) (Wd mu la ro et) := R_gfI d_MTa_skip_12 ff_8_17 hq
theorem r_MTa_skip_15 : Rr X d MTa_skip 15 L st h = Rr X d MTa_skip 16 L (.int (1) :: st) h := Rr_nx d_MTa_skip_15 rfl
theorem r_MTa_skip_16 {x y : Int32} : Rr X d MTa_skip 16 L (.int y :: .int x :: st) h = Rr X d MTa_skip 17 L (.int (x + y) :: st) h := Rr_nx d_MTa_skip_16 rfl
theorem r_MTa_skip_17 {a : Nat} {x : Int32} (hq : qI a 8 2 = true) : Rr X d MTa_skip 17 L (.int x :: .ref a :: st) (Wd mu la ro et) = Rr X d MTa_skip 20 L st (Wd (up2 mu a 2 x) la ro et) := R_pfI d_MTa_skip_17 ff_8_17 hq
theorem r_MTa_skip_20 : Rr X d MTa_skip 20 L st h = Rr X d MTa_skip 21 L (.int (1) :: st) h := Rr_nx d_MTa_skip_20 rfl
theorem r_MTa_skip_21 {x : Int32} : Rr X d MTa_skip 21 L [.int x] h = if x = 0 ∨ x = 1 then some (some (.int x), h) else none := R_zr d_MTa_skip_21 rfl
theorem d_MTa_digit_0 : decode MTa_digit.2.2.1 0 = .ok (.aload_n 0, 1) := by decide +kernel
theorem d_MTa_digit_1 : decode MTa_digit.2.2.1 1 = .ok (.invokevirtual 20, 3) := by decide +kernel
theorem d_MTa_digit_4 : decode MTa_digit.2.2.1 4 = .ok (.istore_n 2, 1) := by decide +kernel
theorem d_MTa_digit_5 : decode MTa_digit.2.2.1 5 = .ok (.iload_n 2, 1) := by decide +kernel
theorem d_MTa_digit_6 : decode MTa_digit.2.2.1 6 = .ok (.bipush 48, 2) := by decide +kernel
theorem d_MTa_digit_8 : decode MTa_digit.2.2.1 8 = .ok (.iload_n 1, 1) := by decide +kernel
theorem d_MTa_digit_9 : decode MTa_digit.2.2.1 9 = .ok (.iadd, 1) := by decide +kernel
theorem d_MTa_digit_10 : decode MTa_digit.2.2.1 10 = .ok (.if_icmp .lt 9, 3) := by decide +kernel
theorem d_MTa_digit_13 : decode MTa_digit.2.2.1 13 = .ok (.iload_n 2, 1) := by decide +kernel
theorem d_MTa_digit_14 : decode MTa_digit.2.2.1 14 = .ok (.bipush 57, 2) := by decide +kernel
theorem d_MTa_digit_16 : decode MTa_digit.2.2.1 16 = .ok (.if_icmp .le 5, 3) := by decide +kernel
theorem d_MTa_digit_19 : decode MTa_digit.2.2.1 19 = .ok (.iconst (-1), 1) := by decide +kernel
theorem d_MTa_digit_20 : decode MTa_digit.2.2.1 20 = .ok (.ireturn, 1) := by decide +kernel
theorem d_MTa_digit_21 : decode MTa_digit.2.2.1 21 = .ok (.aload_n 0, 1) := by decide +kernel
theorem d_MTa_digit_22 : decode MTa_digit.2.2.1 22 = .ok (.dup, 1) := by decide +kernel
theorem d_MTa_digit_23 : decode MTa_digit.2.2.1 23 = .ok (.getfield 17, 3) := by decide +kernel
theorem d_MTa_digit_26 : decode MTa_digit.2.2.1 26 = .ok (.iconst 1, 1) := by decide +kernel
theorem d_MTa_digit_27 : decode MTa_digit.2.2.1 27 = .ok (.iadd, 1) := by decide +kernel
theorem d_MTa_digit_28 : decode MTa_digit.2.2.1 28 = .ok (.putfield 17, 3) := by decide +kernel
theorem d_MTa_digit_31 : decode MTa_digit.2.2.1 31 = .ok (.iload_n 2, 1) := by decide +kernel
theorem d_MTa_digit_32 : decode MTa_digit.2.2.1 32 = .ok (.bipush 48, 2) := by decide +kernel
theorem d_MTa_digit_34 : decode MTa_digit.2.2.1 34 = .ok (.isub, 1) := by decide +kernel
theorem d_MTa_digit_35 : decode MTa_digit.2.2.1 35 = .ok (.ireturn, 1) := by decide +kernel
theorem r_MTa_digit_0 {l1 l2 : Value} {x : Nat} : Rr X d MTa_digit 0 [.ref x, l1, l2] st h = Rr X d MTa_digit 1 [.ref x, l1, l2] (.ref x :: st) h := Rr_nx d_MTa_digit_0 rfl
theorem r_MTa_digit_1 {a : Nat} (hO : qO a 8 = true) (hc : ckS st = true) : Rr X (d + 1) MTa_digit 1 L (.ref a :: st) (Wd mu la ro et) = (Rr X d MTa_here 0 [.ref a] [] (Wd mu la ro et)).bind fun q => Rr X (d + 1) MTa_digit 4 L (psh q.1 st) q.2 := R_iv (av := []) d_MTa_digit_1 fc_8_20 hO (ckS_le hc) rfl (Nat.le_of_ble_eq_true rfl) (Nat.le_of_ble_eq_true rfl)
theorem r_MTa_digit_4 {l0 l1 l2 : Value} {x : Int32} : Rr X d MTa_digit 4 [l0, l1, l2] (.int x :: st) h = Rr X d MTa_digit 5 (sL [l0, l1, l2] 2 (.int x)) st h := Rr_nx d_MTa_digit_4 rfl
theorem r_MTa_digit_5 {l0 l1 : Value} {x : Int32} : Rr X d MTa_digit 5 [l0, l1, .int x] st h = Rr X d MTa_digit 6 [l0, l1, .int x] (.int x :: st) h := Rr_nx d_MTa_digit_5 rfl
theorem r_MTa_digit_6 : Rr X d MTa_digit 6 L st h = Rr X d MTa_digit 8 L (.int (48) :: st) h := Rr_nx d_MTa_digit_6 rfl
theorem r_MTa_digit_8 {l0 l2 : Value} {x : Int32} : Rr X d MTa_digit 8 [l0, .int x, l2] st h = Rr X d MTa_digit 9 [l0, .int x, l2] (.int x :: st) h := Rr_nx d_MTa_digit_8 rfl
theorem r_MTa_digit_9 {x y : Int32} : Rr X d MTa_digit 9 L (.int y :: .int x :: st) h = Rr X d MTa_digit 10 L (.int (x + y) :: st) h := Rr_nx d_MTa_digit_9 rfl
theorem r_MTa_digit_10 {x y : Int32} : Rr X d MTa_digit 10 L (.int y :: .int x :: st) h = if x < y then Rr X d MTa_digit 19 L st h else Rr X d MTa_digit 13 L st h := R_ic_lt d_MTa_digit_10 (by decide)
theorem r_MTa_digit_13 {l0 l1 : Value} {x : Int32} : Rr X d MTa_digit 13 [l0, l1, .int x] st h = Rr X d MTa_digit 14 [l0, l1, .int x] (.int x :: st) h := Rr_nx d_MTa_digit_13 rfl
theorem r_MTa_digit_14 : Rr X d MTa_digit 14 L st h = Rr X d MTa_digit 16 L (.int (57) :: st) h := Rr_nx d_MTa_digit_14 rfl
theorem r_MTa_digit_16 {x y : Int32} : Rr X d MTa_digit 16 L (.int y :: .int x :: st) h = if x ≤ y then Rr X d MTa_digit 21 L st h else Rr X d MTa_digit 19 L st h := R_ic_le d_MTa_digit_16 (by decide)
theorem r_MTa_digit_19 : Rr X d MTa_digit 19 L st h = Rr X d MTa_digit 20 L (.int (-1) :: st) h := Rr_nx d_MTa_digit_19 rfl
theorem r_MTa_digit_20 {x : Int32} : Rr X d MTa_digit 20 L [.int x] h = some (some (.int x), h) := R_ir d_MTa_digit_20 rfl
theorem r_MTa_digit_21 {l1 l2 : Value} {x : Nat} : Rr X d MTa_digit 21 [.ref x, l1, l2] st h = Rr X d MTa_digit 22 [.ref x, l1, l2] (.ref x :: st) h := Rr_nx d_MTa_digit_21 rfl
theorem r_MTa_digit_22 {x : Nat} : Rr X d MTa_digit 22 L (.ref x :: st) h = Rr X d MTa_digit 23 L (.ref x :: .ref x :: st) h := Rr_nx d_MTa_digit_22 rfl
theorem r_MTa_digit_22i {x : Int32} : Rr X d MTa_digit 22 L (.int x :: st) h = Rr X d MTa_digit 23 L (.int x :: .int x :: st) h := Rr_nx d_MTa_digit_22 rfl
theorem r_MTa_digit_23 {a : Nat} (hq : qI a 8 2 = true) : Rr X d MTa_digit 23 L (.ref a :: st) (Wd mu la ro et) = Rr X d MTa_digit 26 L (.int (mu a 2) :: st) (Wd mu la ro et) := R_gfI d_MTa_digit_23 ff_8_17 hq
theorem r_MTa_digit_26 : Rr X d MTa_digit 26 L st h = Rr X d MTa_digit 27 L (.int (1) :: st) h := Rr_nx d_MTa_digit_26 rfl
theorem r_MTa_digit_27 {x y : Int32} : Rr X d MTa_digit 27 L (.int y :: .int x :: st) h = Rr X d MTa_digit 28 L (.int (x + y) :: st) h := Rr_nx d_MTa_digit_27 rfl
theorem r_MTa_digit_28 {a : Nat} {x : Int32} (hq : qI a 8 2 = true) : Rr X d MTa_digit 28 L (.int x :: .ref a :: st) (Wd mu la ro et) = Rr X d MTa_digit 31 L st (Wd (up2 mu a 2 x) la ro et) := R_pfI d_MTa_digit_28 ff_8_17 hq
theorem r_MTa_digit_31 {l0 l1 : Value} {x : Int32} : Rr X d MTa_digit 31 [l0, l1, .int x] st h = Rr X d MTa_digit 32 [l0, l1, .int x] (.int x :: st) h := Rr_nx d_MTa_digit_31 rfl
theorem r_MTa_digit_32 : Rr X d MTa_digit 32 L st h = Rr X d MTa_digit 34 L (.int (48) :: st) h := Rr_nx d_MTa_digit_32 rfl
theorem r_MTa_digit_34 {x y : Int32} : Rr X d MTa_digit 34 L (.int y :: .int x :: st) h = Rr X d MTa_digit 35 L (.int (x - y) :: st) h := Rr_nx d_MTa_digit_34 rfl
theorem r_MTa_digit_35 {x : Int32} : Rr X d MTa_digit 35 L [.int x] h = some (some (.int x), h) := R_ir d_MTa_digit_35 rfl
theorem d_MTa_number_0 : decode MTa_number.2.2.1 0 = .ok (.aload_n 0, 1) := by decide +kernel
theorem d_MTa_number_1 : decode MTa_number.2.2.1 1 = .ok (.iconst 0, 1) := by decide +kernel
theorem d_MTa_number_2 : decode MTa_number.2.2.1 2 = .ok (.invokevirtual 24, 3) := by decide +kernel
theorem d_MTa_number_5 : decode MTa_number.2.2.1 5 = .ok (.istore_n 2, 1) := by decide +kernel
theorem d_MTa_number_6 : decode MTa_number.2.2.1 6 = .ok (.iload_n 2, 1) := by decide +kernel
theorem d_MTa_number_7 : decode MTa_number.2.2.1 7 = .ok (.ifCond .lt 7, 3) := by decide +kernel
theorem d_MTa_number_10 : decode MTa_number.2.2.1 10 = .ok (.iconst 1, 1) := by decide +kernel
theorem d_MTa_number_11 : decode MTa_number.2.2.1 11 = .ok (.goto 4, 3) := by decide +kernel
theorem d_MTa_number_14 : decode MTa_number.2.2.1 14 = .ok (.iconst 0, 1) := by decide +kernel
theorem d_MTa_number_15 : decode MTa_number.2.2.1 15 = .ok (.istore_n 3, 1) := by decide +kernel
theorem d_MTa_number_16 : decode MTa_number.2.2.1 16 = .ok (.iconst 1, 1) := by decide +kernel
theorem d_MTa_number_17 : decode MTa_number.2.2.1 17 = .ok (.istore 4, 2) := by decide +kernel
theorem d_MTa_number_19 : decode MTa_number.2.2.1 19 = .ok (.iload 4, 2) := by decide +kernel
theorem d_MTa_number_21 : decode MTa_number.2.2.1 21 = .ok (.iload_n 1, 1) := by decide +kernel
theorem d_MTa_number_22 : decode MTa_number.2.2.1 22 = .ok (.if_icmp .ge 43, 3) := by decide +kernel
theorem d_MTa_number_25 : decode MTa_number.2.2.1 25 = .ok (.iload_n 3, 1) := by decide +kernel
theorem d_MTa_number_26 : decode MTa_number.2.2.1 26 = .ok (.ifCond .eq 39, 3) := by decide +kernel
theorem d_MTa_number_29 : decode MTa_number.2.2.1 29 = .ok (.aload_n 0, 1) := by decide +kernel
theorem d_MTa_number_30 : decode MTa_number.2.2.1 30 = .ok (.iconst 0, 1) := by decide +kernel
theorem d_MTa_number_31 : decode MTa_number.2.2.1 31 = .ok (.invokevirtual 24, 3) := by decide +kernel
theorem d_MTa_number_34 : decode MTa_number.2.2.1 34 = .ok (.istore 5, 2) := by decide +kernel
theorem d_MTa_number_36 : decode MTa_number.2.2.1 36 = .ok (.iload 5, 2) := by decide +kernel
theorem d_MTa_number_38 : decode MTa_number.2.2.1 38 = .ok (.ifCond .lt 7, 3) := by decide +kernel
theorem d_MTa_number_41 : decode MTa_number.2.2.1 41 = .ok (.iconst 1, 1) := by decide +kernel
theorem d_MTa_number_42 : decode MTa_number.2.2.1 42 = .ok (.goto 4, 3) := by decide +kernel
theorem d_MTa_number_45 : decode MTa_number.2.2.1 45 = .ok (.iconst 0, 1) := by decide +kernel
theorem d_MTa_number_46 : decode MTa_number.2.2.1 46 = .ok (.istore_n 3, 1) := by decide +kernel
theorem d_MTa_number_47 : decode MTa_number.2.2.1 47 = .ok (.iload_n 3, 1) := by decide +kernel
theorem d_MTa_number_48 : decode MTa_number.2.2.1 48 = .ok (.ifCond .eq 11, 3) := by decide +kernel
theorem d_MTa_number_51 : decode MTa_number.2.2.1 51 = .ok (.bipush 10, 2) := by decide +kernel
theorem d_MTa_number_53 : decode MTa_number.2.2.1 53 = .ok (.iload_n 2, 1) := by decide +kernel
theorem d_MTa_number_54 : decode MTa_number.2.2.1 54 = .ok (.imul, 1) := by decide +kernel
theorem d_MTa_number_55 : decode MTa_number.2.2.1 55 = .ok (.iload 5, 2) := by decide +kernel
theorem d_MTa_number_57 : decode MTa_number.2.2.1 57 = .ok (.iadd, 1) := by decide +kernel
theorem d_MTa_number_58 : decode MTa_number.2.2.1 58 = .ok (.istore_n 2, 1) := by decide +kernel
theorem d_MTa_number_59 : decode MTa_number.2.2.1 59 = .ok (.iinc 4 1, 3) := by decide +kernel
theorem d_MTa_number_62 : decode MTa_number.2.2.1 62 = .ok (.goto (-43), 3) := by decide +kernel
theorem d_MTa_number_65 : decode MTa_number.2.2.1 65 = .ok (.iload_n 2, 1) := by decide +kernel
theorem d_MTa_number_66 : decode MTa_number.2.2.1 66 = .ok (.ireturn, 1) := by decide +kernel
theorem r_MTa_number_0 {l1 l2 l3 l4 l5 : Value} {x : Nat} : Rr X d MTa_number 0 [.ref x, l1, l2, l3, l4, l5] st h = Rr X d MTa_number 1 [.ref x, l1, l2, l3, l4, l5] (.ref x :: st) h := Rr_nx d_MTa_number_0 rfl
theorem r_MTa_number_1 : Rr X d MTa_number 1 L st h = Rr X d MTa_number 2 L (.int (0) :: st) h := Rr_nx d_MTa_number_1 rfl
theorem fc_8_24 : fC 8 24 = some (0, 8, 1, MTa_digit) := rfl
theorem r_MTa_number_2 {y0 : Int32} {a : Nat} (hO : qO a 8 = true) (hc : ckS st = true) : Rr X (d + 1) MTa_number 2 L (.int y0 :: .ref a :: st) (Wd mu la ro et) = (Rr X d MTa_digit 0 [.ref a, .int y0, mkU] [] (Wd mu la ro et)).bind fun q => Rr X (d + 1) MTa_number 5 L (psh q.1 st) q.2 := R_iv (av := [.int y0]) d_MTa_number_2 fc_8_24 hO (ckS_le hc) rfl (Nat.le_of_ble_eq_true rfl) (Nat.le_of_ble_eq_true rfl)
theorem r_MTa_number_5 {l0 l1 l2 l3 l4 l5 : Value} {x : Int32} : Rr X d MTa_number 5 [l0, l1, l2, l3, l4, l5] (.int x :: st) h = Rr X d MTa_number 6 (sL [l0, l1, l2, l3, l4, l5] 2 (.int x)) st h := Rr_nx d_MTa_number_5 rfl
theorem r_MTa_number_6 {l0 l1 l3 l4 l5 : Value} {x : Int32} : Rr X d MTa_number 6 [l0, l1, .int x, l3, l4, l5] st h = Rr X d MTa_number 7 [l0, l1, .int x, l3, l4, l5] (.int x :: st) h := Rr_nx d_MTa_number_6 rfl
theorem r_MTa_number_7 {x : Int32} : Rr X d MTa_number 7 L (.int x :: st) h = if x < 0 then Rr X d MTa_number 14 L st h else Rr X d MTa_number 10 L st h := R_if_lt d_MTa_number_7 (by decide)
theorem r_MTa_number_10 : Rr X d MTa_number 10 L st h = Rr X d MTa_number 11 L (.int (1) :: st) h := Rr_nx d_MTa_number_10 rfl
theorem r_MTa_number_11 : Rr X d MTa_number 11 L st h = Rr X d MTa_number 15 L st h := R_goto d_MTa_number_11 (by decide)
theorem r_MTa_number_14 : Rr X d MTa_number 14 L st h = Rr X d MTa_number 15 L (.int (0) :: st) h := Rr_nx d_MTa_number_14 rfl
theorem r_MTa_number_15 {l0 l1 l2 l3 l4 l5 : Value} {x : Int32} : Rr X d MTa_number 15 [l0, l1, l2, l3, l4, l5] (.int x :: st) h = Rr X d MTa_number 16 (sL [l0, l1, l2, l3, l4, l5] 3 (.int x)) st h := Rr_nx d_MTa_number_15 rfl
theorem r_MTa_number_16 : Rr X d MTa_number 16 L st h = Rr X d MTa_number 17 L (.int (1) :: st) h := Rr_nx d_MTa_number_16 rfl
theorem r_MTa_number_17 {l0 l1 l2 l3 l4 l5 : Value} {x : Int32} : Rr X d MTa_number 17 [l0, l1, l2, l3, l4, l5] (.int x :: st) h = Rr X d MTa_number 19 (sL [l0, l1, l2, l3, l4, l5] 4 (.int x)) st h := Rr_nx d_MTa_number_17 rfl
theorem r_MTa_number_19 {l0 l1 l2 l3 l5 : Value} {x : Int32} : Rr X d MTa_number 19 [l0, l1, l2, l3, .int x, l5] st h = Rr X d MTa_number 21 [l0, l1, l2, l3, .int x, l5] (.int x :: st) h := Rr_nx d_MTa_number_19 rfl
theorem r_MTa_number_21 {l0 l2 l3 l4 l5 : Value} {x : Int32} : Rr X d MTa_number 21 [l0, .int x, l2, l3, l4, l5] st h = Rr X d MTa_number 22 [l0, .int x, l2, l3, l4, l5] (.int x :: st) h := Rr_nx d_MTa_number_21 rfl
theorem r_MTa_number_22 {x y : Int32} : Rr X d MTa_number 22 L (.int y :: .int x :: st) h = if y ≤ x then Rr X d MTa_number 65 L st h else Rr X d MTa_number 25 L st h := R_ic_ge d_MTa_number_22 (by decide)
theorem r_MTa_number_25 {l0 l1 l2 l4 l5 : Value} {x : Int32} : Rr X d MTa_number 25 [l0, l1, l2, .int x, l4, l5] st h = Rr X d MTa_number 26 [l0, l1, l2, .int x, l4, l5] (.int x :: st) h := Rr_nx d_MTa_number_25 rfl
theorem r_MTa_number_26 {x : Int32} : Rr X d MTa_number 26 L (.int x :: st) h = if x = 0 then Rr X d MTa_number 65 L st h else Rr X d MTa_number 29 L st h := R_if_eq d_MTa_number_26 (by decide)
theorem r_MTa_number_29 {l1 l2 l3 l4 l5 : Value} {x : Nat} : Rr X d MTa_number 29 [.ref x, l1, l2, l3, l4, l5] st h = Rr X d MTa_number 30 [.ref x, l1, l2, l3, l4, l5] (.ref x :: st) h := Rr_nx d_MTa_number_29 rfl
theorem r_MTa_number_30 : Rr X d MTa_number 30 L st h = Rr X d MTa_number 31 L (.int (0) :: st) h := Rr_nx d_MTa_number_30 rfl
theorem r_MTa_number_31 {y0 : Int32} {a : Nat} (hO : qO a 8 = true) (hc : ckS st = true) : Rr X (d + 1) MTa_number 31 L (.int y0 :: .ref a :: st) (Wd mu la ro et) = (Rr X d MTa_digit 0 [.ref a, .int y0, mkU] [] (Wd mu la ro et)).bind fun q => Rr X (d + 1) MTa_number 34 L (psh q.1 st) q.2 := R_iv (av := [.int y0]) d_MTa_number_31 fc_8_24 hO (ckS_le hc) rfl (Nat.le_of_ble_eq_true rfl) (Nat.le_of_ble_eq_true rfl)
theorem r_MTa_number_34 {l0 l1 l2 l3 l4 l5 : Value} {x : Int32} : Rr X d MTa_number 34 [l0, l1, l2, l3, l4, l5] (.int x :: st) h = Rr X d MTa_number 36 (sL [l0, l1, l2, l3, l4, l5] 5 (.int x)) st h := Rr_nx d_MTa_number_34 rfl
theorem r_MTa_number_36 {l0 l1 l2 l3 l4 : Value} {x : Int32} : Rr X d MTa_number 36 [l0, l1, l2, l3, l4, .int x] st h = Rr X d MTa_number 38 [l0, l1, l2, l3, l4, .int x] (.int x :: st) h := Rr_nx d_MTa_number_36 rfl
theorem r_MTa_number_38 {x : Int32} : Rr X d MTa_number 38 L (.int x :: st) h = if x < 0 then Rr X d MTa_number 45 L st h else Rr X d MTa_number 41 L st h := R_if_lt d_MTa_number_38 (by decide)
theorem r_MTa_number_41 : Rr X d MTa_number 41 L st h = Rr X d MTa_number 42 L (.int (1) :: st) h := Rr_nx d_MTa_number_41 rfl
theorem r_MTa_number_42 : Rr X d MTa_number 42 L st h = Rr X d MTa_number 46 L st h := R_goto d_MTa_number_42 (by decide)
theorem r_MTa_number_45 : Rr X d MTa_number 45 L st h = Rr X d MTa_number 46 L (.int (0) :: st) h := Rr_nx d_MTa_number_45 rfl
theorem r_MTa_number_46 {l0 l1 l2 l3 l4 l5 : Value} {x : Int32} : Rr X d MTa_number 46 [l0, l1, l2, l3, l4, l5] (.int x :: st) h = Rr X d MTa_number 47 (sL [l0, l1, l2, l3, l4, l5] 3 (.int x)) st h := Rr_nx d_MTa_number_46 rfl
theorem r_MTa_number_47 {l0 l1 l2 l4 l5 : Value} {x : Int32} : Rr X d MTa_number 47 [l0, l1, l2, .int x, l4, l5] st h = Rr X d MTa_number 48 [l0, l1, l2, .int x, l4, l5] (.int x :: st) h := Rr_nx d_MTa_number_47 rfl
theorem r_MTa_number_48 {x : Int32} : Rr X d MTa_number 48 L (.int x :: st) h = if x = 0 then Rr X d MTa_number 59 L st h else Rr X d MTa_number 51 L st h := R_if_eq d_MTa_number_48 (by decide)
theorem r_MTa_number_51 : Rr X d MTa_number 51 L st h = Rr X d MTa_number 53 L (.int (10) :: st) h := Rr_nx d_MTa_number_51 rfl
theorem r_MTa_number_53 {l0 l1 l3 l4 l5 : Value} {x : Int32} : Rr X d MTa_number 53 [l0, l1, .int x, l3, l4, l5] st h = Rr X d MTa_number 54 [l0, l1, .int x, l3, l4, l5] (.int x :: st) h := Rr_nx d_MTa_number_53 rfl
theorem r_MTa_number_54 {x y : Int32} : Rr X d MTa_number 54 L (.int y :: .int x :: st) h = Rr X d MTa_number 55 L (.int (x * y) :: st) h := Rr_nx d_MTa_number_54 rfl
theorem r_MTa_number_55 {l0 l1 l2 l3 l4 : Value} {x : Int32} : Rr X d MTa_number 55 [l0, l1, l2, l3, l4, .int x] st h = Rr X d MTa_number 57 [l0, l1, l2, l3, l4, .int x] (.int x :: st) h := Rr_nx d_MTa_number_55 rfl
theorem r_MTa_number_57 {x y : Int32} : Rr X d MTa_number 57 L (.int y :: .int x :: st) h = Rr X d MTa_number 58 L (.int (x + y) :: st) h := Rr_nx d_MTa_number_57 rfl
theorem r_MTa_number_58 {l0 l1 l2 l3 l4 l5 : Value} {x : Int32} : Rr X d MTa_number 58 [l0, l1, l2, l3, l4, l5] (.int x :: st) h = Rr X d MTa_number 59 (sL [l0, l1, l2, l3, l4, l5] 2 (.int x)) st h := Rr_nx d_MTa_number_58 rfl
theorem r_MTa_number_59 {l0 l1 l2 l3 l5 : Value} {x : Int32} : Rr X d MTa_number 59 [l0, l1, l2, l3, .int x, l5] st h = Rr X d MTa_number 62 (sL [l0, l1, l2, l3, .int x, l5] 4 (.int (x + (1)))) st h := Rr_nx d_MTa_number_59 rfl
theorem r_MTa_number_62 : Rr X d MTa_number 62 L st h = Rr X d MTa_number 19 L st h := R_goto d_MTa_number_62 (by decide)
theorem r_MTa_number_65 {l0 l1 l3 l4 l5 : Value} {x : Int32} : Rr X d MTa_number 65 [l0, l1, .int x, l3, l4, l5] st h = Rr X d MTa_number 66 [l0, l1, .int x, l3, l4, l5] (.int x :: st) h := Rr_nx d_MTa_number_65 rfl
theorem r_MTa_number_66 {x : Int32} : Rr X d MTa_number 66 L [.int x] h = some (some (.int x), h) := R_ir d_MTa_number_66 rfl
theorem d_MSt_readFrom_0 : decode MSt_readFrom.2.2.1 0 = .ok (.aload_n 0, 1) := by decide +kernel
theorem d_MSt_readFrom_1 : decode MSt_readFrom.2.2.1 1 = .ok (.iconst 0, 1) := by decide +kernel
theorem d_MSt_readFrom_2 : decode MSt_readFrom.2.2.1 2 = .ok (.putfield 24, 3) := by decide +kernel
theorem d_MSt_readFrom_5 : decode MSt_readFrom.2.2.1 5 = .ok (.iconst 1, 1) := by decide +kernel
theorem d_MSt_readFrom_6 : decode MSt_readFrom.2.2.1 6 = .ok (.istore_n 2, 1) := by decide +kernel
theorem d_MSt_readFrom_7 : decode MSt_readFrom.2.2.1 7 = .ok (.iconst 0, 1) := by decide +kernel
theorem d_MSt_readFrom_8 : decode MSt_readFrom.2.2.1 8 = .ok (.istore_n 3, 1) := by decide +kernel
theorem d_MSt_readFrom_9 : decode MSt_readFrom.2.2.1 9 = .ok (.iload_n 3, 1) := by decide +kernel
theorem d_MSt_readFrom_10 : decode MSt_readFrom.2.2.1 10 = .ok (.bipush 12, 2) := by decide +kernel
theorem d_MSt_readFrom_12 : decode MSt_readFrom.2.2.1 12 = .ok (.if_icmp .ge 55, 3) := by decide +kernel
theorem d_MSt_readFrom_15 : decode MSt_readFrom.2.2.1 15 = .ok (.iload_n 2, 1) := by decide +kernel
theorem d_MSt_readFrom_16 : decode MSt_readFrom.2.2.1 16 = .ok (.ifCond .eq 51, 3) := by decide +kernel
theorem d_MSt_readFrom_19 : decode MSt_readFrom.2.2.1 19 = .ok (.aload_n 0, 1) := by decide +kernel
theorem d_MSt_readFrom_20 : decode MSt_readFrom.2.2.1 20 = .ok (.aload_n 1, 1) := by decide +kernel
theorem d_MSt_readFrom_21 : decode MSt_readFrom.2.2.1 21 = .ok (.iload_n 3, 1) := by decide +kernel
theorem d_MSt_readFrom_22 : decode MSt_readFrom.2.2.1 22 = .ok (.invokevirtual 28, 3) := by decide +kernel
theorem d_MSt_readFrom_25 : decode MSt_readFrom.2.2.1 25 = .ok (.ifCond .ne 5, 3) := by decide +kernel
theorem d_MSt_readFrom_28 : decode MSt_readFrom.2.2.1 28 = .ok (.iconst 0, 1) := by decide +kernel
theorem d_MSt_readFrom_29 : decode MSt_readFrom.2.2.1 29 = .ok (.ireturn, 1) := by decide +kernel
theorem d_MSt_readFrom_30 : decode MSt_readFrom.2.2.1 30 = .ok (.aload_n 0, 1) := by decide +kernel
theorem d_MSt_readFrom_31 : decode MSt_readFrom.2.2.1 31 = .ok (.iload_n 3, 1) := by decide +kernel
theorem d_MSt_readFrom_32 : decode MSt_readFrom.2.2.1 32 = .ok (.iconst 1, 1) := by decide +kernel
theorem d_MSt_readFrom_33 : decode MSt_readFrom.2.2.1 33 = .ok (.iadd, 1) := by decide +kernel
theorem d_MSt_readFrom_34 : decode MSt_readFrom.2.2.1 34 = .ok (.putfield 24, 3) := by decide +kernel
theorem d_MSt_readFrom_37 : decode MSt_readFrom.2.2.1 37 = .ok (.aload_n 0, 1) := by decide +kernel
theorem d_MSt_readFrom_38 : decode MSt_readFrom.2.2.1 38 = .ok (.getfield 24, 3) := by decide +kernel
theorem d_MSt_readFrom_41 : decode MSt_readFrom.2.2.1 41 = .ok (.bipush 12, 2) := by decide +kernel
theorem d_MSt_readFrom_43 : decode MSt_readFrom.2.2.1 43 = .ok (.if_icmp .ge 16, 3) := by decide +kernel
theorem d_MSt_readFrom_46 : decode MSt_readFrom.2.2.1 46 = .ok (.aload_n 1, 1) := by decide +kernel
theorem d_MSt_readFrom_47 : decode MSt_readFrom.2.2.1 47 = .ok (.bipush 59, 2) := by decide +kernel
theorem d_MSt_readFrom_49 : decode MSt_readFrom.2.2.1 49 = .ok (.invokevirtual 32, 3) := by decide +kernel
theorem d_MSt_readFrom_52 : decode MSt_readFrom.2.2.1 52 = .ok (.ifCond .eq 7, 3) := by decide +kernel
theorem d_MSt_readFrom_55 : decode MSt_readFrom.2.2.1 55 = .ok (.iconst 1, 1) := by decide +kernel
theorem d_MSt_readFrom_56 : decode MSt_readFrom.2.2.1 56 = .ok (.goto 4, 3) := by decide +kernel
theorem d_MSt_readFrom_59 : decode MSt_readFrom.2.2.1 59 = .ok (.iconst 0, 1) := by decide +kernel
theorem d_MSt_readFrom_60 : decode MSt_readFrom.2.2.1 60 = .ok (.istore_n 2, 1) := by decide +kernel
theorem d_MSt_readFrom_61 : decode MSt_readFrom.2.2.1 61 = .ok (.iinc 3 1, 3) := by decide +kernel
theorem d_MSt_readFrom_64 : decode MSt_readFrom.2.2.1 64 = .ok (.goto (-55), 3) := by decide +kernel
theorem d_MSt_readFrom_67 : decode MSt_readFrom.2.2.1 67 = .ok (.bipush 47, 2) := by decide +kernel
theorem d_MSt_readFrom_69 : decode MSt_readFrom.2.2.1 69 = .ok (.istore_n 3, 1) := by decide +kernel
theorem d_MSt_readFrom_70 : decode MSt_readFrom.2.2.1 70 = .ok (.iconst 0, 1) := by decide +kernel
theorem d_MSt_readFrom_71 : decode MSt_readFrom.2.2.1 71 = .ok (.istore 4, 2) := by decide +kernel
theorem d_MSt_readFrom_73 : decode MSt_readFrom.2.2.1 73 = .ok (.iload 4, 2) := by decide +kernel
theorem d_MSt_readFrom_75 : decode MSt_readFrom.2.2.1 75 = .ok (.aload_n 0, 1) := by decide +kernel
theorem d_MSt_readFrom_76 : decode MSt_readFrom.2.2.1 76 = .ok (.getfield 21, 3) := by decide +kernel
theorem d_MSt_readFrom_79 : decode MSt_readFrom.2.2.1 79 = .ok (.arraylength, 1) := by decide +kernel
theorem d_MSt_readFrom_80 : decode MSt_readFrom.2.2.1 80 = .ok (.if_icmp .ge 32, 3) := by decide +kernel
theorem d_MSt_readFrom_83 : decode MSt_readFrom.2.2.1 83 = .ok (.aload_n 1, 1) := by decide +kernel
theorem d_MSt_readFrom_84 : decode MSt_readFrom.2.2.1 84 = .ok (.iload_n 3, 1) := by decide +kernel
theorem d_MSt_readFrom_85 : decode MSt_readFrom.2.2.1 85 = .ok (.invokevirtual 32, 3) := by decide +kernel
theorem d_MSt_readFrom_88 : decode MSt_readFrom.2.2.1 88 = .ok (.ifCond .eq 13, 3) := by decide +kernel
theorem d_MSt_readFrom_91 : decode MSt_readFrom.2.2.1 91 = .ok (.aload_n 0, 1) := by decide +kernel
theorem d_MSt_readFrom_92 : decode MSt_readFrom.2.2.1 92 = .ok (.aload_n 1, 1) := by decide +kernel
theorem d_MSt_readFrom_93 : decode MSt_readFrom.2.2.1 93 = .ok (.iload 4, 2) := by decide +kernel
theorem d_MSt_readFrom_95 : decode MSt_readFrom.2.2.1 95 = .ok (.invokevirtual 38, 3) := by decide +kernel
theorem d_MSt_readFrom_98 : decode MSt_readFrom.2.2.1 98 = .ok (.ifCond .ne 5, 3) := by decide +kernel
theorem d_MSt_readFrom_101 : decode MSt_readFrom.2.2.1 101 = .ok (.iconst 0, 1) := by decide +kernel
theorem d_MSt_readFrom_102 : decode MSt_readFrom.2.2.1 102 = .ok (.ireturn, 1) := by decide +kernel
theorem d_MSt_readFrom_103 : decode MSt_readFrom.2.2.1 103 = .ok (.bipush 44, 2) := by decide +kernel
theorem d_MSt_readFrom_105 : decode MSt_readFrom.2.2.1 105 = .ok (.istore_n 3, 1) := by decide +kernel
theorem d_MSt_readFrom_106 : decode MSt_readFrom.2.2.1 106 = .ok (.iinc 4 1, 3) := by decide +kernel
theorem d_MSt_readFrom_109 : decode MSt_readFrom.2.2.1 109 = .ok (.goto (-36), 3) := by decide +kernel
theorem d_MSt_readFrom_112 : decode MSt_readFrom.2.2.1 112 = .ok (.aload_n 0, 1) := by decide +kernel
theorem d_MSt_readFrom_113 : decode MSt_readFrom.2.2.1 113 = .ok (.invokevirtual 41, 3) := by decide +kernel
theorem d_MSt_readFrom_116 : decode MSt_readFrom.2.2.1 116 = .ok (.aload_n 1, 1) := by decide +kernel
theorem d_MSt_readFrom_117 : decode MSt_readFrom.2.2.1 117 = .ok (.invokevirtual 44, 3) := by decide +kernel
theorem d_MSt_readFrom_120 : decode MSt_readFrom.2.2.1 120 = .ok (.ireturn, 1) := by decide +kernel
theorem r_MSt_readFrom_0 {l1 l2 l3 l4 : Value} {x : Nat} : Rr X d MSt_readFrom 0 [.ref x, l1, l2, l3, l4] st h = Rr X d MSt_readFrom 1 [.ref x, l1, l2, l3, l4] (.ref x :: st) h := Rr_nx d_MSt_readFrom_0 rfl
theorem r_MSt_readFrom_1 : Rr X d MSt_readFrom 1 L st h = Rr X d MSt_readFrom 2 L (.int (0) :: st) h := Rr_nx d_MSt_readFrom_1 rfl
theorem ff_7_24 : fF 7 24 = some (7, 4, 0, 0) := rfl
theorem r_MSt_readFrom_2 {a : Nat} {x : Int32} (hq : qI a 7 4 = true) : Rr X d MSt_readFrom 2 L (.int x :: .ref a :: st) (Wd mu la ro et) = Rr X d MSt_readFrom 5 L st (Wd (up2 mu a 4 x) la ro et) := R_pfI d_MSt_readFrom_2 ff_7_24 hq
theorem r_MSt_readFrom_5 : Rr X d MSt_readFrom 5 L st h = Rr X d MSt_readFrom 6 L (.int (1) :: st) h := Rr_nx d_MSt_readFrom_5 rfl
theorem r_MSt_readFrom_6 {l0 l1 l2 l3 l4 : Value} {x : Int32} : Rr X d MSt_readFrom 6 [l0, l1, l2, l3, l4] (.int x :: st) h = Rr X d MSt_readFrom 7 (sL [l0, l1, l2, l3, l4] 2 (.int x)) st h := Rr_nx d_MSt_readFrom_6 rfl
theorem r_MSt_readFrom_7 : Rr X d MSt_readFrom 7 L st h = Rr X d MSt_readFrom 8 L (.int (0) :: st) h := Rr_nx d_MSt_readFrom_7 rfl
theorem r_MSt_readFrom_8 {l0 l1 l2 l3 l4 : Value} {x : Int32} : Rr X d MSt_readFrom 8 [l0, l1, l2, l3, l4] (.int x :: st) h = Rr X d MSt_readFrom 9 (sL [l0, l1, l2, l3, l4] 3 (.int x)) st h := Rr_nx d_MSt_readFrom_8 rfl
theorem r_MSt_readFrom_9 {l0 l1 l2 l4 : Value} {x : Int32} : Rr X d MSt_readFrom 9 [l0, l1, l2, .int x, l4] st h = Rr X d MSt_readFrom 10 [l0, l1, l2, .int x, l4] (.int x :: st) h := Rr_nx d_MSt_readFrom_9 rfl
theorem r_MSt_readFrom_10 : Rr X d MSt_readFrom 10 L st h = Rr X d MSt_readFrom 12 L (.int (12) :: st) h := Rr_nx d_MSt_readFrom_10 rfl
theorem r_MSt_readFrom_12 {x y : Int32} : Rr X d MSt_readFrom 12 L (.int y :: .int x :: st) h = if y ≤ x then Rr X d MSt_readFrom 67 L st h else Rr X d MSt_readFrom 15 L st h := R_ic_ge d_MSt_readFrom_12 (by decide)
theorem r_MSt_readFrom_15 {l0 l1 l3 l4 : Value} {x : Int32} : Rr X d MSt_readFrom 15 [l0, l1, .int x, l3, l4] st h = Rr X d MSt_readFrom 16 [l0, l1, .int x, l3, l4] (.int x :: st) h := Rr_nx d_MSt_readFrom_15 rfl
theorem r_MSt_readFrom_16 {x : Int32} : Rr X d MSt_readFrom 16 L (.int x :: st) h = if x = 0 then Rr X d MSt_readFrom 67 L st h else Rr X d MSt_readFrom 19 L st h := R_if_eq d_MSt_readFrom_16 (by decide)
theorem r_MSt_readFrom_19 {l1 l2 l3 l4 : Value} {x : Nat} : Rr X d MSt_readFrom 19 [.ref x, l1, l2, l3, l4] st h = Rr X d MSt_readFrom 20 [.ref x, l1, l2, l3, l4] (.ref x :: st) h := Rr_nx d_MSt_readFrom_19 rfl
theorem r_MSt_readFrom_20 {l0 l2 l3 l4 : Value} {x : Nat} : Rr X d MSt_readFrom 20 [l0, .ref x, l2, l3, l4] st h = Rr X d MSt_readFrom 21 [l0, .ref x, l2, l3, l4] (.ref x :: st) h := Rr_nx d_MSt_readFrom_20 rfl
theorem r_MSt_readFrom_20n {l0 l2 l3 l4 : Value} : Rr X d MSt_readFrom 20 [l0, .null, l2, l3, l4] st h = Rr X d MSt_readFrom 21 [l0, .null, l2, l3, l4] (.null :: st) h := Rr_nx d_MSt_readFrom_20 rfl
theorem r_MSt_readFrom_21 {l0 l1 l2 l4 : Value} {x : Int32} : Rr X d MSt_readFrom 21 [l0, l1, l2, .int x, l4] st h = Rr X d MSt_readFrom 22 [l0, l1, l2, .int x, l4] (.int x :: st) h := Rr_nx d_MSt_readFrom_21 rfl
theorem fc_7_28 : fC 7 28 = some (0, 7, 2, MSt_readLump) := rfl
theorem r_MSt_readFrom_22 {y0 : Nat} {y1 : Int32} {a : Nat} (hO : qO a 7 = true) (hc : ckS st = true) : Rr X (d + 1) MSt_readFrom 22 L (.int y1 :: .ref y0 :: .ref a :: st) (Wd mu la ro et) = (Rr X d MSt_readLump 0 [.ref a, .ref y0, .int y1, mkU] [] (Wd mu la ro et)).bind fun q => Rr X (d + 1) MSt_readFrom 25 L (psh q.1 st) q.2 := R_iv (av := [.int y1, .ref y0]) d_MSt_readFrom_22 fc_7_28 hO (ckS_le hc) rfl (Nat.le_of_ble_eq_true rfl) (Nat.le_of_ble_eq_true rfl)
theorem r_MSt_readFrom_25 {x : Int32} : Rr X d MSt_readFrom 25 L (.int x :: st) h = if ¬ x = 0 then Rr X d MSt_readFrom 30 L st h else Rr X d MSt_readFrom 28 L st h := R_if_ne d_MSt_readFrom_25 (by decide)
theorem r_MSt_readFrom_28 : Rr X d MSt_readFrom 28 L st h = Rr X d MSt_readFrom 29 L (.int (0) :: st) h := Rr_nx d_MSt_readFrom_28 rfl
theorem r_MSt_readFrom_29 {x : Int32} : Rr X d MSt_readFrom 29 L [.int x] h = if x = 0 ∨ x = 1 then some (some (.int x), h) else none := R_zr d_MSt_readFrom_29 rfl
theorem r_MSt_readFrom_30 {l1 l2 l3 l4 : Value} {x : Nat} : Rr X d MSt_readFrom 30 [.ref x, l1, l2, l3, l4] st h = Rr X d MSt_readFrom 31 [.ref x, l1, l2, l3, l4] (.ref x :: st) h := Rr_nx d_MSt_readFrom_30 rfl
theorem r_MSt_readFrom_31 {l0 l1 l2 l4 : Value} {x : Int32} : Rr X d MSt_readFrom 31 [l0, l1, l2, .int x, l4] st h = Rr X d MSt_readFrom 32 [l0, l1, l2, .int x, l4] (.int x :: st) h := Rr_nx d_MSt_readFrom_31 rfl
theorem r_MSt_readFrom_32 : Rr X d MSt_readFrom 32 L st h = Rr X d MSt_readFrom 33 L (.int (1) :: st) h := Rr_nx d_MSt_readFrom_32 rfl
theorem r_MSt_readFrom_33 {x y : Int32} : Rr X d MSt_readFrom 33 L (.int y :: .int x :: st) h = Rr X d MSt_readFrom 34 L (.int (x + y) :: st) h := Rr_nx d_MSt_readFrom_33 rfl
theorem r_MSt_readFrom_34 {a : Nat} {x : Int32} (hq : qI a 7 4 = true) : Rr X d MSt_readFrom 34 L (.int x :: .ref a :: st) (Wd mu la ro et) = Rr X d MSt_readFrom 37 L st (Wd (up2 mu a 4 x) la ro et) := R_pfI d_MSt_readFrom_34 ff_7_24 hq
theorem r_MSt_readFrom_37 {l1 l2 l3 l4 : Value} {x : Nat} : Rr X d MSt_readFrom 37 [.ref x, l1, l2, l3, l4] st h = Rr X d MSt_readFrom 38 [.ref x, l1, l2, l3, l4] (.ref x :: st) h := Rr_nx d_MSt_readFrom_37 rfl
theorem r_MSt_readFrom_38 {a : Nat} (hq : qI a 7 4 = true) : Rr X d MSt_readFrom 38 L (.ref a :: st) (Wd mu la ro et) = Rr X d MSt_readFrom 41 L (.int (mu a 4) :: st) (Wd mu la ro et) := R_gfI d_MSt_readFrom_38 ff_7_24 hq
theorem r_MSt_readFrom_41 : Rr X d MSt_readFrom 41 L st h = Rr X d MSt_readFrom 43 L (.int (12) :: st) h := Rr_nx d_MSt_readFrom_41 rfl
theorem r_MSt_readFrom_43 {x y : Int32} : Rr X d MSt_readFrom 43 L (.int y :: .int x :: st) h = if y ≤ x then Rr X d MSt_readFrom 59 L st h else Rr X d MSt_readFrom 46 L st h := R_ic_ge d_MSt_readFrom_43 (by decide)
theorem r_MSt_readFrom_46 {l0 l2 l3 l4 : Value} {x : Nat} : Rr X d MSt_readFrom 46 [l0, .ref x, l2, l3, l4] st h = Rr X d MSt_readFrom 47 [l0, .ref x, l2, l3, l4] (.ref x :: st) h := Rr_nx d_MSt_readFrom_46 rfl
theorem r_MSt_readFrom_46n {l0 l2 l3 l4 : Value} : Rr X d MSt_readFrom 46 [l0, .null, l2, l3, l4] st h = Rr X d MSt_readFrom 47 [l0, .null, l2, l3, l4] (.null :: st) h := Rr_nx d_MSt_readFrom_46 rfl
theorem r_MSt_readFrom_47 : Rr X d MSt_readFrom 47 L st h = Rr X d MSt_readFrom 49 L (.int (59) :: st) h := Rr_nx d_MSt_readFrom_47 rfl
theorem fc_7_32 : fC 7 32 = some (0, 8, 1, MTa_skip) := rfl
theorem r_MSt_readFrom_49 {y0 : Int32} {a : Nat} (hO : qO a 8 = true) (hc : ckS st = true) : Rr X (d + 1) MSt_readFrom 49 L (.int y0 :: .ref a :: st) (Wd mu la ro et) = (Rr X d MTa_skip 0 [.ref a, .int y0] [] (Wd mu la ro et)).bind fun q => Rr X (d + 1) MSt_readFrom 52 L (psh q.1 st) q.2 := R_iv (av := [.int y0]) d_MSt_readFrom_49 fc_7_32 hO (ckS_le hc) rfl (Nat.le_of_ble_eq_true rfl) (Nat.le_of_ble_eq_true rfl)
theorem r_MSt_readFrom_52 {x : Int32} : Rr X d MSt_readFrom 52 L (.int x :: st) h = if x = 0 then Rr X d MSt_readFrom 59 L st h else Rr X d MSt_readFrom 55 L st h := R_if_eq d_MSt_readFrom_52 (by decide)
theorem r_MSt_readFrom_55 : Rr X d MSt_readFrom 55 L st h = Rr X d MSt_readFrom 56 L (.int (1) :: st) h := Rr_nx d_MSt_readFrom_55 rfl
theorem r_MSt_readFrom_56 : Rr X d MSt_readFrom 56 L st h = Rr X d MSt_readFrom 60 L st h := R_goto d_MSt_readFrom_56 (by decide)
theorem r_MSt_readFrom_59 : Rr X d MSt_readFrom 59 L st h = Rr X d MSt_readFrom 60 L (.int (0) :: st) h := Rr_nx d_MSt_readFrom_59 rfl
theorem r_MSt_readFrom_60 {l0 l1 l2 l3 l4 : Value} {x : Int32} : Rr X d MSt_readFrom 60 [l0, l1, l2, l3, l4] (.int x :: st) h = Rr X d MSt_readFrom 61 (sL [l0, l1, l2, l3, l4] 2 (.int x)) st h := Rr_nx d_MSt_readFrom_60 rfl
theorem r_MSt_readFrom_61 {l0 l1 l2 l4 : Value} {x : Int32} : Rr X d MSt_readFrom 61 [l0, l1, l2, .int x, l4] st h = Rr X d MSt_readFrom 64 (sL [l0, l1, l2, .int x, l4] 3 (.int (x + (1)))) st h := Rr_nx d_MSt_readFrom_61 rfl
theorem r_MSt_readFrom_64 : Rr X d MSt_readFrom 64 L st h = Rr X d MSt_readFrom 9 L st h := R_goto d_MSt_readFrom_64 (by decide)
theorem r_MSt_readFrom_67 : Rr X d MSt_readFrom 67 L st h = Rr X d MSt_readFrom 69 L (.int (47) :: st) h := Rr_nx d_MSt_readFrom_67 rfl
theorem r_MSt_readFrom_69 {l0 l1 l2 l3 l4 : Value} {x : Int32} : Rr X d MSt_readFrom 69 [l0, l1, l2, l3, l4] (.int x :: st) h = Rr X d MSt_readFrom 70 (sL [l0, l1, l2, l3, l4] 3 (.int x)) st h := Rr_nx d_MSt_readFrom_69 rfl
theorem r_MSt_readFrom_70 : Rr X d MSt_readFrom 70 L st h = Rr X d MSt_readFrom 71 L (.int (0) :: st) h := Rr_nx d_MSt_readFrom_70 rfl
theorem r_MSt_readFrom_71 {l0 l1 l2 l3 l4 : Value} {x : Int32} : Rr X d MSt_readFrom 71 [l0, l1, l2, l3, l4] (.int x :: st) h = Rr X d MSt_readFrom 73 (sL [l0, l1, l2, l3, l4] 4 (.int x)) st h := Rr_nx d_MSt_readFrom_71 rfl
theorem r_MSt_readFrom_73 {l0 l1 l2 l3 : Value} {x : Int32} : Rr X d MSt_readFrom 73 [l0, l1, l2, l3, .int x] st h = Rr X d MSt_readFrom 75 [l0, l1, l2, l3, .int x] (.int x :: st) h := Rr_nx d_MSt_readFrom_73 rfl
theorem r_MSt_readFrom_75 {l1 l2 l3 l4 : Value} {x : Nat} : Rr X d MSt_readFrom 75 [.ref x, l1, l2, l3, l4] st h = Rr X d MSt_readFrom 76 [.ref x, l1, l2, l3, l4] (.ref x :: st) h := Rr_nx d_MSt_readFrom_75 rfl
theorem ff_7_21 : fF 7 21 = some (7, 3, 1, 1) := rfl
theorem r_MSt_readFrom_76 {a : Nat} (hq : (qR a 7 3).isSome = true) : Rr X d MSt_readFrom 76 L (.ref a :: st) (Wd mu la ro et) = Rr X d MSt_readFrom 79 L (.ref (qRd a 7 3) :: st) (Wd mu la ro et) := R_gfR d_MSt_readFrom_76 ff_7_21 hq
theorem r_MSt_readFrom_79 {a : Nat} (hq : (qL a).isSome = true) : Rr X d MSt_readFrom 79 L (.ref a :: st) (Wd mu la ro et) = Rr X d MSt_readFrom 80 L (.int (Int32.ofNat (qLd a)) :: st) (Wd mu la ro et) := R_lenW d_MSt_readFrom_79 hq
theorem r_MSt_readFrom_80 {x y : Int32} : Rr X d MSt_readFrom 80 L (.int y :: .int x :: st) h = if y ≤ x then Rr X d MSt_readFrom 112 L st h else Rr X d MSt_readFrom 83 L st h := R_ic_ge d_MSt_readFrom_80 (by decide)
theorem r_MSt_readFrom_83 {l0 l2 l3 l4 : Value} {x : Nat} : Rr X d MSt_readFrom 83 [l0, .ref x, l2, l3, l4] st h = Rr X d MSt_readFrom 84 [l0, .ref x, l2, l3, l4] (.ref x :: st) h := Rr_nx d_MSt_readFrom_83 rfl
theorem r_MSt_readFrom_83n {l0 l2 l3 l4 : Value} : Rr X d MSt_readFrom 83 [l0, .null, l2, l3, l4] st h = Rr X d MSt_readFrom 84 [l0, .null, l2, l3, l4] (.null :: st) h := Rr_nx d_MSt_readFrom_83 rfl
theorem r_MSt_readFrom_84 {l0 l1 l2 l4 : Value} {x : Int32} : Rr X d MSt_readFrom 84 [l0, l1, l2, .int x, l4] st h = Rr X d MSt_readFrom 85 [l0, l1, l2, .int x, l4] (.int x :: st) h := Rr_nx d_MSt_readFrom_84 rfl
theorem r_MSt_readFrom_85 {y0 : Int32} {a : Nat} (hO : qO a 8 = true) (hc : ckS st = true) : Rr X (d + 1) MSt_readFrom 85 L (.int y0 :: .ref a :: st) (Wd mu la ro et) = (Rr X d MTa_skip 0 [.ref a, .int y0] [] (Wd mu la ro et)).bind fun q => Rr X (d + 1) MSt_readFrom 88 L (psh q.1 st) q.2 := R_iv (av := [.int y0]) d_MSt_readFrom_85 fc_7_32 hO (ckS_le hc) rfl (Nat.le_of_ble_eq_true rfl) (Nat.le_of_ble_eq_true rfl)
theorem r_MSt_readFrom_88 {x : Int32} : Rr X d MSt_readFrom 88 L (.int x :: st) h = if x = 0 then Rr X d MSt_readFrom 101 L st h else Rr X d MSt_readFrom 91 L st h := R_if_eq d_MSt_readFrom_88 (by decide)
theorem r_MSt_readFrom_91 {l1 l2 l3 l4 : Value} {x : Nat} : Rr X d MSt_readFrom 91 [.ref x, l1, l2, l3, l4] st h = Rr X d MSt_readFrom 92 [.ref x, l1, l2, l3, l4] (.ref x :: st) h := Rr_nx d_MSt_readFrom_91 rfl
theorem r_MSt_readFrom_92 {l0 l2 l3 l4 : Value} {x : Nat} : Rr X d MSt_readFrom 92 [l0, .ref x, l2, l3, l4] st h = Rr X d MSt_readFrom 93 [l0, .ref x, l2, l3, l4] (.ref x :: st) h := Rr_nx d_MSt_readFrom_92 rfl
theorem r_MSt_readFrom_92n {l0 l2 l3 l4 : Value} : Rr X d MSt_readFrom 92 [l0, .null, l2, l3, l4] st h = Rr X d MSt_readFrom 93 [l0, .null, l2, l3, l4] (.null :: st) h := Rr_nx d_MSt_readFrom_92 rfl
theorem r_MSt_readFrom_93 {l0 l1 l2 l3 : Value} {x : Int32} : Rr X d MSt_readFrom 93 [l0, l1, l2, l3, .int x] st h = Rr X d MSt_readFrom 95 [l0, l1, l2, l3, .int x] (.int x :: st) h := Rr_nx d_MSt_readFrom_93 rfl
theorem fc_7_38 : fC 7 38 = some (0, 7, 2, MSt_readRate) := rfl
theorem r_MSt_readFrom_95 {y0 : Nat} {y1 : Int32} {a : Nat} (hO : qO a 7 = true) (hc : ckS st = true) : Rr X (d + 1) MSt_readFrom 95 L (.int y1 :: .ref y0 :: .ref a :: st) (Wd mu la ro et) = (Rr X d MSt_readRate 0 [.ref a, .ref y0, .int y1, mkU, mkU] [] (Wd mu la ro et)).bind fun q => Rr X (d + 1) MSt_readFrom 98 L (psh q.1 st) q.2 := R_iv (av := [.int y1, .ref y0]) d_MSt_readFrom_95 fc_7_38 hO (ckS_le hc) rfl (Nat.le_of_ble_eq_true rfl) (Nat.le_of_ble_eq_true rfl)
theorem r_MSt_readFrom_98 {x : Int32} : Rr X d MSt_readFrom 98 L (.int x :: st) h = if ¬ x = 0 then Rr X d MSt_readFrom 103 L st h else Rr X d MSt_readFrom 101 L st h := R_if_ne d_MSt_readFrom_98 (by decide)
theorem r_MSt_readFrom_101 : Rr X d MSt_readFrom 101 L st h = Rr X d MSt_readFrom 102 L (.int (0) :: st) h := Rr_nx d_MSt_readFrom_101 rfl
theorem r_MSt_readFrom_102 {x : Int32} : Rr X d MSt_readFrom 102 L [.int x] h = if x = 0 ∨ x = 1 then some (some (.int x), h) else none := R_zr d_MSt_readFrom_102 rfl
theorem r_MSt_readFrom_103 : Rr X d MSt_readFrom 103 L st h = Rr X d MSt_readFrom 105 L (.int (44) :: st) h := Rr_nx d_MSt_readFrom_103 rfl
theorem r_MSt_readFrom_105 {l0 l1 l2 l3 l4 : Value} {x : Int32} : Rr X d MSt_readFrom 105 [l0, l1, l2, l3, l4] (.int x :: st) h = Rr X d MSt_readFrom 106 (sL [l0, l1, l2, l3, l4] 3 (.int x)) st h := Rr_nx d_MSt_readFrom_105 rfl
theorem r_MSt_readFrom_106 {l0 l1 l2 l3 : Value} {x : Int32} : Rr X d MSt_readFrom 106 [l0, l1, l2, l3, .int x] st h = Rr X d MSt_readFrom 109 (sL [l0, l1, l2, l3, .int x] 4 (.int (x + (1)))) st h := Rr_nx d_MSt_readFrom_106 rfl
theorem r_MSt_readFrom_109 : Rr X d MSt_readFrom 109 L st h = Rr X d MSt_readFrom 73 L st h := R_goto d_MSt_readFrom_109 (by decide)
theorem r_MSt_readFrom_112 {l1 l2 l3 l4 : Value} {x : Nat} : Rr X d MSt_readFrom 112 [.ref x, l1, l2, l3, l4] st h = Rr X d MSt_readFrom 113 [.ref x, l1, l2, l3, l4] (.ref x :: st) h := Rr_nx d_MSt_readFrom_112 rfl
theorem fc_7_41 : fC 7 41 = some (0, 7, 0, MSt_weigh) := rfl
theorem r_MSt_readFrom_113 {a : Nat} (hO : qO a 7 = true) (hc : ckS st = true) : Rr X (d + 1) MSt_readFrom 113 L (.ref a :: st) (Wd mu la ro et) = (Rr X d MSt_weigh 0 [.ref a, mkU, mkU, mkU, mkU] [] (Wd mu la ro et)).bind fun q => Rr X (d + 1) MSt_readFrom 116 L (psh q.1 st) q.2 := R_iv (av := []) d_MSt_readFrom_113 fc_7_41 hO (ckS_le hc) rfl (Nat.le_of_ble_eq_true rfl) (Nat.le_of_ble_eq_true rfl)
theorem r_MSt_readFrom_116 {l0 l2 l3 l4 : Value} {x : Nat} : Rr X d MSt_readFrom 116 [l0, .ref x, l2, l3, l4] st h = Rr X d MSt_readFrom 117 [l0, .ref x, l2, l3, l4] (.ref x :: st) h := Rr_nx d_MSt_readFrom_116 rfl
theorem r_MSt_readFrom_116n {l0 l2 l3 l4 : Value} : Rr X d MSt_readFrom 116 [l0, .null, l2, l3, l4] st h = Rr X d MSt_readFrom 117 [l0, .null, l2, l3, l4] (.null :: st) h := Rr_nx d_MSt_readFrom_116 rfl
theorem fc_7_44 : fC 7 44 = some (0, 8, 0, MTa_isAtEnd) := rfl
theorem r_MSt_readFrom_117 {a : Nat} (hO : qO a 8 = true) (hc : ckS st = true) : Rr X (d + 1) MSt_readFrom 117 L (.ref a :: st) (Wd mu la ro et) = (Rr X d MTa_isAtEnd 0 [.ref a] [] (Wd mu la ro et)).bind fun q => Rr X (d + 1) MSt_readFrom 120 L (psh q.1 st) q.2 := R_iv (av := []) d_MSt_readFrom_117 fc_7_44 hO (ckS_le hc) rfl (Nat.le_of_ble_eq_true rfl) (Nat.le_of_ble_eq_true rfl)
theorem r_MSt_readFrom_120 {x : Int32} : Rr X d MSt_readFrom 120 L [.int x] h = if x = 0 ∨ x = 1 then some (some (.int x), h) else none := R_zr d_MSt_readFrom_120 rfl
theorem d_MSt_readLump_0 : decode MSt_readLump.2.2.1 0 = .ok (.aload_n 1, 1) := by decide +kernel
theorem d_MSt_readLump_1 : decode MSt_readLump.2.2.1 1 = .ok (.iconst 1, 1) := by decide +kernel
theorem d_MSt_readLump_2 : decode MSt_readLump.2.2.1 2 = .ok (.invokevirtual 48, 3) := by decide +kernel
theorem d_MSt_readLump_5 : decode MSt_readLump.2.2.1 5 = .ok (.istore_n 3, 1) := by decide +kernel
theorem d_MSt_readLump_6 : decode MSt_readLump.2.2.1 6 = .ok (.iload_n 3, 1) := by decide +kernel
theorem d_MSt_readLump_7 : decode MSt_readLump.2.2.1 7 = .ok (.ifCond .lt 16, 3) := by decide +kernel
theorem d_MSt_readLump_10 : decode MSt_readLump.2.2.1 10 = .ok (.iload_n 2, 1) := by decide +kernel
theorem d_MSt_readLump_11 : decode MSt_readLump.2.2.1 11 = .ok (.ifCond .lt 12, 3) := by decide +kernel
theorem d_MSt_readLump_14 : decode MSt_readLump.2.2.1 14 = .ok (.iload_n 2, 1) := by decide +kernel
theorem d_MSt_readLump_15 : decode MSt_readLump.2.2.1 15 = .ok (.aload_n 0, 1) := by decide +kernel
theorem d_MSt_readLump_16 : decode MSt_readLump.2.2.1 16 = .ok (.getfield 11, 3) := by decide +kernel
theorem d_MSt_readLump_19 : decode MSt_readLump.2.2.1 19 = .ok (.arraylength, 1) := by decide +kernel
theorem d_MSt_readLump_20 : decode MSt_readLump.2.2.1 20 = .ok (.if_icmp .lt 5, 3) := by decide +kernel
theorem d_MSt_readLump_23 : decode MSt_readLump.2.2.1 23 = .ok (.iconst 0, 1) := by decide +kernel
theorem d_MSt_readLump_24 : decode MSt_readLump.2.2.1 24 = .ok (.ireturn, 1) := by decide +kernel
theorem d_MSt_readLump_25 : decode MSt_readLump.2.2.1 25 = .ok (.aload_n 0, 1) := by decide +kernel
theorem d_MSt_readLump_26 : decode MSt_readLump.2.2.1 26 = .ok (.getfield 11, 3) := by decide +kernel
theorem d_MSt_readLump_29 : decode MSt_readLump.2.2.1 29 = .ok (.iload_n 2, 1) := by decide +kernel
theorem d_MSt_readLump_30 : decode MSt_readLump.2.2.1 30 = .ok (.iload_n 3, 1) := by decide +kernel
theorem d_MSt_readLump_31 : decode MSt_readLump.2.2.1 31 = .ok (.iastore, 1) := by decide +kernel
theorem d_MSt_readLump_32 : decode MSt_readLump.2.2.1 32 = .ok (.aload_n 1, 1) := by decide +kernel
theorem d_MSt_readLump_33 : decode MSt_readLump.2.2.1 33 = .ok (.aload_n 0, 1) := by decide +kernel
theorem d_MSt_readLump_34 : decode MSt_readLump.2.2.1 34 = .ok (.getfield 15, 3) := by decide +kernel
theorem d_MSt_readLump_37 : decode MSt_readLump.2.2.1 37 = .ok (.iload_n 2, 1) := by decide +kernel
theorem d_MSt_readLump_38 : decode MSt_readLump.2.2.1 38 = .ok (.invokestatic 52, 3) := by decide +kernel
theorem d_MSt_readLump_41 : decode MSt_readLump.2.2.1 41 = .ok (.ifCond .eq 19, 3) := by decide +kernel
theorem d_MSt_readLump_44 : decode MSt_readLump.2.2.1 44 = .ok (.aload_n 1, 1) := by decide +kernel
theorem d_MSt_readLump_45 : decode MSt_readLump.2.2.1 45 = .ok (.aload_n 0, 1) := by decide +kernel
theorem d_MSt_readLump_46 : decode MSt_readLump.2.2.1 46 = .ok (.getfield 18, 3) := by decide +kernel
theorem d_MSt_readLump_49 : decode MSt_readLump.2.2.1 49 = .ok (.iload_n 2, 1) := by decide +kernel
theorem d_MSt_readLump_50 : decode MSt_readLump.2.2.1 50 = .ok (.invokestatic 52, 3) := by decide +kernel
theorem d_MSt_readLump_53 : decode MSt_readLump.2.2.1 53 = .ok (.ifCond .eq 7, 3) := by decide +kernel
theorem d_MSt_readLump_56 : decode MSt_readLump.2.2.1 56 = .ok (.iconst 1, 1) := by decide +kernel
theorem d_MSt_readLump_57 : decode MSt_readLump.2.2.1 57 = .ok (.goto 4, 3) := by decide +kernel
theorem d_MSt_readLump_60 : decode MSt_readLump.2.2.1 60 = .ok (.iconst 0, 1) := by decide +kernel
theorem d_MSt_readLump_61 : decode MSt_readLump.2.2.1 61 = .ok (.ireturn, 1) := by decide +kernel
theorem r_MSt_readLump_0 {l0 l2 l3 : Value} {x : Nat} : Rr X d MSt_readLump 0 [l0, .ref x, l2, l3] st h = Rr X d MSt_readLump 1 [l0, .ref x, l2, l3] (.ref x :: st) h := Rr_nx d_MSt_readLump_0 rfl
theorem r_MSt_readLump_0n {l0 l2 l3 : Value} : Rr X d MSt_readLump 0 [l0, .null, l2, l3] st h = Rr X d MSt_readLump 1 [l0, .null, l2, l3] (.null :: st) h := Rr_nx d_MSt_readLump_0 rfl
theorem r_MSt_readLump_1 : Rr X d MSt_readLump 1 L st h = Rr X d MSt_readLump 2 L (.int (1) :: st) h := Rr_nx d_MSt_readLump_1 rfl
theorem fc_7_48 : fC 7 48 = some (0, 8, 1, MTa_digit) := rfl
theorem r_MSt_readLump_2 {y0 : Int32} {a : Nat} (hO : qO a 8 = true) (hc : ckS st = true) : Rr X (d + 1) MSt_readLump 2 L (.int y0 :: .ref a :: st) (Wd mu la ro et) = (Rr X d MTa_digit 0 [.ref a, .int y0, mkU] [] (Wd mu la ro et)).bind fun q => Rr X (d + 1) MSt_readLump 5 L (psh q.1 st) q.2 := R_iv (av := [.int y0]) d_MSt_readLump_2 fc_7_48 hO (ckS_le hc) rfl (Nat.le_of_ble_eq_true rfl) (Nat.le_of_ble_eq_true rfl)
theorem r_MSt_readLump_5 {l0 l1 l2 l3 : Value} {x : Int32} : Rr X d MSt_readLump 5 [l0, l1, l2, l3] (.int x :: st) h = Rr X d MSt_readLump 6 (sL [l0, l1, l2, l3] 3 (.int x)) st h := Rr_nx d_MSt_readLump_5 rfl
theorem r_MSt_readLump_6 {l0 l1 l2 : Value} {x : Int32} : Rr X d MSt_readLump 6 [l0, l1, l2, .int x] st h = Rr X d MSt_readLump 7 [l0, l1, l2, .int x] (.int x :: st) h := Rr_nx d_MSt_readLump_6 rfl
theorem r_MSt_readLump_7 {x : Int32} : Rr X d MSt_readLump 7 L (.int x :: st) h = if x < 0 then Rr X d MSt_readLump 23 L st h else Rr X d MSt_readLump 10 L st h := R_if_lt d_MSt_readLump_7 (by decide)
theorem r_MSt_readLump_10 {l0 l1 l3 : Value} {x : Int32} : Rr X d MSt_readLump 10 [l0, l1, .int x, l3] st h = Rr X d MSt_readLump 11 [l0, l1, .int x, l3] (.int x :: st) h := Rr_nx d_MSt_readLump_10 rfl
theorem r_MSt_readLump_11 {x : Int32} : Rr X d MSt_readLump 11 L (.int x :: st) h = if x < 0 then Rr X d MSt_readLump 23 L st h else Rr X d MSt_readLump 14 L st h := R_if_lt d_MSt_readLump_11 (by decide)
theorem r_MSt_readLump_14 {l0 l1 l3 : Value} {x : Int32} : Rr X d MSt_readLump 14 [l0, l1, .int x, l3] st h = Rr X d MSt_readLump 15 [l0, l1, .int x, l3] (.int x :: st) h := Rr_nx d_MSt_readLump_14 rfl
theorem r_MSt_readLump_15 {l1 l2 l3 : Value} {x : Nat} : Rr X d MSt_readLump 15 [.ref x, l1, l2, l3] st h = Rr X d MSt_readLump 16 [.ref x, l1, l2, l3] (.ref x :: st) h := Rr_nx d_MSt_readLump_15 rfl
theorem ff_7_11 : fF 7 11 = some (7, 0, 1, 1) := rfl
theorem r_MSt_readLump_16 {a : Nat} (hq : (qR a 7 0).isSome = true) : Rr X d MSt_readLump 16 L (.ref a :: st) (Wd mu la ro et) = Rr X d MSt_readLump 19 L (.ref (qRd a 7 0) :: st) (Wd mu la ro et) := R_gfR d_MSt_readLump_16 ff_7_11 hq
theorem r_MSt_readLump_19 {a : Nat} (hq : (qL a).isSome = true) : Rr X d MSt_readLump 19 L (.ref a :: st) (Wd mu la ro et) = Rr X d MSt_readLump 20 L (.int (Int32.ofNat (qLd a)) :: st) (Wd mu la ro et) := R_lenW d_MSt_readLump_19 hq
theorem r_MSt_readLump_20 {x y : Int32} : Rr X d MSt_readLump 20 L (.int y :: .int x :: st) h = if x < y then Rr X d MSt_readLump 25 L st h else Rr X d MSt_readLump 23 L st h := R_ic_lt d_MSt_readLump_20 (by decide)
theorem r_MSt_readLump_23 : Rr X d MSt_readLump 23 L st h = Rr X d MSt_readLump 24 L (.int (0) :: st) h := Rr_nx d_MSt_readLump_23 rfl
theorem r_MSt_readLump_24 {x : Int32} : Rr X d MSt_readLump 24 L [.int x] h = if x = 0 ∨ x = 1 then some (some (.int x), h) else none := R_zr d_MSt_readLump_24 rfl
theorem r_MSt_readLump_25 {l1 l2 l3 : Value} {x : Nat} : Rr X d MSt_readLump 25 [.ref x, l1, l2, l3] st h = Rr X d MSt_readLump 26 [.ref x, l1, l2, l3] (.ref x :: st) h := Rr_nx d_MSt_readLump_25 rfl
theorem r_MSt_readLump_26 {a : Nat} (hq : (qR a 7 0).isSome = true) : Rr X d MSt_readLump 26 L (.ref a :: st) (Wd mu la ro et) = Rr X d MSt_readLump 29 L (.ref (qRd a 7 0) :: st) (Wd mu la ro et) := R_gfR d_MSt_readLump_26 ff_7_11 hq
theorem r_MSt_readLump_29 {l0 l1 l3 : Value} {x : Int32} : Rr X d MSt_readLump 29 [l0, l1, .int x, l3] st h = Rr X d MSt_readLump 30 [l0, l1, .int x, l3] (.int x :: st) h := Rr_nx d_MSt_readLump_29 rfl
theorem r_MSt_readLump_30 {l0 l1 l2 : Value} {x : Int32} : Rr X d MSt_readLump 30 [l0, l1, l2, .int x] st h = Rr X d MSt_readLump 31 [l0, l1, l2, .int x] (.int x :: st) h := Rr_nx d_MSt_readLump_30 rfl
theorem r_MSt_readLump_31 {a : Nat} {j x : Int32} (hq : (qA a 0).isSome = true) : Rr X d MSt_readLump 31 L (.int x :: .int j :: .ref a :: st) (Wd mu la ro et) = if j < 0 ∨ qAd a 0 ≤ j.toNatClampNeg then none else Rr X d MSt_readLump 32 L st (Wd (up2 mu a j.toNatClampNeg (x)) la ro et) := R_iasW d_MSt_readLump_31 hq
theorem r_MSt_readLump_32 {l0 l2 l3 : Value} {x : Nat} : Rr X d MSt_readLump 32 [l0, .ref x, l2, l3] st h = Rr X d MSt_readLump 33 [l0, .ref x, l2, l3] (.ref x :: st) h := Rr_nx d_MSt_readLump_32 rfl
theorem r_MSt_readLump_32n {l0 l2 l3 : Value} : Rr X d MSt_readLump 32 [l0, .null, l2, l3] st h = Rr X d MSt_readLump 33 [l0, .null, l2, l3] (.null :: st) h := Rr_nx d_MSt_readLump_32 rfl
theorem r_MSt_readLump_33 {l1 l2 l3 : Value} {x : Nat} : Rr X d MSt_readLump 33 [.ref x, l1, l2, l3] st h = Rr X d MSt_readLump 34 [.ref x, l1, l2, l3] (.ref x :: st) h := Rr_nx d_MSt_readLump_33 rfl
theorem ff_7_15 : fF 7 15 = some (7, 1, 1, 1) := rfl
theorem r_MSt_readLump_34 {a : Nat} (hq : (qR a 7 1).isSome = true) : Rr X d MSt_readLump 34 L (.ref a :: st) (Wd mu la ro et) = Rr X d MSt_readLump 37 L (.ref (qRd a 7 1) :: st) (Wd mu la ro et) := R_gfR d_MSt_readLump_34 ff_7_15 hq
theorem r_MSt_readLump_37 {l0 l1 l3 : Value} {x : Int32} : Rr X d MSt_readLump 37 [l0, l1, .int x, l3] st h = Rr X d MSt_readLump 38 [l0, l1, .int x, l3] (.int x :: st) h := Rr_nx d_MSt_readLump_37 rfl
theorem fc_7_52 : fC 7 52 = some (1, 0, 3, MSt_readSigned) := rfl
theorem r_MSt_readLump_38 {y0 : Nat} {y1 : Nat} {y2 : Int32} (hc : ckS st = true) : Rr X (d + 1) MSt_readLump 38 L (.int y2 :: .ref y1 :: .ref y0 :: st) h = (Rr X d MSt_readSigned 0 [.ref y0, .ref y1, .int y2, mkU, mkU] [] h).bind fun q => Rr X (d + 1) MSt_readLump 41 L (psh q.1 st) q.2 := R_is (av := [.int y2, .ref y1, .ref y0]) d_MSt_readLump_38 (Or.inl fc_7_52) (ckS_le hc) rfl (Nat.le_of_ble_eq_true rfl) (Nat.le_of_ble_eq_true rfl)
theorem r_MSt_readLump_41 {x : Int32} : Rr X d MSt_readLump 41 L (.int x :: st) h = if x = 0 then Rr X d MSt_readLump 60 L st h else Rr X d MSt_readLump 44 L st h := R_if_eq d_MSt_readLump_41 (by decide)
theorem r_MSt_readLump_44 {l0 l2 l3 : Value} {x : Nat} : Rr X d MSt_readLump 44 [l0, .ref x, l2, l3] st h = Rr X d MSt_readLump 45 [l0, .ref x, l2, l3] (.ref x :: st) h := Rr_nx d_MSt_readLump_44 rfl
theorem r_MSt_readLump_44n {l0 l2 l3 : Value} : Rr X d MSt_readLump 44 [l0, .null, l2, l3] st h = Rr X d MSt_readLump 45 [l0, .null, l2, l3] (.null :: st) h := Rr_nx d_MSt_readLump_44 rfl
theorem r_MSt_readLump_45 {l1 l2 l3 : Value} {x : Nat} : Rr X d MSt_readLump 45 [.ref x, l1, l2, l3] st h = Rr X d MSt_readLump 46 [.ref x, l1, l2, l3] (.ref x :: st) h := Rr_nx d_MSt_readLump_45 rfl
theorem ff_7_18 : fF 7 18 = some (7, 2, 1, 1) := rfl
theorem r_MSt_readLump_46 {a : Nat} (hq : (qR a 7 2).isSome = true) : Rr X d MSt_readLump 46 L (.ref a :: st) (Wd mu la ro et) = Rr X d MSt_readLump 49 L (.ref (qRd a 7 2) :: st) (Wd mu la ro et) := R_gfR d_MSt_readLump_46 ff_7_18 hq
theorem r_MSt_readLump_49 {l0 l1 l3 : Value} {x : Int32} : Rr X d MSt_readLump 49 [l0, l1, .int x, l3] st h = Rr X d MSt_readLump 50 [l0, l1, .int x, l3] (.int x :: st) h := Rr_nx d_MSt_readLump_49 rfl
theorem r_MSt_readLump_50 {y0 : Nat} {y1 : Nat} {y2 : Int32} (hc : ckS st = true) : Rr X (d + 1) MSt_readLump 50 L (.int y2 :: .ref y1 :: .ref y0 :: st) h = (Rr X d MSt_readSigned 0 [.ref y0, .ref y1, .int y2, mkU, mkU] [] h).bind fun q => Rr X (d + 1) MSt_readLump 53 L (psh q.1 st) q.2 := R_is (av := [.int y2, .ref y1, .ref y0]) d_MSt_readLump_50 (Or.inl fc_7_52) (ckS_le hc) rfl (Nat.le_of_ble_eq_true rfl) (Nat.le_of_ble_eq_true rfl)
theorem r_MSt_readLump_53 {x : Int32} : Rr X d MSt_readLump 53 L (.int x :: st) h = if x = 0 then Rr X d MSt_readLump 60 L st h else Rr X d MSt_readLump 56 L st h := R_if_eq d_MSt_readLump_53 (by decide)
theorem r_MSt_readLump_56 : Rr X d MSt_readLump 56 L st h = Rr X d MSt_readLump 57 L (.int (1) :: st) h := Rr_nx d_MSt_readLump_56 rfl
theorem r_MSt_readLump_57 : Rr X d MSt_readLump 57 L st h = Rr X d MSt_readLump 61 L st h := R_goto d_MSt_readLump_57 (by decide)
theorem r_MSt_readLump_60 : Rr X d MSt_readLump 60 L st h = Rr X d MSt_readLump 61 L (.int (0) :: st) h := Rr_nx d_MSt_readLump_60 rfl
theorem r_MSt_readLump_61 {x : Int32} : Rr X d MSt_readLump 61 L [.int x] h = if x = 0 ∨ x = 1 then some (some (.int x), h) else none := R_zr d_MSt_readLump_61 rfl
theorem d_MFl_readFrom_0 : decode MFl_readFrom.2.2.1 0 = .ok (.aload_n 0, 1) := by decide +kernel
theorem d_MFl_readFrom_1 : decode MFl_readFrom.2.2.1 1 = .ok (.iconst 0, 1) := by decide +kernel
theorem d_MFl_readFrom_2 : decode MFl_readFrom.2.2.1 2 = .ok (.putfield 24, 3) := by decide +kernel
theorem d_MFl_readFrom_5 : decode MFl_readFrom.2.2.1 5 = .ok (.iconst 1, 1) := by decide +kernel
theorem d_MFl_readFrom_6 : decode MFl_readFrom.2.2.1 6 = .ok (.istore_n 2, 1) := by decide +kernel
theorem d_MFl_readFrom_7 : decode MFl_readFrom.2.2.1 7 = .ok (.iconst 0, 1) := by decide +kernel
theorem d_MFl_readFrom_8 : decode MFl_readFrom.2.2.1 8 = .ok (.istore_n 3, 1) := by decide +kernel
theorem d_MFl_readFrom_9 : decode MFl_readFrom.2.2.1 9 = .ok (.iload_n 3, 1) := by decide +kernel
theorem d_MFl_readFrom_10 : decode MFl_readFrom.2.2.1 10 = .ok (.bipush 120, 2) := by decide +kernel
theorem d_MFl_readFrom_12 : decode MFl_readFrom.2.2.1 12 = .ok (.if_icmp .gt 30, 3) := by decide +kernel
theorem d_MFl_readFrom_15 : decode MFl_readFrom.2.2.1 15 = .ok (.iload_n 2, 1) := by decide +kernel
theorem d_MFl_readFrom_16 : decode MFl_readFrom.2.2.1 16 = .ok (.ifCond .eq 26, 3) := by decide +kernel
theorem d_MFl_readFrom_19 : decode MFl_readFrom.2.2.1 19 = .ok (.aload_n 0, 1) := by decide +kernel
theorem d_MFl_readFrom_20 : decode MFl_readFrom.2.2.1 20 = .ok (.aload_n 1, 1) := by decide +kernel
theorem d_MFl_readFrom_21 : decode MFl_readFrom.2.2.1 21 = .ok (.invokevirtual 28, 3) := by decide +kernel
theorem d_MFl_readFrom_24 : decode MFl_readFrom.2.2.1 24 = .ok (.ifCond .ne 5, 3) := by decide +kernel
theorem d_MFl_readFrom_27 : decode MFl_readFrom.2.2.1 27 = .ok (.iconst 0, 1) := by decide +kernel
theorem d_MFl_readFrom_28 : decode MFl_readFrom.2.2.1 28 = .ok (.ireturn, 1) := by decide +kernel
theorem d_MFl_readFrom_29 : decode MFl_readFrom.2.2.1 29 = .ok (.aload_n 1, 1) := by decide +kernel
theorem d_MFl_readFrom_30 : decode MFl_readFrom.2.2.1 30 = .ok (.bipush 59, 2) := by decide +kernel
theorem d_MFl_readFrom_32 : decode MFl_readFrom.2.2.1 32 = .ok (.invokevirtual 32, 3) := by decide +kernel
theorem d_MFl_readFrom_35 : decode MFl_readFrom.2.2.1 35 = .ok (.istore_n 2, 1) := by decide +kernel
theorem d_MFl_readFrom_36 : decode MFl_readFrom.2.2.1 36 = .ok (.iinc 3 1, 3) := by decide +kernel
theorem d_MFl_readFrom_39 : decode MFl_readFrom.2.2.1 39 = .ok (.goto (-30), 3) := by decide +kernel
theorem d_MFl_readFrom_42 : decode MFl_readFrom.2.2.1 42 = .ok (.aload_n 1, 1) := by decide +kernel
theorem d_MFl_readFrom_43 : decode MFl_readFrom.2.2.1 43 = .ok (.invokevirtual 36, 3) := by decide +kernel
theorem d_MFl_readFrom_46 : decode MFl_readFrom.2.2.1 46 = .ok (.ireturn, 1) := by decide +kernel
theorem r_MFl_readFrom_0 {l1 l2 l3 : Value} {x : Nat} : Rr X d MFl_readFrom 0 [.ref x, l1, l2, l3] st h = Rr X d MFl_readFrom 1 [.ref x, l1, l2, l3] (.ref x :: st) h := Rr_nx d_MFl_readFrom_0 rfl
theorem r_MFl_readFrom_1 : Rr X d MFl_readFrom 1 L st h = Rr X d MFl_readFrom 2 L (.int (0) :: st) h := Rr_nx d_MFl_readFrom_1 rfl
theorem ff_3_24 : fF 3 24 = some (3, 4, 0, 0) := rfl
theorem r_MFl_readFrom_2 {a : Nat} {x : Int32} (hq : qI a 3 4 = true) : Rr X d MFl_readFrom 2 L (.int x :: .ref a :: st) (Wd mu la ro et) = Rr X d MFl_readFrom 5 L st (Wd (up2 mu a 4 x) la ro et) := R_pfI d_MFl_readFrom_2 ff_3_24 hq
theorem r_MFl_readFrom_5 : Rr X d MFl_readFrom 5 L st h = Rr X d MFl_readFrom 6 L (.int (1) :: st) h := Rr_nx d_MFl_readFrom_5 rfl
theorem r_MFl_readFrom_6 {l0 l1 l2 l3 : Value} {x : Int32} : Rr X d MFl_readFrom 6 [l0, l1, l2, l3] (.int x :: st) h = Rr X d MFl_readFrom 7 (sL [l0, l1, l2, l3] 2 (.int x)) st h := Rr_nx d_MFl_readFrom_6 rfl
theorem r_MFl_readFrom_7 : Rr X d MFl_readFrom 7 L st h = Rr X d MFl_readFrom 8 L (.int (0) :: st) h := Rr_nx d_MFl_readFrom_7 rfl
theorem r_MFl_readFrom_8 {l0 l1 l2 l3 : Value} {x : Int32} : Rr X d MFl_readFrom 8 [l0, l1, l2, l3] (.int x :: st) h = Rr X d MFl_readFrom 9 (sL [l0, l1, l2, l3] 3 (.int x)) st h := Rr_nx d_MFl_readFrom_8 rfl
theorem r_MFl_readFrom_9 {l0 l1 l2 : Value} {x : Int32} : Rr X d MFl_readFrom 9 [l0, l1, l2, .int x] st h = Rr X d MFl_readFrom 10 [l0, l1, l2, .int x] (.int x :: st) h := Rr_nx d_MFl_readFrom_9 rfl
theorem r_MFl_readFrom_10 : Rr X d MFl_readFrom 10 L st h = Rr X d MFl_readFrom 12 L (.int (120) :: st) h := Rr_nx d_MFl_readFrom_10 rfl
theorem r_MFl_readFrom_12 {x y : Int32} : Rr X d MFl_readFrom 12 L (.int y :: .int x :: st) h = if y < x then Rr X d MFl_readFrom 42 L st h else Rr X d MFl_readFrom 15 L st h := R_ic_gt d_MFl_readFrom_12 (by decide)
theorem r_MFl_readFrom_15 {l0 l1 l3 : Value} {x : Int32} : Rr X d MFl_readFrom 15 [l0, l1, .int x, l3] st h = Rr X d MFl_readFrom 16 [l0, l1, .int x, l3] (.int x :: st) h := Rr_nx d_MFl_readFrom_15 rfl
theorem r_MFl_readFrom_16 {x : Int32} : Rr X d MFl_readFrom 16 L (.int x :: st) h = if x = 0 then Rr X d MFl_readFrom 42 L st h else Rr X d MFl_readFrom 19 L st h := R_if_eq d_MFl_readFrom_16 (by decide)
theorem r_MFl_readFrom_19 {l1 l2 l3 : Value} {x : Nat} : Rr X d MFl_readFrom 19 [.ref x, l1, l2, l3] st h = Rr X d MFl_readFrom 20 [.ref x, l1, l2, l3] (.ref x :: st) h := Rr_nx d_MFl_readFrom_19 rfl
theorem r_MFl_readFrom_20 {l0 l2 l3 : Value} {x : Nat} : Rr X d MFl_readFrom 20 [l0, .ref x, l2, l3] st h = Rr X d MFl_readFrom 21 [l0, .ref x, l2, l3] (.ref x :: st) h := Rr_nx d_MFl_readFrom_20 rfl
theorem r_MFl_readFrom_20n {l0 l2 l3 : Value} : Rr X d MFl_readFrom 20 [l0, .null, l2, l3] st h = Rr X d MFl_readFrom 21 [l0, .null, l2, l3] (.null :: st) h := Rr_nx d_MFl_readFrom_20 rfl
theorem fc_3_28 : fC 3 28 = some (0, 3, 1, MFl_readLine) := rfl
theorem r_MFl_readFrom_21 {y0 : Nat} {a : Nat} (hO : qO a 3 = true) (hc : ckS st = true) : Rr X (d + 1) MFl_readFrom 21 L (.ref y0 :: .ref a :: st) (Wd mu la ro et) = (Rr X d MFl_readLine 0 [.ref a, .ref y0, mkU] [] (Wd mu la ro et)).bind fun q => Rr X (d + 1) MFl_readFrom 24 L (psh q.1 st) q.2 := R_iv (av := [.ref y0]) d_MFl_readFrom_21 fc_3_28 hO (ckS_le hc) rfl (Nat.le_of_ble_eq_true rfl) (Nat.le_of_ble_eq_true rfl)
theorem r_MFl_readFrom_24 {x : Int32} : Rr X d MFl_readFrom 24 L (.int x :: st) h = if ¬ x = 0 then Rr X d MFl_readFrom 29 L st h else Rr X d MFl_readFrom 27 L st h := R_if_ne d_MFl_readFrom_24 (by decide)
theorem r_MFl_readFrom_27 : Rr X d MFl_readFrom 27 L st h = Rr X d MFl_readFrom 28 L (.int (0) :: st) h := Rr_nx d_MFl_readFrom_27 rfl
theorem r_MFl_readFrom_28 {x : Int32} : Rr X d MFl_readFrom 28 L [.int x] h = if x = 0 ∨ x = 1 then some (some (.int x), h) else none := R_zr d_MFl_readFrom_28 rfl
theorem r_MFl_readFrom_29 {l0 l2 l3 : Value} {x : Nat} : Rr X d MFl_readFrom 29 [l0, .ref x, l2, l3] st h = Rr X d MFl_readFrom 30 [l0, .ref x, l2, l3] (.ref x :: st) h := Rr_nx d_MFl_readFrom_29 rfl
theorem r_MFl_readFrom_29n {l0 l2 l3 : Value} : Rr X d MFl_readFrom 29 [l0, .null, l2, l3] st h = Rr X d MFl_readFrom 30 [l0, .null, l2, l3] (.null :: st) h := Rr_nx d_MFl_readFrom_29 rfl
theorem r_MFl_readFrom_30 : Rr X d MFl_readFrom 30 L st h = Rr X d MFl_readFrom 32 L (.int (59) :: st) h := Rr_nx d_MFl_readFrom_30 rfl
theorem fc_3_32 : fC 3 32 = some (0, 8, 1, MTa_skip) := rfl
theorem r_MFl_readFrom_32 {y0 : Int32} {a : Nat} (hO : qO a 8 = true) (hc : ckS st = true) : Rr X (d + 1) MFl_readFrom 32 L (.int y0 :: .ref a :: st) (Wd mu la ro et) = (Rr X d MTa_skip 0 [.ref a, .int y0] [] (Wd mu la ro et)).bind fun q => Rr X (d + 1) MFl_readFrom 35 L (psh q.1 st) q.2 := R_iv (av := [.int y0]) d_MFl_readFrom_32 fc_3_32 hO (ckS_le hc) rfl (Nat.le_of_ble_eq_true rfl) (Nat.le_of_ble_eq_true rfl)
theorem r_MFl_readFrom_35 {l0 l1 l2 l3 : Value} {x : Int32} : Rr X d MFl_readFrom 35 [l0, l1, l2, l3] (.int x :: st) h = Rr X d MFl_readFrom 36 (sL [l0, l1, l2, l3] 2 (.int x)) st h := Rr_nx d_MFl_readFrom_35 rfl
theorem r_MFl_readFrom_36 {l0 l1 l2 : Value} {x : Int32} : Rr X d MFl_readFrom 36 [l0, l1, l2, .int x] st h = Rr X d MFl_readFrom 39 (sL [l0, l1, l2, .int x] 3 (.int (x + (1)))) st h := Rr_nx d_MFl_readFrom_36 rfl
theorem r_MFl_readFrom_39 : Rr X d MFl_readFrom 39 L st h = Rr X d MFl_readFrom 9 L st h := R_goto d_MFl_readFrom_39 (by decide)
theorem r_MFl_readFrom_42 {l0 l2 l3 : Value} {x : Nat} : Rr X d MFl_readFrom 42 [l0, .ref x, l2, l3] st h = Rr X d MFl_readFrom 43 [l0, .ref x, l2, l3] (.ref x :: st) h := Rr_nx d_MFl_readFrom_42 rfl
theorem r_MFl_readFrom_42n {l0 l2 l3 : Value} : Rr X d MFl_readFrom 42 [l0, .null, l2, l3] st h = Rr X d MFl_readFrom 43 [l0, .null, l2, l3] (.null :: st) h := Rr_nx d_MFl_readFrom_42 rfl
theorem fc_3_36 : fC 3 36 = some (0, 8, 0, MTa_isAtEnd) := rfl
theorem r_MFl_readFrom_43 {a : Nat} (hO : qO a 8 = true) (hc : ckS st = true) : Rr X (d + 1) MFl_readFrom 43 L (.ref a :: st) (Wd mu la ro et) = (Rr X d MTa_isAtEnd 0 [.ref a] [] (Wd mu la ro et)).bind fun q => Rr X (d + 1) MFl_readFrom 46 L (psh q.1 st) q.2 := R_iv (av := []) d_MFl_readFrom_43 fc_3_36 hO (ckS_le hc) rfl (Nat.le_of_ble_eq_true rfl) (Nat.le_of_ble_eq_true rfl)
theorem r_MFl_readFrom_46 {x : Int32} : Rr X d MFl_readFrom 46 L [.int x] h = if x = 0 ∨ x = 1 then some (some (.int x), h) else none := R_zr d_MFl_readFrom_46 rfl
theorem d_MFl_readLine_0 : decode MFl_readLine.2.2.1 0 = .ok (.aload_n 0, 1) := by decide +kernel
theorem d_MFl_readLine_1 : decode MFl_readLine.2.2.1 1 = .ok (.aload_n 1, 1) := by decide +kernel
theorem d_MFl_readLine_2 : decode MFl_readLine.2.2.1 2 = .ok (.iconst 0, 1) := by decide +kernel
theorem d_MFl_readLine_3 : decode MFl_readLine.2.2.1 3 = .ok (.iconst 0, 1) := by decide +kernel
theorem d_MFl_readLine_4 : decode MFl_readLine.2.2.1 4 = .ok (.invokevirtual 40, 3) := by decide +kernel
theorem d_MFl_readLine_7 : decode MFl_readLine.2.2.1 7 = .ok (.istore_n 2, 1) := by decide +kernel
theorem d_MFl_readLine_8 : decode MFl_readLine.2.2.1 8 = .ok (.iload_n 2, 1) := by decide +kernel
theorem d_MFl_readLine_9 : decode MFl_readLine.2.2.1 9 = .ok (.iconst (-1), 1) := by decide +kernel
theorem d_MFl_readLine_10 : decode MFl_readLine.2.2.1 10 = .ok (.if_icmp .eq 28, 3) := by decide +kernel
theorem d_MFl_readLine_13 : decode MFl_readLine.2.2.1 13 = .ok (.aload_n 1, 1) := by decide +kernel
theorem d_MFl_readLine_14 : decode MFl_readLine.2.2.1 14 = .ok (.bipush 63, 2) := by decide +kernel
theorem d_MFl_readLine_16 : decode MFl_readLine.2.2.1 16 = .ok (.invokevirtual 32, 3) := by decide +kernel
theorem d_MFl_readLine_19 : decode MFl_readLine.2.2.1 19 = .ok (.ifCond .eq 19, 3) := by decide +kernel
theorem d_MFl_readLine_22 : decode MFl_readLine.2.2.1 22 = .ok (.aload_n 0, 1) := by decide +kernel
theorem d_MFl_readLine_23 : decode MFl_readLine.2.2.1 23 = .ok (.iconst 3, 1) := by decide +kernel
theorem d_MFl_readLine_24 : decode MFl_readLine.2.2.1 24 = .ok (.iload_n 2, 1) := by decide +kernel
theorem d_MFl_readLine_25 : decode MFl_readLine.2.2.1 25 = .ok (.iconst (-1), 1) := by decide +kernel
theorem d_MFl_readLine_26 : decode MFl_readLine.2.2.1 26 = .ok (.invokevirtual 44, 3) := by decide +kernel
theorem d_MFl_readLine_29 : decode MFl_readLine.2.2.1 29 = .ok (.pop, 1) := by decide +kernel
theorem d_MFl_readLine_30 : decode MFl_readLine.2.2.1 30 = .ok (.aload_n 0, 1) := by decide +kernel
theorem d_MFl_readLine_31 : decode MFl_readLine.2.2.1 31 = .ok (.aload_n 1, 1) := by decide +kernel
theorem d_MFl_readLine_32 : decode MFl_readLine.2.2.1 32 = .ok (.iconst 0, 1) := by decide +kernel
theorem d_MFl_readLine_33 : decode MFl_readLine.2.2.1 33 = .ok (.iconst 0, 1) := by decide +kernel
theorem d_MFl_readLine_34 : decode MFl_readLine.2.2.1 34 = .ok (.invokevirtual 40, 3) := by decide +kernel
theorem d_MFl_readLine_37 : decode MFl_readLine.2.2.1 37 = .ok (.istore_n 2, 1) := by decide +kernel
theorem d_MFl_readLine_38 : decode MFl_readLine.2.2.1 38 = .ok (.aload_n 0, 1) := by decide +kernel
theorem d_MFl_readLine_39 : decode MFl_readLine.2.2.1 39 = .ok (.iconst 4, 1) := by decide +kernel
theorem d_MFl_readLine_40 : decode MFl_readLine.2.2.1 40 = .ok (.iload_n 2, 1) := by decide +kernel
theorem d_MFl_readLine_41 : decode MFl_readLine.2.2.1 41 = .ok (.iconst (-1), 1) := by decide +kernel
theorem d_MFl_readLine_42 : decode MFl_readLine.2.2.1 42 = .ok (.invokevirtual 44, 3) := by decide +kernel
theorem d_MFl_readLine_45 : decode MFl_readLine.2.2.1 45 = .ok (.pop, 1) := by decide +kernel
theorem d_MFl_readLine_46 : decode MFl_readLine.2.2.1 46 = .ok (.iload_n 2, 1) := by decide +kernel
theorem d_MFl_readLine_47 : decode MFl_readLine.2.2.1 47 = .ok (.iconst (-1), 1) := by decide +kernel
theorem d_MFl_readLine_48 : decode MFl_readLine.2.2.1 48 = .ok (.if_icmp .eq 7, 3) := by decide +kernel
theorem d_MFl_readLine_51 : decode MFl_readLine.2.2.1 51 = .ok (.iconst 1, 1) := by decide +kernel
theorem d_MFl_readLine_52 : decode MFl_readLine.2.2.1 52 = .ok (.goto 4, 3) := by decide +kernel
theorem d_MFl_readLine_55 : decode MFl_readLine.2.2.1 55 = .ok (.iconst 0, 1) := by decide +kernel
theorem d_MFl_readLine_56 : decode MFl_readLine.2.2.1 56 = .ok (.ireturn, 1) := by decide +kernel
theorem r_MFl_readLine_0 {l1 l2 : Value} {x : Nat} : Rr X d MFl_readLine 0 [.ref x, l1, l2] st h = Rr X d MFl_readLine 1 [.ref x, l1, l2] (.ref x :: st) h := Rr_nx d_MFl_readLine_0 rfl
theorem r_MFl_readLine_1 {l0 l2 : Value} {x : Nat} : Rr X d MFl_readLine 1 [l0, .ref x, l2] st h = Rr X d MFl_readLine 2 [l0, .ref x, l2] (.ref x :: st) h := Rr_nx d_MFl_readLine_1 rfl
theorem r_MFl_readLine_1n {l0 l2 : Value} : Rr X d MFl_readLine 1 [l0, .null, l2] st h = Rr X d MFl_readLine 2 [l0, .null, l2] (.null :: st) h := Rr_nx d_MFl_readLine_1 rfl
theorem r_MFl_readLine_2 : Rr X d MFl_readLine 2 L st h = Rr X d MFl_readLine 3 L (.int (0) :: st) h := Rr_nx d_MFl_readLine_2 rfl
theorem r_MFl_readLine_3 : Rr X d MFl_readLine 3 L st h = Rr X d MFl_readLine 4 L (.int (0) :: st) h := Rr_nx d_MFl_readLine_3 rfl
theorem fc_3_40 : fC 3 40 = some (0, 3, 3, MFl_readJoined) := rfl
theorem r_MFl_readLine_4 {y0 : Nat} {y1 : Int32} {y2 : Int32} {a : Nat} (hO : qO a 3 = true) (hc : ckS st = true) : Rr X (d + 1) MFl_readLine 4 L (.int y2 :: .int y1 :: .ref y0 :: .ref a :: st) (Wd mu la ro et) = (Rr X d MFl_readJoined 0 [.ref a, .ref y0, .int y1, .int y2, mkU, mkU, mkU, mkU, mkU] [] (Wd mu la ro et)).bind fun q => Rr X (d + 1) MFl_readLine 7 L (psh q.1 st) q.2 := R_iv (av := [.int y2, .int y1, .ref y0]) d_MFl_readLine_4 fc_3_40 hO (ckS_le hc) rfl (Nat.le_of_ble_eq_true rfl) (Nat.le_of_ble_eq_true rfl)
theorem r_MFl_readLine_7 {l0 l1 l2 : Value} {x : Int32} : Rr X d MFl_readLine 7 [l0, l1, l2] (.int x :: st) h = Rr X d MFl_readLine 8 (sL [l0, l1, l2] 2 (.int x)) st h := Rr_nx d_MFl_readLine_7 rfl
theorem r_MFl_readLine_8 {l0 l1 : Value} {x : Int32} : Rr X d MFl_readLine 8 [l0, l1, .int x] st h = Rr X d MFl_readLine 9 [l0, l1, .int x] (.int x :: st) h := Rr_nx d_MFl_readLine_8 rfl
theorem r_MFl_readLine_9 : Rr X d MFl_readLine 9 L st h = Rr X d MFl_readLine 10 L (.int (-1) :: st) h := Rr_nx d_MFl_readLine_9 rfl
theorem r_MFl_readLine_10 {x y : Int32} : Rr X d MFl_readLine 10 L (.int y :: .int x :: st) h = if x = y then Rr X d MFl_readLine 38 L st h else Rr X d MFl_readLine 13 L st h := R_ic_eq d_MFl_readLine_10 (by decide)
theorem r_MFl_readLine_13 {l0 l2 : Value} {x : Nat} : Rr X d MFl_readLine 13 [l0, .ref x, l2] st h = Rr X d MFl_readLine 14 [l0, .ref x, l2] (.ref x :: st) h := Rr_nx d_MFl_readLine_13 rfl
theorem r_MFl_readLine_13n {l0 l2 : Value} : Rr X d MFl_readLine 13 [l0, .null, l2] st h = Rr X d MFl_readLine 14 [l0, .null, l2] (.null :: st) h := Rr_nx d_MFl_readLine_13 rfl
theorem r_MFl_readLine_14 : Rr X d MFl_readLine 14 L st h = Rr X d MFl_readLine 16 L (.int (63) :: st) h := Rr_nx d_MFl_readLine_14 rfl
theorem r_MFl_readLine_16 {y0 : Int32} {a : Nat} (hO : qO a 8 = true) (hc : ckS st = true) : Rr X (d + 1) MFl_readLine 16 L (.int y0 :: .ref a :: st) (Wd mu la ro et) = (Rr X d MTa_skip 0 [.ref a, .int y0] [] (Wd mu la ro et)).bind fun q => Rr X (d + 1) MFl_readLine 19 L (psh q.1 st) q.2 := R_iv (av := [.int y0]) d_MFl_readLine_16 fc_3_32 hO (ckS_le hc) rfl (Nat.le_of_ble_eq_true rfl) (Nat.le_of_ble_eq_true rfl)
theorem r_MFl_readLine_19 {x : Int32} : Rr X d MFl_readLine 19 L (.int x :: st) h = if x = 0 then Rr X d MFl_readLine 38 L st h else Rr X d MFl_readLine 22 L st h := R_if_eq d_MFl_readLine_19 (by decide)
theorem r_MFl_readLine_22 {l1 l2 : Value} {x : Nat} : Rr X d MFl_readLine 22 [.ref x, l1, l2] st h = Rr X d MFl_readLine 23 [.ref x, l1, l2] (.ref x :: st) h := Rr_nx d_MFl_readLine_22 rfl
theorem r_MFl_readLine_23 : Rr X d MFl_readLine 23 L st h = Rr X d MFl_readLine 24 L (.int (3) :: st) h := Rr_nx d_MFl_readLine_23 rfl
theorem r_MFl_readLine_24 {l0 l1 : Value} {x : Int32} : Rr X d MFl_readLine 24 [l0, l1, .int x] st h = Rr X d MFl_readLine 25 [l0, l1, .int x] (.int x :: st) h := Rr_nx d_MFl_readLine_24 rfl
theorem r_MFl_readLine_25 : Rr X d MFl_readLine 25 L st h = Rr X d MFl_readLine 26 L (.int (-1) :: st) h := Rr_nx d_MFl_readLine_25 rfl
theorem fc_3_44 : fC 3 44 = some (0, 3, 3, MFl_append) := rfl
theorem r_MFl_readLine_26 {y0 : Int32} {y1 : Int32} {y2 : Int32} {a : Nat} (hO : qO a 3 = true) (hc : ckS st = true) : Rr X (d + 1) MFl_readLine 26 L (.int y2 :: .int y1 :: .int y0 :: .ref a :: st) (Wd mu la ro et) = (Rr X d MFl_append 0 [.ref a, .int y0, .int y1, .int y2] [] (Wd mu la ro et)).bind fun q => Rr X (d + 1) MFl_readLine 29 L (psh q.1 st) q.2 := R_iv (av := [.int y2, .int y1, .int y0]) d_MFl_readLine_26 fc_3_44 hO (ckS_le hc) rfl (Nat.le_of_ble_eq_true rfl) (Nat.le_of_ble_eq_true rfl)
theorem r_MFl_readLine_29 {x : Int32} : Rr X d MFl_readLine 29 L (.int x :: st) h = Rr X d MFl_readLine 30 L st h := Rr_nx d_MFl_readLine_29 rfl
theorem r_MFl_readLine_30 {l1 l2 : Value} {x : Nat} : Rr X d MFl_readLine 30 [.ref x, l1, l2] st h = Rr X d MFl_readLine 31 [.ref x, l1, l2] (.ref x :: st) h := Rr_nx d_MFl_readLine_30 rfl
theorem r_MFl_readLine_31 {l0 l2 : Value} {x : Nat} : Rr X d MFl_readLine 31 [l0, .ref x, l2] st h = Rr X d MFl_readLine 32 [l0, .ref x, l2] (.ref x :: st) h := Rr_nx d_MFl_readLine_31 rfl
theorem r_MFl_readLine_31n {l0 l2 : Value} : Rr X d MFl_readLine 31 [l0, .null, l2] st h = Rr X d MFl_readLine 32 [l0, .null, l2] (.null :: st) h := Rr_nx d_MFl_readLine_31 rfl
theorem r_MFl_readLine_32 : Rr X d MFl_readLine 32 L st h = Rr X d MFl_readLine 33 L (.int (0) :: st) h := Rr_nx d_MFl_readLine_32 rfl
theorem r_MFl_readLine_33 : Rr X d MFl_readLine 33 L st h = Rr X d MFl_readLine 34 L (.int (0) :: st) h := Rr_nx d_MFl_readLine_33 rfl
theorem r_MFl_readLine_34 {y0 : Nat} {y1 : Int32} {y2 : Int32} {a : Nat} (hO : qO a 3 = true) (hc : ckS st = true) : Rr X (d + 1) MFl_readLine 34 L (.int y2 :: .int y1 :: .ref y0 :: .ref a :: st) (Wd mu la ro et) = (Rr X d MFl_readJoined 0 [.ref a, .ref y0, .int y1, .int y2, mkU, mkU, mkU, mkU, mkU] [] (Wd mu la ro et)).bind fun q => Rr X (d + 1) MFl_readLine 37 L (psh q.1 st) q.2 := R_iv (av := [.int y2, .int y1, .ref y0]) d_MFl_readLine_34 fc_3_40 hO (ckS_le hc) rfl (Nat.le_of_ble_eq_true rfl) (Nat.le_of_ble_eq_true rfl)
theorem r_MFl_readLine_37 {l0 l1 l2 : Value} {x : Int32} : Rr X d MFl_readLine 37 [l0, l1, l2] (.int x :: st) h = Rr X d MFl_readLine 38 (sL [l0, l1, l2] 2 (.int x)) st h := Rr_nx d_MFl_readLine_37 rfl
theorem r_MFl_readLine_38 {l1 l2 : Value} {x : Nat} : Rr X d MFl_readLine 38 [.ref x, l1, l2] st h = Rr X d MFl_readLine 39 [.ref x, l1, l2] (.ref x :: st) h := Rr_nx d_MFl_readLine_38 rfl
theorem r_MFl_readLine_39 : Rr X d MFl_readLine 39 L st h = Rr X d MFl_readLine 40 L (.int (4) :: st) h := Rr_nx d_MFl_readLine_39 rfl
theorem r_MFl_readLine_40 {l0 l1 : Value} {x : Int32} : Rr X d MFl_readLine 40 [l0, l1, .int x] st h = Rr X d MFl_readLine 41 [l0, l1, .int x] (.int x :: st) h := Rr_nx d_MFl_readLine_40 rfl
theorem r_MFl_readLine_41 : Rr X d MFl_readLine 41 L st h = Rr X d MFl_readLine 42 L (.int (-1) :: st) h := Rr_nx d_MFl_readLine_41 rfl
theorem r_MFl_readLine_42 {y0 : Int32} {y1 : Int32} {y2 : Int32} {a : Nat} (hO : qO a 3 = true) (hc : ckS st = true) : Rr X (d + 1) MFl_readLine 42 L (.int y2 :: .int y1 :: .int y0 :: .ref a :: st) (Wd mu la ro et) = (Rr X d MFl_append 0 [.ref a, .int y0, .int y1, .int y2] [] (Wd mu la ro et)).bind fun q => Rr X (d + 1) MFl_readLine 45 L (psh q.1 st) q.2 := R_iv (av := [.int y2, .int y1, .int y0]) d_MFl_readLine_42 fc_3_44 hO (ckS_le hc) rfl (Nat.le_of_ble_eq_true rfl) (Nat.le_of_ble_eq_true rfl)
theorem r_MFl_readLine_45 {x : Int32} : Rr X d MFl_readLine 45 L (.int x :: st) h = Rr X d MFl_readLine 46 L st h := Rr_nx d_MFl_readLine_45 rfl
theorem r_MFl_readLine_46 {l0 l1 : Value} {x : Int32} : Rr X d MFl_readLine 46 [l0, l1, .int x] st h = Rr X d MFl_readLine 47 [l0, l1, .int x] (.int x :: st) h := Rr_nx d_MFl_readLine_46 rfl
theorem r_MFl_readLine_47 : Rr X d MFl_readLine 47 L st h = Rr X d MFl_readLine 48 L (.int (-1) :: st) h := Rr_nx d_MFl_readLine_47 rfl
theorem r_MFl_readLine_48 {x y : Int32} : Rr X d MFl_readLine 48 L (.int y :: .int x :: st) h = if x = y then Rr X d MFl_readLine 55 L st h else Rr X d MFl_readLine 51 L st h := R_ic_eq d_MFl_readLine_48 (by decide)
theorem r_MFl_readLine_51 : Rr X d MFl_readLine 51 L st h = Rr X d MFl_readLine 52 L (.int (1) :: st) h := Rr_nx d_MFl_readLine_51 rfl
theorem r_MFl_readLine_52 : Rr X d MFl_readLine 52 L st h = Rr X d MFl_readLine 56 L st h := R_goto d_MFl_readLine_52 (by decide)
theorem r_MFl_readLine_55 : Rr X d MFl_readLine 55 L st h = Rr X d MFl_readLine 56 L (.int (0) :: st) h := Rr_nx d_MFl_readLine_55 rfl
theorem r_MFl_readLine_56 {x : Int32} : Rr X d MFl_readLine 56 L [.int x] h = if x = 0 ∨ x = 1 then some (some (.int x), h) else none := R_zr d_MFl_readLine_56 rfl
theorem d_MFl_readJoined_0 : decode MFl_readJoined.2.2.1 0 = .ok (.iload_n 2, 1) := by decide +kernel
theorem d_MFl_readJoined_1 : decode MFl_readJoined.2.2.1 1 = .ok (.iconst 4, 1) := by decide +kernel
theorem d_MFl_readJoined_2 : decode MFl_readJoined.2.2.1 2 = .ok (.if_icmp .le 10, 3) := by decide +kernel
theorem d_MFl_readJoined_5 : decode MFl_readJoined.2.2.1 5 = .ok (.aload_n 0, 1) := by decide +kernel
theorem d_MFl_readJoined_6 : decode MFl_readJoined.2.2.1 6 = .ok (.aload_n 1, 1) := by decide +kernel
theorem d_MFl_readJoined_7 : decode MFl_readJoined.2.2.1 7 = .ok (.iload_n 3, 1) := by decide +kernel
theorem d_MFl_readJoined_8 : decode MFl_readJoined.2.2.1 8 = .ok (.invokevirtual 48, 3) := by decide +kernel
theorem d_MFl_readJoined_11 : decode MFl_readJoined.2.2.1 11 = .ok (.ireturn, 1) := by decide +kernel
theorem d_MFl_readJoined_12 : decode MFl_readJoined.2.2.1 12 = .ok (.aload_n 0, 1) := by decide +kernel
theorem d_MFl_readJoined_13 : decode MFl_readJoined.2.2.1 13 = .ok (.aload_n 1, 1) := by decide +kernel
theorem d_MFl_readJoined_14 : decode MFl_readJoined.2.2.1 14 = .ok (.iload_n 2, 1) := by decide +kernel
theorem d_MFl_readJoined_15 : decode MFl_readJoined.2.2.1 15 = .ok (.iconst 1, 1) := by decide +kernel
theorem d_MFl_readJoined_16 : decode MFl_readJoined.2.2.1 16 = .ok (.iadd, 1) := by decide +kernel
theorem d_MFl_readJoined_17 : decode MFl_readJoined.2.2.1 17 = .ok (.iload_n 3, 1) := by decide +kernel
theorem d_MFl_readJoined_18 : decode MFl_readJoined.2.2.1 18 = .ok (.invokevirtual 40, 3) := by decide +kernel
theorem d_MFl_readJoined_21 : decode MFl_readJoined.2.2.1 21 = .ok (.istore 4, 2) := by decide +kernel
theorem d_MFl_readJoined_23 : decode MFl_readJoined.2.2.1 23 = .ok (.iload_n 2, 1) := by decide +kernel
theorem d_MFl_readJoined_24 : decode MFl_readJoined.2.2.1 24 = .ok (.iconst 2, 1) := by decide +kernel
theorem d_MFl_readJoined_25 : decode MFl_readJoined.2.2.1 25 = .ok (.if_icmp .ne 7, 3) := by decide +kernel
theorem d_MFl_readJoined_28 : decode MFl_readJoined.2.2.1 28 = .ok (.iconst 1, 1) := by decide +kernel
theorem d_MFl_readJoined_29 : decode MFl_readJoined.2.2.1 29 = .ok (.goto 5, 3) := by decide +kernel
theorem d_MFl_readJoined_32 : decode MFl_readJoined.2.2.1 32 = .ok (.bipush 120, 2) := by decide +kernel
theorem d_MFl_readJoined_34 : decode MFl_readJoined.2.2.1 34 = .ok (.istore 5, 2) := by decide +kernel
theorem d_MFl_readJoined_36 : decode MFl_readJoined.2.2.1 36 = .ok (.iconst 0, 1) := by decide +kernel
theorem d_MFl_readJoined_37 : decode MFl_readJoined.2.2.1 37 = .ok (.istore 6, 2) := by decide +kernel
theorem d_MFl_readJoined_39 : decode MFl_readJoined.2.2.1 39 = .ok (.iload 6, 2) := by decide +kernel
theorem d_MFl_readJoined_41 : decode MFl_readJoined.2.2.1 41 = .ok (.iload 5, 2) := by decide +kernel
theorem d_MFl_readJoined_43 : decode MFl_readJoined.2.2.1 43 = .ok (.if_icmp .ge 72, 3) := by decide +kernel
theorem d_MFl_readJoined_46 : decode MFl_readJoined.2.2.1 46 = .ok (.iload 4, 2) := by decide +kernel
theorem d_MFl_readJoined_48 : decode MFl_readJoined.2.2.1 48 = .ok (.iconst (-1), 1) := by decide +kernel
theorem d_MFl_readJoined_49 : decode MFl_readJoined.2.2.1 49 = .ok (.if_icmp .eq 66, 3) := by decide +kernel
theorem d_MFl_readJoined_52 : decode MFl_readJoined.2.2.1 52 = .ok (.aload_n 1, 1) := by decide +kernel
theorem d_MFl_readJoined_53 : decode MFl_readJoined.2.2.1 53 = .ok (.invokevirtual 52, 3) := by decide +kernel
theorem d_MFl_readJoined_56 : decode MFl_readJoined.2.2.1 56 = .ok (.invokestatic 56, 3) := by decide +kernel
theorem d_MFl_readJoined_59 : decode MFl_readJoined.2.2.1 59 = .ok (.iload_n 2, 1) := by decide +kernel
theorem d_MFl_readJoined_60 : decode MFl_readJoined.2.2.1 60 = .ok (.if_icmp .ne 55, 3) := by decide +kernel
theorem d_MFl_readJoined_63 : decode MFl_readJoined.2.2.1 63 = .ok (.aload_n 1, 1) := by decide +kernel
theorem d_MFl_readJoined_64 : decode MFl_readJoined.2.2.1 64 = .ok (.invokevirtual 52, 3) := by decide +kernel
theorem d_MFl_readJoined_67 : decode MFl_readJoined.2.2.1 67 = .ok (.istore 7, 2) := by decide +kernel
theorem d_MFl_readJoined_69 : decode MFl_readJoined.2.2.1 69 = .ok (.aload_n 1, 1) := by decide +kernel
theorem d_MFl_readJoined_70 : decode MFl_readJoined.2.2.1 70 = .ok (.iload 7, 2) := by decide +kernel
theorem d_MFl_readJoined_72 : decode MFl_readJoined.2.2.1 72 = .ok (.invokevirtual 32, 3) := by decide +kernel
theorem d_MFl_readJoined_75 : decode MFl_readJoined.2.2.1 75 = .ok (.pop, 1) := by decide +kernel
theorem d_MFl_readJoined_76 : decode MFl_readJoined.2.2.1 76 = .ok (.aload_n 0, 1) := by decide +kernel
theorem d_MFl_readJoined_77 : decode MFl_readJoined.2.2.1 77 = .ok (.aload_n 1, 1) := by decide +kernel
theorem d_MFl_readJoined_78 : decode MFl_readJoined.2.2.1 78 = .ok (.iload_n 2, 1) := by decide +kernel
theorem d_MFl_readJoined_79 : decode MFl_readJoined.2.2.1 79 = .ok (.iconst 1, 1) := by decide +kernel
theorem d_MFl_readJoined_80 : decode MFl_readJoined.2.2.1 80 = .ok (.iadd, 1) := by decide +kernel
theorem d_MFl_readJoined_81 : decode MFl_readJoined.2.2.1 81 = .ok (.iload_n 3, 1) := by decide +kernel
theorem d_MFl_readJoined_82 : decode MFl_readJoined.2.2.1 82 = .ok (.invokevirtual 40, 3) := by decide +kernel
theorem d_MFl_readJoined_85 : decode MFl_readJoined.2.2.1 85 = .ok (.istore 8, 2) := by decide +kernel
theorem d_MFl_readJoined_87 : decode MFl_readJoined.2.2.1 87 = .ok (.iload 8, 2) := by decide +kernel
theorem d_MFl_readJoined_89 : decode MFl_readJoined.2.2.1 89 = .ok (.iconst (-1), 1) := by decide +kernel
theorem d_MFl_readJoined_90 : decode MFl_readJoined.2.2.1 90 = .ok (.if_icmp .ne 7, 3) := by decide +kernel
theorem d_MFl_readJoined_93 : decode MFl_readJoined.2.2.1 93 = .ok (.iconst (-1), 1) := by decide +kernel
theorem d_MFl_readJoined_94 : decode MFl_readJoined.2.2.1 94 = .ok (.goto 13, 3) := by decide +kernel
theorem d_MFl_readJoined_97 : decode MFl_readJoined.2.2.1 97 = .ok (.aload_n 0, 1) := by decide +kernel
theorem d_MFl_readJoined_98 : decode MFl_readJoined.2.2.1 98 = .ok (.iload 7, 2) := by decide +kernel
theorem d_MFl_readJoined_100 : decode MFl_readJoined.2.2.1 100 = .ok (.iload 4, 2) := by decide +kernel
theorem d_MFl_readJoined_102 : decode MFl_readJoined.2.2.1 102 = .ok (.iload 8, 2) := by decide +kernel
theorem d_MFl_readJoined_104 : decode MFl_readJoined.2.2.1 104 = .ok (.invokevirtual 44, 3) := by decide +kernel
theorem d_MFl_readJoined_107 : decode MFl_readJoined.2.2.1 107 = .ok (.istore 4, 2) := by decide +kernel
theorem d_MFl_readJoined_109 : decode MFl_readJoined.2.2.1 109 = .ok (.iinc 6 1, 3) := by decide +kernel
theorem d_MFl_readJoined_112 : decode MFl_readJoined.2.2.1 112 = .ok (.goto (-73), 3) := by decide +kernel
theorem d_MFl_readJoined_115 : decode MFl_readJoined.2.2.1 115 = .ok (.iload 4, 2) := by decide +kernel
theorem d_MFl_readJoined_117 : decode MFl_readJoined.2.2.1 117 = .ok (.ireturn, 1) := by decide +kernel
theorem r_MFl_readJoined_0 {l0 l1 l3 l4 l5 l6 l7 l8 : Value} {x : Int32} : Rr X d MFl_readJoined 0 [l0, l1, .int x, l3, l4, l5, l6, l7, l8] st h = Rr X d MFl_readJoined 1 [l0, l1, .int x, l3, l4, l5, l6, l7, l8] (.int x :: st) h := Rr_nx d_MFl_readJoined_0 rfl
theorem r_MFl_readJoined_1 : Rr X d MFl_readJoined 1 L st h = Rr X d MFl_readJoined 2 L (.int (4) :: st) h := Rr_nx d_MFl_readJoined_1 rfl
theorem r_MFl_readJoined_2 {x y : Int32} : Rr X d MFl_readJoined 2 L (.int y :: .int x :: st) h = if x ≤ y then Rr X d MFl_readJoined 12 L st h else Rr X d MFl_readJoined 5 L st h := R_ic_le d_MFl_readJoined_2 (by decide)
theorem r_MFl_readJoined_5 {l1 l2 l3 l4 l5 l6 l7 l8 : Value} {x : Nat} : Rr X d MFl_readJoined 5 [.ref x, l1, l2, l3, l4, l5, l6, l7, l8] st h = Rr X d MFl_readJoined 6 [.ref x, l1, l2, l3, l4, l5, l6, l7, l8] (.ref x :: st) h := Rr_nx d_MFl_readJoined_5 rfl
theorem r_MFl_readJoined_6 {l0 l2 l3 l4 l5 l6 l7 l8 : Value} {x : Nat} : Rr X d MFl_readJoined 6 [l0, .ref x, l2, l3, l4, l5, l6, l7, l8] st h = Rr X d MFl_readJoined 7 [l0, .ref x, l2, l3, l4, l5, l6, l7, l8] (.ref x :: st) h := Rr_nx d_MFl_readJoined_6 rfl
theorem r_MFl_readJoined_6n {l0 l2 l3 l4 l5 l6 l7 l8 : Value} : Rr X d MFl_readJoined 6 [l0, .null, l2, l3, l4, l5, l6, l7, l8] st h = Rr X d MFl_readJoined 7 [l0, .null, l2, l3, l4, l5, l6, l7, l8] (.null :: st) h := Rr_nx d_MFl_readJoined_6 rfl
theorem r_MFl_readJoined_7 {l0 l1 l2 l4 l5 l6 l7 l8 : Value} {x : Int32} : Rr X d MFl_readJoined 7 [l0, l1, l2, .int x, l4, l5, l6, l7, l8] st h = Rr X d MFl_readJoined 8 [l0, l1, l2, .int x, l4, l5, l6, l7, l8] (.int x :: st) h := Rr_nx d_MFl_readJoined_7 rfl
theorem fc_3_48 : fC 3 48 = some (0, 3, 2, MFl_readOne) := rfl
theorem r_MFl_readJoined_8 {y0 : Nat} {y1 : Int32} {a : Nat} (hO : qO a 3 = true) (hc : ckS st = true) : Rr X (d + 1) MFl_readJoined 8 L (.int y1 :: .ref y0 :: .ref a :: st) (Wd mu la ro et) = (Rr X d MFl_readOne 0 [.ref a, .ref y0, .int y1, mkU, mkU] [] (Wd mu la ro et)).bind fun q => Rr X (d + 1) MFl_readJoined 11 L (psh q.1 st) q.2 := R_iv (av := [.int y1, .ref y0]) d_MFl_readJoined_8 fc_3_48 hO (ckS_le hc) rfl (Nat.le_of_ble_eq_true rfl) (Nat.le_of_ble_eq_true rfl)
theorem r_MFl_readJoined_11 {x : Int32} : Rr X d MFl_readJoined 11 L [.int x] h = some (some (.int x), h) := R_ir d_MFl_readJoined_11 rfl
theorem r_MFl_readJoined_12 {l1 l2 l3 l4 l5 l6 l7 l8 : Value} {x : Nat} : Rr X d MFl_readJoined 12 [.ref x, l1, l2, l3, l4, l5, l6, l7, l8] st h = Rr X d MFl_readJoined 13 [.ref x, l1, l2, l3, l4, l5, l6, l7, l8] (.ref x :: st) h := Rr_nx d_MFl_readJoined_12 rfl
theorem r_MFl_readJoined_13 {l0 l2 l3 l4 l5 l6 l7 l8 : Value} {x : Nat} : Rr X d MFl_readJoined 13 [l0, .ref x, l2, l3, l4, l5, l6, l7, l8] st h = Rr X d MFl_readJoined 14 [l0, .ref x, l2, l3, l4, l5, l6, l7, l8] (.ref x :: st) h := Rr_nx d_MFl_readJoined_13 rfl
theorem r_MFl_readJoined_13n {l0 l2 l3 l4 l5 l6 l7 l8 : Value} : Rr X d MFl_readJoined 13 [l0, .null, l2, l3, l4, l5, l6, l7, l8] st h = Rr X d MFl_readJoined 14 [l0, .null, l2, l3, l4, l5, l6, l7, l8] (.null :: st) h := Rr_nx d_MFl_readJoined_13 rfl
theorem r_MFl_readJoined_14 {l0 l1 l3 l4 l5 l6 l7 l8 : Value} {x : Int32} : Rr X d MFl_readJoined 14 [l0, l1, .int x, l3, l4, l5, l6, l7, l8] st h = Rr X d MFl_readJoined 15 [l0, l1, .int x, l3, l4, l5, l6, l7, l8] (.int x :: st) h := Rr_nx d_MFl_readJoined_14 rfl
theorem r_MFl_readJoined_15 : Rr X d MFl_readJoined 15 L st h = Rr X d MFl_readJoined 16 L (.int (1) :: st) h := Rr_nx d_MFl_readJoined_15 rfl
theorem r_MFl_readJoined_16 {x y : Int32} : Rr X d MFl_readJoined 16 L (.int y :: .int x :: st) h = Rr X d MFl_readJoined 17 L (.int (x + y) :: st) h := Rr_nx d_MFl_readJoined_16 rfl
theorem r_MFl_readJoined_17 {l0 l1 l2 l4 l5 l6 l7 l8 : Value} {x : Int32} : Rr X d MFl_readJoined 17 [l0, l1, l2, .int x, l4, l5, l6, l7, l8] st h = Rr X d MFl_readJoined 18 [l0, l1, l2, .int x, l4, l5, l6, l7, l8] (.int x :: st) h := Rr_nx d_MFl_readJoined_17 rfl
theorem r_MFl_readJoined_18 {y0 : Nat} {y1 : Int32} {y2 : Int32} {a : Nat} (hO : qO a 3 = true) (hc : ckS st = true) : Rr X (d + 1) MFl_readJoined 18 L (.int y2 :: .int y1 :: .ref y0 :: .ref a :: st) (Wd mu la ro et) = (Rr X d MFl_readJoined 0 [.ref a, .ref y0, .int y1, .int y2, mkU, mkU, mkU, mkU, mkU] [] (Wd mu la ro et)).bind fun q => Rr X (d + 1) MFl_readJoined 21 L (psh q.1 st) q.2 := R_iv (av := [.int y2, .int y1, .ref y0]) d_MFl_readJoined_18 fc_3_40 hO (ckS_le hc) rfl (Nat.le_of_ble_eq_true rfl) (Nat.le_of_ble_eq_true rfl)
theorem r_MFl_readJoined_21 {l0 l1 l2 l3 l4 l5 l6 l7 l8 : Value} {x : Int32} : Rr X d MFl_readJoined 21 [l0, l1, l2, l3, l4, l5, l6, l7, l8] (.int x :: st) h = Rr X d MFl_readJoined 23 (sL [l0, l1, l2, l3, l4, l5, l6, l7, l8] 4 (.int x)) st h := Rr_nx d_MFl_readJoined_21 rfl
theorem r_MFl_readJoined_23 {l0 l1 l3 l4 l5 l6 l7 l8 : Value} {x : Int32} : Rr X d MFl_readJoined 23 [l0, l1, .int x, l3, l4, l5, l6, l7, l8] st h = Rr X d MFl_readJoined 24 [l0, l1, .int x, l3, l4, l5, l6, l7, l8] (.int x :: st) h := Rr_nx d_MFl_readJoined_23 rfl
theorem r_MFl_readJoined_24 : Rr X d MFl_readJoined 24 L st h = Rr X d MFl_readJoined 25 L (.int (2) :: st) h := Rr_nx d_MFl_readJoined_24 rfl
theorem r_MFl_readJoined_25 {x y : Int32} : Rr X d MFl_readJoined 25 L (.int y :: .int x :: st) h = if ¬ x = y then Rr X d MFl_readJoined 32 L st h else Rr X d MFl_readJoined 28 L st h := R_ic_ne d_MFl_readJoined_25 (by decide)
theorem r_MFl_readJoined_28 : Rr X d MFl_readJoined 28 L st h = Rr X d MFl_readJoined 29 L (.int (1) :: st) h := Rr_nx d_MFl_readJoined_28 rfl
theorem r_MFl_readJoined_29 : Rr X d MFl_readJoined 29 L st h = Rr X d MFl_readJoined 34 L st h := R_goto d_MFl_readJoined_29 (by decide)
theorem r_MFl_readJoined_32 : Rr X d MFl_readJoined 32 L st h = Rr X d MFl_readJoined 34 L (.int (120) :: st) h := Rr_nx d_MFl_readJoined_32 rfl
theorem r_MFl_readJoined_34 {l0 l1 l2 l3 l4 l5 l6 l7 l8 : Value} {x : Int32} : Rr X d MFl_readJoined 34 [l0, l1, l2, l3, l4, l5, l6, l7, l8] (.int x :: st) h = Rr X d MFl_readJoined 36 (sL [l0, l1, l2, l3, l4, l5, l6, l7, l8] 5 (.int x)) st h := Rr_nx d_MFl_readJoined_34 rfl
theorem r_MFl_readJoined_36 : Rr X d MFl_readJoined 36 L st h = Rr X d MFl_readJoined 37 L (.int (0) :: st) h := Rr_nx d_MFl_readJoined_36 rfl
theorem r_MFl_readJoined_37 {l0 l1 l2 l3 l4 l5 l6 l7 l8 : Value} {x : Int32} : Rr X d MFl_readJoined 37 [l0, l1, l2, l3, l4, l5, l6, l7, l8] (.int x :: st) h = Rr X d MFl_readJoined 39 (sL [l0, l1, l2, l3, l4, l5, l6, l7, l8] 6 (.int x)) st h := Rr_nx d_MFl_readJoined_37 rfl
theorem r_MFl_readJoined_39 {l0 l1 l2 l3 l4 l5 l7 l8 : Value} {x : Int32} : Rr X d MFl_readJoined 39 [l0, l1, l2, l3, l4, l5, .int x, l7, l8] st h = Rr X d MFl_readJoined 41 [l0, l1, l2, l3, l4, l5, .int x, l7, l8] (.int x :: st) h := Rr_nx d_MFl_readJoined_39 rfl
theorem r_MFl_readJoined_41 {l0 l1 l2 l3 l4 l6 l7 l8 : Value} {x : Int32} : Rr X d MFl_readJoined 41 [l0, l1, l2, l3, l4, .int x, l6, l7, l8] st h = Rr X d MFl_readJoined 43 [l0, l1, l2, l3, l4, .int x, l6, l7, l8] (.int x :: st) h := Rr_nx d_MFl_readJoined_41 rfl
theorem r_MFl_readJoined_43 {x y : Int32} : Rr X d MFl_readJoined 43 L (.int y :: .int x :: st) h = if y ≤ x then Rr X d MFl_readJoined 115 L st h else Rr X d MFl_readJoined 46 L st h := R_ic_ge d_MFl_readJoined_43 (by decide)
theorem r_MFl_readJoined_46 {l0 l1 l2 l3 l5 l6 l7 l8 : Value} {x : Int32} : Rr X d MFl_readJoined 46 [l0, l1, l2, l3, .int x, l5, l6, l7, l8] st h = Rr X d MFl_readJoined 48 [l0, l1, l2, l3, .int x, l5, l6, l7, l8] (.int x :: st) h := Rr_nx d_MFl_readJoined_46 rfl
theorem r_MFl_readJoined_48 : Rr X d MFl_readJoined 48 L st h = Rr X d MFl_readJoined 49 L (.int (-1) :: st) h := Rr_nx d_MFl_readJoined_48 rfl
theorem r_MFl_readJoined_49 {x y : Int32} : Rr X d MFl_readJoined 49 L (.int y :: .int x :: st) h = if x = y then Rr X d MFl_readJoined 115 L st h else Rr X d MFl_readJoined 52 L st h := R_ic_eq d_MFl_readJoined_49 (by decide)
theorem r_MFl_readJoined_52 {l0 l2 l3 l4 l5 l6 l7 l8 : Value} {x : Nat} : Rr X d MFl_readJoined 52 [l0, .ref x, l2, l3, l4, l5, l6, l7, l8] st h = Rr X d MFl_readJoined 53 [l0, .ref x, l2, l3, l4, l5, l6, l7, l8] (.ref x :: st) h := Rr_nx d_MFl_readJoined_52 rfl
theorem r_MFl_readJoined_52n {l0 l2 l3 l4 l5 l6 l7 l8 : Value} : Rr X d MFl_readJoined 52 [l0, .null, l2, l3, l4, l5, l6, l7, l8] st h = Rr X d MFl_readJoined 53 [l0, .null, l2, l3, l4, l5, l6, l7, l8] (.null :: st) h := Rr_nx d_MFl_readJoined_52 rfl
theorem fc_3_52 : fC 3 52 = some (0, 8, 0, MTa_here) := rfl
theorem r_MFl_readJoined_53 {a : Nat} (hO : qO a 8 = true) (hc : ckS st = true) : Rr X (d + 1) MFl_readJoined 53 L (.ref a :: st) (Wd mu la ro et) = (Rr X d MTa_here 0 [.ref a] [] (Wd mu la ro et)).bind fun q => Rr X (d + 1) MFl_readJoined 56 L (psh q.1 st) q.2 := R_iv (av := []) d_MFl_readJoined_53 fc_3_52 hO (ckS_le hc) rfl (Nat.le_of_ble_eq_true rfl) (Nat.le_of_ble_eq_true rfl)
theorem fc_3_56 : fC 3 56 = some (1, 0, 1, MFl_levelOf) := rfl
theorem r_MFl_readJoined_56 {y0 : Int32} (hc : ckS st = true) : Rr X (d + 1) MFl_readJoined 56 L (.int y0 :: st) h = (Rr X d MFl_levelOf 0 [.int y0] [] h).bind fun q => Rr X (d + 1) MFl_readJoined 59 L (psh q.1 st) q.2 := R_is (av := [.int y0]) d_MFl_readJoined_56 (Or.inl fc_3_56) (ckS_le hc) rfl (Nat.le_of_ble_eq_true rfl) (Nat.le_of_ble_eq_true rfl)
theorem r_MFl_readJoined_59 {l0 l1 l3 l4 l5 l6 l7 l8 : Value} {x : Int32} : Rr X d MFl_readJoined 59 [l0, l1, .int x, l3, l4, l5, l6, l7, l8] st h = Rr X d MFl_readJoined 60 [l0, l1, .int x, l3, l4, l5, l6, l7, l8] (.int x :: st) h := Rr_nx d_MFl_readJoined_59 rfl
theorem r_MFl_readJoined_60 {x y : Int32} : Rr X d MFl_readJoined 60 L (.int y :: .int x :: st) h = if ¬ x = y then Rr X d MFl_readJoined 115 L st h else Rr X d MFl_readJoined 63 L st h := R_ic_ne d_MFl_readJoined_60 (by decide)
theorem r_MFl_readJoined_63 {l0 l2 l3 l4 l5 l6 l7 l8 : Value} {x : Nat} : Rr X d MFl_readJoined 63 [l0, .ref x, l2, l3, l4, l5, l6, l7, l8] st h = Rr X d MFl_readJoined 64 [l0, .ref x, l2, l3, l4, l5, l6, l7, l8] (.ref x :: st) h := Rr_nx d_MFl_readJoined_63 rfl
theorem r_MFl_readJoined_63n {l0 l2 l3 l4 l5 l6 l7 l8 : Value} : Rr X d MFl_readJoined 63 [l0, .null, l2, l3, l4, l5, l6, l7, l8] st h = Rr X d MFl_readJoined 64 [l0, .null, l2, l3, l4, l5, l6, l7, l8] (.null :: st) h := Rr_nx d_MFl_readJoined_63 rfl
theorem r_MFl_readJoined_64 {a : Nat} (hO : qO a 8 = true) (hc : ckS st = true) : Rr X (d + 1) MFl_readJoined 64 L (.ref a :: st) (Wd mu la ro et) = (Rr X d MTa_here 0 [.ref a] [] (Wd mu la ro et)).bind fun q => Rr X (d + 1) MFl_readJoined 67 L (psh q.1 st) q.2 := R_iv (av := []) d_MFl_readJoined_64 fc_3_52 hO (ckS_le hc) rfl (Nat.le_of_ble_eq_true rfl) (Nat.le_of_ble_eq_true rfl)
theorem r_MFl_readJoined_67 {l0 l1 l2 l3 l4 l5 l6 l7 l8 : Value} {x : Int32} : Rr X d MFl_readJoined 67 [l0, l1, l2, l3, l4, l5, l6, l7, l8] (.int x :: st) h = Rr X d MFl_readJoined 69 (sL [l0, l1, l2, l3, l4, l5, l6, l7, l8] 7 (.int x)) st h := Rr_nx d_MFl_readJoined_67 rfl
theorem r_MFl_readJoined_69 {l0 l2 l3 l4 l5 l6 l7 l8 : Value} {x : Nat} : Rr X d MFl_readJoined 69 [l0, .ref x, l2, l3, l4, l5, l6, l7, l8] st h = Rr X d MFl_readJoined 70 [l0, .ref x, l2, l3, l4, l5, l6, l7, l8] (.ref x :: st) h := Rr_nx d_MFl_readJoined_69 rfl
theorem r_MFl_readJoined_69n {l0 l2 l3 l4 l5 l6 l7 l8 : Value} : Rr X d MFl_readJoined 69 [l0, .null, l2, l3, l4, l5, l6, l7, l8] st h = Rr X d MFl_readJoined 70 [l0, .null, l2, l3, l4, l5, l6, l7, l8] (.null :: st) h := Rr_nx d_MFl_readJoined_69 rfl
theorem r_MFl_readJoined_70 {l0 l1 l2 l3 l4 l5 l6 l8 : Value} {x : Int32} : Rr X d MFl_readJoined 70 [l0, l1, l2, l3, l4, l5, l6, .int x, l8] st h = Rr X d MFl_readJoined 72 [l0, l1, l2, l3, l4, l5, l6, .int x, l8] (.int x :: st) h := Rr_nx d_MFl_readJoined_70 rfl
theorem r_MFl_readJoined_72 {y0 : Int32} {a : Nat} (hO : qO a 8 = true) (hc : ckS st = true) : Rr X (d + 1) MFl_readJoined 72 L (.int y0 :: .ref a :: st) (Wd mu la ro et) = (Rr X d MTa_skip 0 [.ref a, .int y0] [] (Wd mu la ro et)).bind fun q => Rr X (d + 1) MFl_readJoined 75 L (psh q.1 st) q.2 := R_iv (av := [.int y0]) d_MFl_readJoined_72 fc_3_32 hO (ckS_le hc) rfl (Nat.le_of_ble_eq_true rfl) (Nat.le_of_ble_eq_true rfl)
theorem r_MFl_readJoined_75 {x : Int32} : Rr X d MFl_readJoined 75 L (.int x :: st) h = Rr X d MFl_readJoined 76 L st h := Rr_nx d_MFl_readJoined_75 rfl
theorem r_MFl_readJoined_76 {l1 l2 l3 l4 l5 l6 l7 l8 : Value} {x : Nat} : Rr X d MFl_readJoined 76 [.ref x, l1, l2, l3, l4, l5, l6, l7, l8] st h = Rr X d MFl_readJoined 77 [.ref x, l1, l2, l3, l4, l5, l6, l7, l8] (.ref x :: st) h := Rr_nx d_MFl_readJoined_76 rfl
theorem r_MFl_readJoined_77 {l0 l2 l3 l4 l5 l6 l7 l8 : Value} {x : Nat} : Rr X d MFl_readJoined 77 [l0, .ref x, l2, l3, l4, l5, l6, l7, l8] st h = Rr X d MFl_readJoined 78 [l0, .ref x, l2, l3, l4, l5, l6, l7, l8] (.ref x :: st) h := Rr_nx d_MFl_readJoined_77 rfl
theorem r_MFl_readJoined_77n {l0 l2 l3 l4 l5 l6 l7 l8 : Value} : Rr X d MFl_readJoined 77 [l0, .null, l2, l3, l4, l5, l6, l7, l8] st h = Rr X d MFl_readJoined 78 [l0, .null, l2, l3, l4, l5, l6, l7, l8] (.null :: st) h := Rr_nx d_MFl_readJoined_77 rfl
theorem r_MFl_readJoined_78 {l0 l1 l3 l4 l5 l6 l7 l8 : Value} {x : Int32} : Rr X d MFl_readJoined 78 [l0, l1, .int x, l3, l4, l5, l6, l7, l8] st h = Rr X d MFl_readJoined 79 [l0, l1, .int x, l3, l4, l5, l6, l7, l8] (.int x :: st) h := Rr_nx d_MFl_readJoined_78 rfl
theorem r_MFl_readJoined_79 : Rr X d MFl_readJoined 79 L st h = Rr X d MFl_readJoined 80 L (.int (1) :: st) h := Rr_nx d_MFl_readJoined_79 rfl
theorem r_MFl_readJoined_80 {x y : Int32} : Rr X d MFl_readJoined 80 L (.int y :: .int x :: st) h = Rr X d MFl_readJoined 81 L (.int (x + y) :: st) h := Rr_nx d_MFl_readJoined_80 rfl
theorem r_MFl_readJoined_81 {l0 l1 l2 l4 l5 l6 l7 l8 : Value} {x : Int32} : Rr X d MFl_readJoined 81 [l0, l1, l2, .int x, l4, l5, l6, l7, l8] st h = Rr X d MFl_readJoined 82 [l0, l1, l2, .int x, l4, l5, l6, l7, l8] (.int x :: st) h := Rr_nx d_MFl_readJoined_81 rfl
theorem r_MFl_readJoined_82 {y0 : Nat} {y1 : Int32} {y2 : Int32} {a : Nat} (hO : qO a 3 = true) (hc : ckS st = true) : Rr X (d + 1) MFl_readJoined 82 L (.int y2 :: .int y1 :: .ref y0 :: .ref a :: st) (Wd mu la ro et) = (Rr X d MFl_readJoined 0 [.ref a, .ref y0, .int y1, .int y2, mkU, mkU, mkU, mkU, mkU] [] (Wd mu la ro et)).bind fun q => Rr X (d + 1) MFl_readJoined 85 L (psh q.1 st) q.2 := R_iv (av := [.int y2, .int y1, .ref y0]) d_MFl_readJoined_82 fc_3_40 hO (ckS_le hc) rfl (Nat.le_of_ble_eq_true rfl) (Nat.le_of_ble_eq_true rfl)
theorem r_MFl_readJoined_85 {l0 l1 l2 l3 l4 l5 l6 l7 l8 : Value} {x : Int32} : Rr X d MFl_readJoined 85 [l0, l1, l2, l3, l4, l5, l6, l7, l8] (.int x :: st) h = Rr X d MFl_readJoined 87 (sL [l0, l1, l2, l3, l4, l5, l6, l7, l8] 8 (.int x)) st h := Rr_nx d_MFl_readJoined_85 rfl
theorem r_MFl_readJoined_87 {l0 l1 l2 l3 l4 l5 l6 l7 : Value} {x : Int32} : Rr X d MFl_readJoined 87 [l0, l1, l2, l3, l4, l5, l6, l7, .int x] st h = Rr X d MFl_readJoined 89 [l0, l1, l2, l3, l4, l5, l6, l7, .int x] (.int x :: st) h := Rr_nx d_MFl_readJoined_87 rfl
theorem r_MFl_readJoined_89 : Rr X d MFl_readJoined 89 L st h = Rr X d MFl_readJoined 90 L (.int (-1) :: st) h := Rr_nx d_MFl_readJoined_89 rfl
theorem r_MFl_readJoined_90 {x y : Int32} : Rr X d MFl_readJoined 90 L (.int y :: .int x :: st) h = if ¬ x = y then Rr X d MFl_readJoined 97 L st h else Rr X d MFl_readJoined 93 L st h := R_ic_ne d_MFl_readJoined_90 (by decide)
theorem r_MFl_readJoined_93 : Rr X d MFl_readJoined 93 L st h = Rr X d MFl_readJoined 94 L (.int (-1) :: st) h := Rr_nx d_MFl_readJoined_93 rfl
theorem r_MFl_readJoined_94 : Rr X d MFl_readJoined 94 L st h = Rr X d MFl_readJoined 107 L st h := R_goto d_MFl_readJoined_94 (by decide)
theorem r_MFl_readJoined_97 {l1 l2 l3 l4 l5 l6 l7 l8 : Value} {x : Nat} : Rr X d MFl_readJoined 97 [.ref x, l1, l2, l3, l4, l5, l6, l7, l8] st h = Rr X d MFl_readJoined 98 [.ref x, l1, l2, l3, l4, l5, l6, l7, l8] (.ref x :: st) h := Rr_nx d_MFl_readJoined_97 rfl
theorem r_MFl_readJoined_98 {l0 l1 l2 l3 l4 l5 l6 l8 : Value} {x : Int32} : Rr X d MFl_readJoined 98 [l0, l1, l2, l3, l4, l5, l6, .int x, l8] st h = Rr X d MFl_readJoined 100 [l0, l1, l2, l3, l4, l5, l6, .int x, l8] (.int x :: st) h := Rr_nx d_MFl_readJoined_98 rfl
theorem r_MFl_readJoined_100 {l0 l1 l2 l3 l5 l6 l7 l8 : Value} {x : Int32} : Rr X d MFl_readJoined 100 [l0, l1, l2, l3, .int x, l5, l6, l7, l8] st h = Rr X d MFl_readJoined 102 [l0, l1, l2, l3, .int x, l5, l6, l7, l8] (.int x :: st) h := Rr_nx d_MFl_readJoined_100 rfl
theorem r_MFl_readJoined_102 {l0 l1 l2 l3 l4 l5 l6 l7 : Value} {x : Int32} : Rr X d MFl_readJoined 102 [l0, l1, l2, l3, l4, l5, l6, l7, .int x] st h = Rr X d MFl_readJoined 104 [l0, l1, l2, l3, l4, l5, l6, l7, .int x] (.int x :: st) h := Rr_nx d_MFl_readJoined_102 rfl
theorem r_MFl_readJoined_104 {y0 : Int32} {y1 : Int32} {y2 : Int32} {a : Nat} (hO : qO a 3 = true) (hc : ckS st = true) : Rr X (d + 1) MFl_readJoined 104 L (.int y2 :: .int y1 :: .int y0 :: .ref a :: st) (Wd mu la ro et) = (Rr X d MFl_append 0 [.ref a, .int y0, .int y1, .int y2] [] (Wd mu la ro et)).bind fun q => Rr X (d + 1) MFl_readJoined 107 L (psh q.1 st) q.2 := R_iv (av := [.int y2, .int y1, .int y0]) d_MFl_readJoined_104 fc_3_44 hO (ckS_le hc) rfl (Nat.le_of_ble_eq_true rfl) (Nat.le_of_ble_eq_true rfl)
theorem r_MFl_readJoined_107 {l0 l1 l2 l3 l4 l5 l6 l7 l8 : Value} {x : Int32} : Rr X d MFl_readJoined 107 [l0, l1, l2, l3, l4, l5, l6, l7, l8] (.int x :: st) h = Rr X d MFl_readJoined 109 (sL [l0, l1, l2, l3, l4, l5, l6, l7, l8] 4 (.int x)) st h := Rr_nx d_MFl_readJoined_107 rfl
theorem r_MFl_readJoined_109 {l0 l1 l2 l3 l4 l5 l7 l8 : Value} {x : Int32} : Rr X d MFl_readJoined 109 [l0, l1, l2, l3, l4, l5, .int x, l7, l8] st h = Rr X d MFl_readJoined 112 (sL [l0, l1, l2, l3, l4, l5, .int x, l7, l8] 6 (.int (x + (1)))) st h := Rr_nx d_MFl_readJoined_109 rfl
theorem r_MFl_readJoined_112 : Rr X d MFl_readJoined 112 L st h = Rr X d MFl_readJoined 39 L st h := R_goto d_MFl_readJoined_112 (by decide)
theorem r_MFl_readJoined_115 {l0 l1 l2 l3 l5 l6 l7 l8 : Value} {x : Int32} : Rr X d MFl_readJoined 115 [l0, l1, l2, l3, .int x, l5, l6, l7, l8] st h = Rr X d MFl_readJoined 117 [l0, l1, l2, l3, .int x, l5, l6, l7, l8] (.int x :: st) h := Rr_nx d_MFl_readJoined_115 rfl
theorem r_MFl_readJoined_117 {x : Int32} : Rr X d MFl_readJoined 117 L [.int x] h = some (some (.int x), h) := R_ir d_MFl_readJoined_117 rfl
theorem d_MFl_readOne_0 : decode MFl_readOne.2.2.1 0 = .ok (.aload_n 1, 1) := by decide +kernel
theorem d_MFl_readOne_1 : decode MFl_readOne.2.2.1 1 = .ok (.invokevirtual 52, 3) := by decide +kernel
theorem d_MFl_readOne_4 : decode MFl_readOne.2.2.1 4 = .ok (.istore_n 3, 1) := by decide +kernel
theorem d_MFl_readOne_5 : decode MFl_readOne.2.2.1 5 = .ok (.iload_n 3, 1) := by decide +kernel
theorem d_MFl_readOne_6 : decode MFl_readOne.2.2.1 6 = .ok (.lookupswitch 124 #[(33, 96), (40, 96), (45, 96), (105, 82), (112, 82), (113, 82), (115, 82), (118, 82), (119, 82)], 82) := by decide +kernel
theorem d_MFl_readOne_88 : decode MFl_readOne.2.2.1 88 = .ok (.aload_n 1, 1) := by decide +kernel
theorem d_MFl_readOne_89 : decode MFl_readOne.2.2.1 89 = .ok (.iload_n 3, 1) := by decide +kernel
theorem d_MFl_readOne_90 : decode MFl_readOne.2.2.1 90 = .ok (.invokevirtual 32, 3) := by decide +kernel
theorem d_MFl_readOne_93 : decode MFl_readOne.2.2.1 93 = .ok (.pop, 1) := by decide +kernel
theorem d_MFl_readOne_94 : decode MFl_readOne.2.2.1 94 = .ok (.aload_n 0, 1) := by decide +kernel
theorem d_MFl_readOne_95 : decode MFl_readOne.2.2.1 95 = .ok (.iload_n 3, 1) := by decide +kernel
theorem d_MFl_readOne_96 : decode MFl_readOne.2.2.1 96 = .ok (.iconst (-1), 1) := by decide +kernel
theorem d_MFl_readOne_97 : decode MFl_readOne.2.2.1 97 = .ok (.iconst (-1), 1) := by decide +kernel
theorem d_MFl_readOne_98 : decode MFl_readOne.2.2.1 98 = .ok (.invokevirtual 44, 3) := by decide +kernel
theorem d_MFl_readOne_101 : decode MFl_readOne.2.2.1 101 = .ok (.ireturn, 1) := by decide +kernel
theorem d_MFl_readOne_102 : decode MFl_readOne.2.2.1 102 = .ok (.iload_n 2, 1) := by decide +kernel
theorem d_MFl_readOne_103 : decode MFl_readOne.2.2.1 103 = .ok (.bipush 6, 2) := by decide +kernel
theorem d_MFl_readOne_105 : decode MFl_readOne.2.2.1 105 = .ok (.if_icmp .ge 23, 3) := by decide +kernel
theorem d_MFl_readOne_108 : decode MFl_readOne.2.2.1 108 = .ok (.aload_n 1, 1) := by decide +kernel
theorem d_MFl_readOne_109 : decode MFl_readOne.2.2.1 109 = .ok (.iload_n 3, 1) := by decide +kernel
theorem d_MFl_readOne_110 : decode MFl_readOne.2.2.1 110 = .ok (.invokevirtual 32, 3) := by decide +kernel
theorem d_MFl_readOne_113 : decode MFl_readOne.2.2.1 113 = .ok (.ifCond .eq 15, 3) := by decide +kernel
theorem d_MFl_readOne_116 : decode MFl_readOne.2.2.1 116 = .ok (.aload_n 0, 1) := by decide +kernel
theorem d_MFl_readOne_117 : decode MFl_readOne.2.2.1 117 = .ok (.aload_n 1, 1) := by decide +kernel
theorem d_MFl_readOne_118 : decode MFl_readOne.2.2.1 118 = .ok (.iload_n 3, 1) := by decide +kernel
theorem d_MFl_readOne_119 : decode MFl_readOne.2.2.1 119 = .ok (.iload_n 2, 1) := by decide +kernel
theorem d_MFl_readOne_120 : decode MFl_readOne.2.2.1 120 = .ok (.iconst 1, 1) := by decide +kernel
theorem d_MFl_readOne_121 : decode MFl_readOne.2.2.1 121 = .ok (.iadd, 1) := by decide +kernel
theorem d_MFl_readOne_122 : decode MFl_readOne.2.2.1 122 = .ok (.invokevirtual 60, 3) := by decide +kernel
theorem d_MFl_readOne_125 : decode MFl_readOne.2.2.1 125 = .ok (.goto 4, 3) := by decide +kernel
theorem d_MFl_readOne_128 : decode MFl_readOne.2.2.1 128 = .ok (.iconst (-1), 1) := by decide +kernel
theorem d_MFl_readOne_129 : decode MFl_readOne.2.2.1 129 = .ok (.ireturn, 1) := by decide +kernel
theorem d_MFl_readOne_130 : decode MFl_readOne.2.2.1 130 = .ok (.aload_n 1, 1) := by decide +kernel
theorem d_MFl_readOne_131 : decode MFl_readOne.2.2.1 131 = .ok (.iconst 4, 1) := by decide +kernel
theorem d_MFl_readOne_132 : decode MFl_readOne.2.2.1 132 = .ok (.invokevirtual 63, 3) := by decide +kernel
theorem d_MFl_readOne_135 : decode MFl_readOne.2.2.1 135 = .ok (.istore 4, 2) := by decide +kernel
theorem d_MFl_readOne_137 : decode MFl_readOne.2.2.1 137 = .ok (.iload 4, 2) := by decide +kernel
theorem d_MFl_readOne_139 : decode MFl_readOne.2.2.1 139 = .ok (.ifCond .ge 7, 3) := by decide +kernel
theorem d_MFl_readOne_142 : decode MFl_readOne.2.2.1 142 = .ok (.iconst (-1), 1) := by decide +kernel
theorem d_MFl_readOne_143 : decode MFl_readOne.2.2.1 143 = .ok (.goto 9, 3) := by decide +kernel
theorem d_MFl_readOne_146 : decode MFl_readOne.2.2.1 146 = .ok (.aload_n 0, 1) := by decide +kernel
theorem d_MFl_readOne_147 : decode MFl_readOne.2.2.1 147 = .ok (.iload 4, 2) := by decide +kernel
theorem d_MFl_readOne_149 : decode MFl_readOne.2.2.1 149 = .ok (.invokevirtual 66, 3) := by decide +kernel
theorem d_MFl_readOne_152 : decode MFl_readOne.2.2.1 152 = .ok (.ireturn, 1) := by decide +kernel
theorem r_MFl_readOne_0 {l0 l2 l3 l4 : Value} {x : Nat} : Rr X d MFl_readOne 0 [l0, .ref x, l2, l3, l4] st h = Rr X d MFl_readOne 1 [l0, .ref x, l2, l3, l4] (.ref x :: st) h := Rr_nx d_MFl_readOne_0 rfl
theorem r_MFl_readOne_0n {l0 l2 l3 l4 : Value} : Rr X d MFl_readOne 0 [l0, .null, l2, l3, l4] st h = Rr X d MFl_readOne 1 [l0, .null, l2, l3, l4] (.null :: st) h := Rr_nx d_MFl_readOne_0 rfl
theorem r_MFl_readOne_1 {a : Nat} (hO : qO a 8 = true) (hc : ckS st = true) : Rr X (d + 1) MFl_readOne 1 L (.ref a :: st) (Wd mu la ro et) = (Rr X d MTa_here 0 [.ref a] [] (Wd mu la ro et)).bind fun q => Rr X (d + 1) MFl_readOne 4 L (psh q.1 st) q.2 := R_iv (av := []) d_MFl_readOne_1 fc_3_52 hO (ckS_le hc) rfl (Nat.le_of_ble_eq_true rfl) (Nat.le_of_ble_eq_true rfl)
theorem r_MFl_readOne_4 {l0 l1 l2 l3 l4 : Value} {x : Int32} : Rr X d MFl_readOne 4 [l0, l1, l2, l3, l4] (.int x :: st) h = Rr X d MFl_readOne 5 (sL [l0, l1, l2, l3, l4] 3 (.int x)) st h := Rr_nx d_MFl_readOne_4 rfl
theorem r_MFl_readOne_5 {l0 l1 l2 l4 : Value} {x : Int32} : Rr X d MFl_readOne 5 [l0, l1, l2, .int x, l4] st h = Rr X d MFl_readOne 6 [l0, l1, l2, .int x, l4] (.int x :: st) h := Rr_nx d_MFl_readOne_5 rfl
theorem r_MFl_readOne_6_33 : Rr X d MFl_readOne 6 L (.int (33) :: st) h = Rr X d MFl_readOne 102 L st h := R_lkp (off := 96) d_MFl_readOne_6 (by decide) (by decide) (by decide)
theorem r_MFl_readOne_6_40 : Rr X d MFl_readOne 6 L (.int (40) :: st) h = Rr X d MFl_readOne 102 L st h := R_lkp (off := 96) d_MFl_readOne_6 (by decide) (by decide) (by decide)
theorem r_MFl_readOne_6_45 : Rr X d MFl_readOne 6 L (.int (45) :: st) h = Rr X d MFl_readOne 102 L st h := R_lkp (off := 96) d_MFl_readOne_6 (by decide) (by decide) (by decide)
theorem r_MFl_readOne_6_105 : Rr X d MFl_readOne 6 L (.int (105) :: st) h = Rr X d MFl_readOne 88 L st h := R_lkp (off := 82) d_MFl_readOne_6 (by decide) (by decide) (by decide)
theorem r_MFl_readOne_6_112 : Rr X d MFl_readOne 6 L (.int (112) :: st) h = Rr X d MFl_readOne 88 L st h := R_lkp (off := 82) d_MFl_readOne_6 (by decide) (by decide) (by decide)
theorem r_MFl_readOne_6_113 : Rr X d MFl_readOne 6 L (.int (113) :: st) h = Rr X d MFl_readOne 88 L st h := R_lkp (off := 82) d_MFl_readOne_6 (by decide) (by decide) (by decide)
theorem r_MFl_readOne_6_115 : Rr X d MFl_readOne 6 L (.int (115) :: st) h = Rr X d MFl_readOne 88 L st h := R_lkp (off := 82) d_MFl_readOne_6 (by decide) (by decide) (by decide)
theorem r_MFl_readOne_6_118 : Rr X d MFl_readOne 6 L (.int (118) :: st) h = Rr X d MFl_readOne 88 L st h := R_lkp (off := 82) d_MFl_readOne_6 (by decide) (by decide) (by decide)
theorem r_MFl_readOne_6_119 : Rr X d MFl_readOne 6 L (.int (119) :: st) h = Rr X d MFl_readOne 88 L st h := R_lkp (off := 82) d_MFl_readOne_6 (by decide) (by decide) (by decide)
theorem r_MFl_readOne_6_m1 : Rr X d MFl_readOne 6 L (.int (-1) :: st) h = Rr X d MFl_readOne 130 L st h := R_lkp (off := 124) d_MFl_readOne_6 (by decide) (by decide) (by decide)
theorem r_MFl_readOne_6D {x : Int32} (hx : Op.lookupswitch.offset [(33, 96), (40, 96), (45, 96), (105, 82), (112, 82), (113, 82), (115, 82), (118, 82), (119, 82)] (124) x.toInt = 124) : Rr X d MFl_readOne 6 L (.int x :: st) h = Rr X d MFl_readOne 130 L st h := R_lkp d_MFl_readOne_6 (by decide) hx (by decide)
theorem r_MFl_readOne_88 {l0 l2 l3 l4 : Value} {x : Nat} : Rr X d MFl_readOne 88 [l0, .ref x, l2, l3, l4] st h = Rr X d MFl_readOne 89 [l0, .ref x, l2, l3, l4] (.ref x :: st) h := Rr_nx d_MFl_readOne_88 rfl
theorem r_MFl_readOne_88n {l0 l2 l3 l4 : Value} : Rr X d MFl_readOne 88 [l0, .null, l2, l3, l4] st h = Rr X d MFl_readOne 89 [l0, .null, l2, l3, l4] (.null :: st) h := Rr_nx d_MFl_readOne_88 rfl
theorem r_MFl_readOne_89 {l0 l1 l2 l4 : Value} {x : Int32} : Rr X d MFl_readOne 89 [l0, l1, l2, .int x, l4] st h = Rr X d MFl_readOne 90 [l0, l1, l2, .int x, l4] (.int x :: st) h := Rr_nx d_MFl_readOne_89 rfl
theorem r_MFl_readOne_90 {y0 : Int32} {a : Nat} (hO : qO a 8 = true) (hc : ckS st = true) : Rr X (d + 1) MFl_readOne 90 L (.int y0 :: .ref a :: st) (Wd mu la ro et) = (Rr X d MTa_skip 0 [.ref a, .int y0] [] (Wd mu la ro et)).bind fun q => Rr X (d + 1) MFl_readOne 93 L (psh q.1 st) q.2 := R_iv (av := [.int y0]) d_MFl_readOne_90 fc_3_32 hO (ckS_le hc) rfl (Nat.le_of_ble_eq_true rfl) (Nat.le_of_ble_eq_true rfl)
theorem r_MFl_readOne_93 {x : Int32} : Rr X d MFl_readOne 93 L (.int x :: st) h = Rr X d MFl_readOne 94 L st h := Rr_nx d_MFl_readOne_93 rfl
theorem r_MFl_readOne_94 {l1 l2 l3 l4 : Value} {x : Nat} : Rr X d MFl_readOne 94 [.ref x, l1, l2, l3, l4] st h = Rr X d MFl_readOne 95 [.ref x, l1, l2, l3, l4] (.ref x :: st) h := Rr_nx d_MFl_readOne_94 rfl
theorem r_MFl_readOne_95 {l0 l1 l2 l4 : Value} {x : Int32} : Rr X d MFl_readOne 95 [l0, l1, l2, .int x, l4] st h = Rr X d MFl_readOne 96 [l0, l1, l2, .int x, l4] (.int x :: st) h := Rr_nx d_MFl_readOne_95 rfl
theorem r_MFl_readOne_96 : Rr X d MFl_readOne 96 L st h = Rr X d MFl_readOne 97 L (.int (-1) :: st) h := Rr_nx d_MFl_readOne_96 rfl
theorem r_MFl_readOne_97 : Rr X d MFl_readOne 97 L st h = Rr X d MFl_readOne 98 L (.int (-1) :: st) h := Rr_nx d_MFl_readOne_97 rfl
theorem r_MFl_readOne_98 {y0 : Int32} {y1 : Int32} {y2 : Int32} {a : Nat} (hO : qO a 3 = true) (hc : ckS st = true) : Rr X (d + 1) MFl_readOne 98 L (.int y2 :: .int y1 :: .int y0 :: .ref a :: st) (Wd mu la ro et) = (Rr X d MFl_append 0 [.ref a, .int y0, .int y1, .int y2] [] (Wd mu la ro et)).bind fun q => Rr X (d + 1) MFl_readOne 101 L (psh q.1 st) q.2 := R_iv (av := [.int y2, .int y1, .int y0]) d_MFl_readOne_98 fc_3_44 hO (ckS_le hc) rfl (Nat.le_of_ble_eq_true rfl) (Nat.le_of_ble_eq_true rfl)
theorem r_MFl_readOne_101 {x : Int32} : Rr X d MFl_readOne 101 L [.int x] h = some (some (.int x), h) := R_ir d_MFl_readOne_101 rfl
theorem r_MFl_readOne_102 {l0 l1 l3 l4 : Value} {x : Int32} : Rr X d MFl_readOne 102 [l0, l1, .int x, l3, l4] st h = Rr X d MFl_readOne 103 [l0, l1, .int x, l3, l4] (.int x :: st) h := Rr_nx d_MFl_readOne_102 rfl
theorem r_MFl_readOne_103 : Rr X d MFl_readOne 103 L st h = Rr X d MFl_readOne 105 L (.int (6) :: st) h := Rr_nx d_MFl_readOne_103 rfl
theorem r_MFl_readOne_105 {x y : Int32} : Rr X d MFl_readOne 105 L (.int y :: .int x :: st) h = if y ≤ x then Rr X d MFl_readOne 128 L st h else Rr X d MFl_readOne 108 L st h := R_ic_ge d_MFl_readOne_105 (by decide)
theorem r_MFl_readOne_108 {l0 l2 l3 l4 : Value} {x : Nat} : Rr X d MFl_readOne 108 [l0, .ref x, l2, l3, l4] st h = Rr X d MFl_readOne 109 [l0, .ref x, l2, l3, l4] (.ref x :: st) h := Rr_nx d_MFl_readOne_108 rfl
theorem r_MFl_readOne_108n {l0 l2 l3 l4 : Value} : Rr X d MFl_readOne 108 [l0, .null, l2, l3, l4] st h = Rr X d MFl_readOne 109 [l0, .null, l2, l3, l4] (.null :: st) h := Rr_nx d_MFl_readOne_108 rfl
theorem r_MFl_readOne_109 {l0 l1 l2 l4 : Value} {x : Int32} : Rr X d MFl_readOne 109 [l0, l1, l2, .int x, l4] st h = Rr X d MFl_readOne 110 [l0, l1, l2, .int x, l4] (.int x :: st) h := Rr_nx d_MFl_readOne_109 rfl
theorem r_MFl_readOne_110 {y0 : Int32} {a : Nat} (hO : qO a 8 = true) (hc : ckS st = true) : Rr X (d + 1) MFl_readOne 110 L (.int y0 :: .ref a :: st) (Wd mu la ro et) = (Rr X d MTa_skip 0 [.ref a, .int y0] [] (Wd mu la ro et)).bind fun q => Rr X (d + 1) MFl_readOne 113 L (psh q.1 st) q.2 := R_iv (av := [.int y0]) d_MFl_readOne_110 fc_3_32 hO (ckS_le hc) rfl (Nat.le_of_ble_eq_true rfl) (Nat.le_of_ble_eq_true rfl)
theorem r_MFl_readOne_113 {x : Int32} : Rr X d MFl_readOne 113 L (.int x :: st) h = if x = 0 then Rr X d MFl_readOne 128 L st h else Rr X d MFl_readOne 116 L st h := R_if_eq d_MFl_readOne_113 (by decide)
theorem r_MFl_readOne_116 {l1 l2 l3 l4 : Value} {x : Nat} : Rr X d MFl_readOne 116 [.ref x, l1, l2, l3, l4] st h = Rr X d MFl_readOne 117 [.ref x, l1, l2, l3, l4] (.ref x :: st) h := Rr_nx d_MFl_readOne_116 rfl
theorem r_MFl_readOne_117 {l0 l2 l3 l4 : Value} {x : Nat} : Rr X d MFl_readOne 117 [l0, .ref x, l2, l3, l4] st h = Rr X d MFl_readOne 118 [l0, .ref x, l2, l3, l4] (.ref x :: st) h := Rr_nx d_MFl_readOne_117 rfl
theorem r_MFl_readOne_117n {l0 l2 l3 l4 : Value} : Rr X d MFl_readOne 117 [l0, .null, l2, l3, l4] st h = Rr X d MFl_readOne 118 [l0, .null, l2, l3, l4] (.null :: st) h := Rr_nx d_MFl_readOne_117 rfl
theorem r_MFl_readOne_118 {l0 l1 l2 l4 : Value} {x : Int32} : Rr X d MFl_readOne 118 [l0, l1, l2, .int x, l4] st h = Rr X d MFl_readOne 119 [l0, l1, l2, .int x, l4] (.int x :: st) h := Rr_nx d_MFl_readOne_118 rfl
theorem r_MFl_readOne_119 {l0 l1 l3 l4 : Value} {x : Int32} : Rr X d MFl_readOne 119 [l0, l1, .int x, l3, l4] st h = Rr X d MFl_readOne 120 [l0, l1, .int x, l3, l4] (.int x :: st) h := Rr_nx d_MFl_readOne_119 rfl
theorem r_MFl_readOne_120 : Rr X d MFl_readOne 120 L st h = Rr X d MFl_readOne 121 L (.int (1) :: st) h := Rr_nx d_MFl_readOne_120 rfl
theorem r_MFl_readOne_121 {x y : Int32} : Rr X d MFl_readOne 121 L (.int y :: .int x :: st) h = Rr X d MFl_readOne 122 L (.int (x + y) :: st) h := Rr_nx d_MFl_readOne_121 rfl
theorem fc_3_60 : fC 3 60 = some (0, 3, 3, MFl_readOpened) := rfl
theorem r_MFl_readOne_122 {y0 : Nat} {y1 : Int32} {y2 : Int32} {a : Nat} (hO : qO a 3 = true) (hc : ckS st = true) : Rr X (d + 1) MFl_readOne 122 L (.int y2 :: .int y1 :: .ref y0 :: .ref a :: st) (Wd mu la ro et) = (Rr X d MFl_readOpened 0 [.ref a, .ref y0, .int y1, .int y2, mkU] [] (Wd mu la ro et)).bind fun q => Rr X (d + 1) MFl_readOne 125 L (psh q.1 st) q.2 := R_iv (av := [.int y2, .int y1, .ref y0]) d_MFl_readOne_122 fc_3_60 hO (ckS_le hc) rfl (Nat.le_of_ble_eq_true rfl) (Nat.le_of_ble_eq_true rfl)
theorem r_MFl_readOne_125 : Rr X d MFl_readOne 125 L st h = Rr X d MFl_readOne 129 L st h := R_goto d_MFl_readOne_125 (by decide)
theorem r_MFl_readOne_128 : Rr X d MFl_readOne 128 L st h = Rr X d MFl_readOne 129 L (.int (-1) :: st) h := Rr_nx d_MFl_readOne_128 rfl
theorem r_MFl_readOne_129 {x : Int32} : Rr X d MFl_readOne 129 L [.int x] h = some (some (.int x), h) := R_ir d_MFl_readOne_129 rfl
theorem r_MFl_readOne_130 {l0 l2 l3 l4 : Value} {x : Nat} : Rr X d MFl_readOne 130 [l0, .ref x, l2, l3, l4] st h = Rr X d MFl_readOne 131 [l0, .ref x, l2, l3, l4] (.ref x :: st) h := Rr_nx d_MFl_readOne_130 rfl
theorem r_MFl_readOne_130n {l0 l2 l3 l4 : Value} : Rr X d MFl_readOne 130 [l0, .null, l2, l3, l4] st h = Rr X d MFl_readOne 131 [l0, .null, l2, l3, l4] (.null :: st) h := Rr_nx d_MFl_readOne_130 rfl
theorem r_MFl_readOne_131 : Rr X d MFl_readOne 131 L st h = Rr X d MFl_readOne 132 L (.int (4) :: st) h := Rr_nx d_MFl_readOne_131 rfl
theorem fc_3_63 : fC 3 63 = some (0, 8, 1, MTa_number) := rfl
theorem r_MFl_readOne_132 {y0 : Int32} {a : Nat} (hO : qO a 8 = true) (hc : ckS st = true) : Rr X (d + 1) MFl_readOne 132 L (.int y0 :: .ref a :: st) (Wd mu la ro et) = (Rr X d MTa_number 0 [.ref a, .int y0, mkU, mkU, mkU, mkU] [] (Wd mu la ro et)).bind fun q => Rr X (d + 1) MFl_readOne 135 L (psh q.1 st) q.2 := R_iv (av := [.int y0]) d_MFl_readOne_132 fc_3_63 hO (ckS_le hc) rfl (Nat.le_of_ble_eq_true rfl) (Nat.le_of_ble_eq_true rfl)
theorem r_MFl_readOne_135 {l0 l1 l2 l3 l4 : Value} {x : Int32} : Rr X d MFl_readOne 135 [l0, l1, l2, l3, l4] (.int x :: st) h = Rr X d MFl_readOne 137 (sL [l0, l1, l2, l3, l4] 4 (.int x)) st h := Rr_nx d_MFl_readOne_135 rfl
theorem r_MFl_readOne_137 {l0 l1 l2 l3 : Value} {x : Int32} : Rr X d MFl_readOne 137 [l0, l1, l2, l3, .int x] st h = Rr X d MFl_readOne 139 [l0, l1, l2, l3, .int x] (.int x :: st) h := Rr_nx d_MFl_readOne_137 rfl
theorem r_MFl_readOne_139 {x : Int32} : Rr X d MFl_readOne 139 L (.int x :: st) h = if 0 ≤ x then Rr X d MFl_readOne 146 L st h else Rr X d MFl_readOne 142 L st h := R_if_ge d_MFl_readOne_139 (by decide)
theorem r_MFl_readOne_142 : Rr X d MFl_readOne 142 L st h = Rr X d MFl_readOne 143 L (.int (-1) :: st) h := Rr_nx d_MFl_readOne_142 rfl
theorem r_MFl_readOne_143 : Rr X d MFl_readOne 143 L st h = Rr X d MFl_readOne 152 L st h := R_goto d_MFl_readOne_143 (by decide)
theorem r_MFl_readOne_146 {l1 l2 l3 l4 : Value} {x : Nat} : Rr X d MFl_readOne 146 [.ref x, l1, l2, l3, l4] st h = Rr X d MFl_readOne 147 [.ref x, l1, l2, l3, l4] (.ref x :: st) h := Rr_nx d_MFl_readOne_146 rfl
theorem r_MFl_readOne_147 {l0 l1 l2 l3 : Value} {x : Int32} : Rr X d MFl_readOne 147 [l0, l1, l2, l3, .int x] st h = Rr X d MFl_readOne 149 [l0, l1, l2, l3, .int x] (.int x :: st) h := Rr_nx d_MFl_readOne_147 rfl
theorem fc_3_66 : fC 3 66 = some (0, 3, 1, MFl_appendNumber) := rfl
theorem r_MFl_readOne_149 {y0 : Int32} {a : Nat} (hO : qO a 3 = true) (hc : ckS st = true) : Rr X (d + 1) MFl_readOne 149 L (.int y0 :: .ref a :: st) (Wd mu la ro et) = (Rr X d MFl_appendNumber 0 [.ref a, .int y0, mkU] [] (Wd mu la ro et)).bind fun q => Rr X (d + 1) MFl_readOne 152 L (psh q.1 st) q.2 := R_iv (av := [.int y0]) d_MFl_readOne_149 fc_3_66 hO (ckS_le hc) rfl (Nat.le_of_ble_eq_true rfl) (Nat.le_of_ble_eq_true rfl)
theorem r_MFl_readOne_152 {x : Int32} : Rr X d MFl_readOne 152 L [.int x] h = some (some (.int x), h) := R_ir d_MFl_readOne_152 rfl
theorem d_MFl_append_0 : decode MFl_append.2.2.1 0 = .ok (.aload_n 0, 1) := by decide +kernel
theorem d_MFl_append_1 : decode MFl_append.2.2.1 1 = .ok (.getfield 24, 3) := by decide +kernel
theorem d_MFl_append_4 : decode MFl_append.2.2.1 4 = .ok (.ifCond .lt 12, 3) := by decide +kernel
theorem d_MFl_append_7 : decode MFl_append.2.2.1 7 = .ok (.aload_n 0, 1) := by decide +kernel
theorem d_MFl_append_8 : decode MFl_append.2.2.1 8 = .ok (.getfield 24, 3) := by decide +kernel
theorem d_MFl_append_11 : decode MFl_append.2.2.1 11 = .ok (.bipush 121, 2) := by decide +kernel
theorem d_MFl_append_13 : decode MFl_append.2.2.1 13 = .ok (.if_icmp .lt 5, 3) := by decide +kernel
theorem d_MFl_append_16 : decode MFl_append.2.2.1 16 = .ok (.iconst (-1), 1) := by decide +kernel
theorem d_MFl_append_17 : decode MFl_append.2.2.1 17 = .ok (.ireturn, 1) := by decide +kernel
theorem d_MFl_append_18 : decode MFl_append.2.2.1 18 = .ok (.aload_n 0, 1) := by decide +kernel
theorem d_MFl_append_19 : decode MFl_append.2.2.1 19 = .ok (.getfield 11, 3) := by decide +kernel
theorem d_MFl_append_22 : decode MFl_append.2.2.1 22 = .ok (.aload_n 0, 1) := by decide +kernel
theorem d_MFl_append_23 : decode MFl_append.2.2.1 23 = .ok (.getfield 24, 3) := by decide +kernel
theorem d_MFl_append_26 : decode MFl_append.2.2.1 26 = .ok (.iload_n 1, 1) := by decide +kernel
theorem d_MFl_append_27 : decode MFl_append.2.2.1 27 = .ok (.iastore, 1) := by decide +kernel
theorem d_MFl_append_28 : decode MFl_append.2.2.1 28 = .ok (.aload_n 0, 1) := by decide +kernel
theorem d_MFl_append_29 : decode MFl_append.2.2.1 29 = .ok (.getfield 15, 3) := by decide +kernel
theorem d_MFl_append_32 : decode MFl_append.2.2.1 32 = .ok (.aload_n 0, 1) := by decide +kernel
theorem d_MFl_append_33 : decode MFl_append.2.2.1 33 = .ok (.getfield 24, 3) := by decide +kernel
theorem d_MFl_append_36 : decode MFl_append.2.2.1 36 = .ok (.iload_n 2, 1) := by decide +kernel
theorem d_MFl_append_37 : decode MFl_append.2.2.1 37 = .ok (.iastore, 1) := by decide +kernel
theorem d_MFl_append_38 : decode MFl_append.2.2.1 38 = .ok (.aload_n 0, 1) := by decide +kernel
theorem d_MFl_append_39 : decode MFl_append.2.2.1 39 = .ok (.getfield 18, 3) := by decide +kernel
theorem d_MFl_append_42 : decode MFl_append.2.2.1 42 = .ok (.aload_n 0, 1) := by decide +kernel
theorem d_MFl_append_43 : decode MFl_append.2.2.1 43 = .ok (.getfield 24, 3) := by decide +kernel
theorem d_MFl_append_46 : decode MFl_append.2.2.1 46 = .ok (.iload_n 3, 1) := by decide +kernel
theorem d_MFl_append_47 : decode MFl_append.2.2.1 47 = .ok (.iastore, 1) := by decide +kernel
theorem d_MFl_append_48 : decode MFl_append.2.2.1 48 = .ok (.aload_n 0, 1) := by decide +kernel
theorem d_MFl_append_49 : decode MFl_append.2.2.1 49 = .ok (.dup, 1) := by decide +kernel
theorem d_MFl_append_50 : decode MFl_append.2.2.1 50 = .ok (.getfield 24, 3) := by decide +kernel
theorem d_MFl_append_53 : decode MFl_append.2.2.1 53 = .ok (.iconst 1, 1) := by decide +kernel
theorem d_MFl_append_54 : decode MFl_append.2.2.1 54 = .ok (.iadd, 1) := by decide +kernel
theorem d_MFl_append_55 : decode MFl_append.2.2.1 55 = .ok (.putfield 24, 3) := by decide +kernel
theorem d_MFl_append_58 : decode MFl_append.2.2.1 58 = .ok (.aload_n 0, 1) := by decide +kernel
theorem d_MFl_append_59 : decode MFl_append.2.2.1 59 = .ok (.getfield 24, 3) := by decide +kernel
theorem d_MFl_append_62 : decode MFl_append.2.2.1 62 = .ok (.iconst 1, 1) := by decide +kernel
theorem d_MFl_append_63 : decode MFl_append.2.2.1 63 = .ok (.isub, 1) := by decide +kernel
theorem d_MFl_append_64 : decode MFl_append.2.2.1 64 = .ok (.ireturn, 1) := by decide +kernel
theorem r_MFl_append_0 {l1 l2 l3 : Value} {x : Nat} : Rr X d MFl_append 0 [.ref x, l1, l2, l3] st h = Rr X d MFl_append 1 [.ref x, l1, l2, l3] (.ref x :: st) h := Rr_nx d_MFl_append_0 rfl
theorem r_MFl_append_1 {a : Nat} (hq : qI a 3 4 = true) : Rr X d MFl_append 1 L (.ref a :: st) (Wd mu la ro et) = Rr X d MFl_append 4 L (.int (mu a 4) :: st) (Wd mu la ro et) := R_gfI d_MFl_append_1 ff_3_24 hq
theorem r_MFl_append_4 {x : Int32} : Rr X d MFl_append 4 L (.int x :: st) h = if x < 0 then Rr X d MFl_append 16 L st h else Rr X d MFl_append 7 L st h := R_if_lt d_MFl_append_4 (by decide)
theorem r_MFl_append_7 {l1 l2 l3 : Value} {x : Nat} : Rr X d MFl_append 7 [.ref x, l1, l2, l3] st h = Rr X d MFl_append 8 [.ref x, l1, l2, l3] (.ref x :: st) h := Rr_nx d_MFl_append_7 rfl
theorem r_MFl_append_8 {a : Nat} (hq : qI a 3 4 = true) : Rr X d MFl_append 8 L (.ref a :: st) (Wd mu la ro et) = Rr X d MFl_append 11 L (.int (mu a 4) :: st) (Wd mu la ro et) := R_gfI d_MFl_append_8 ff_3_24 hq
theorem r_MFl_append_11 : Rr X d MFl_append 11 L st h = Rr X d MFl_append 13 L (.int (121) :: st) h := Rr_nx d_MFl_append_11 rfl
theorem r_MFl_append_13 {x y : Int32} : Rr X d MFl_append 13 L (.int y :: .int x :: st) h = if x < y then Rr X d MFl_append 18 L st h else Rr X d MFl_append 16 L st h := R_ic_lt d_MFl_append_13 (by decide)
theorem r_MFl_append_16 : Rr X d MFl_append 16 L st h = Rr X d MFl_append 17 L (.int (-1) :: st) h := Rr_nx d_MFl_append_16 rfl
theorem r_MFl_append_17 {x : Int32} : Rr X d MFl_append 17 L [.int x] h = some (some (.int x), h) := R_ir d_MFl_append_17 rfl
theorem r_MFl_append_18 {l1 l2 l3 : Value} {x : Nat} : Rr X d MFl_append 18 [.ref x, l1, l2, l3] st h = Rr X d MFl_append 19 [.ref x, l1, l2, l3] (.ref x :: st) h := Rr_nx d_MFl_append_18 rfl
theorem ff_3_11 : fF 3 11 = some (3, 0, 1, 1) := rfl
theorem r_MFl_append_19 {a : Nat} (hq : (qR a 3 0).isSome = true) : Rr X d MFl_append 19 L (.ref a :: st) (Wd mu la ro et) = Rr X d MFl_append 22 L (.ref (qRd a 3 0) :: st) (Wd mu la ro et) := R_gfR d_MFl_append_19 ff_3_11 hq
theorem r_MFl_append_22 {l1 l2 l3 : Value} {x : Nat} : Rr X d MFl_append 22 [.ref x, l1, l2, l3] st h = Rr X d MFl_append 23 [.ref x, l1, l2, l3] (.ref x :: st) h := Rr_nx d_MFl_append_22 rfl
theorem r_MFl_append_23 {a : Nat} (hq : qI a 3 4 = true) : Rr X d MFl_append 23 L (.ref a :: st) (Wd mu la ro et) = Rr X d MFl_append 26 L (.int (mu a 4) :: st) (Wd mu la ro et) := R_gfI d_MFl_append_23 ff_3_24 hq
theorem r_MFl_append_26 {l0 l2 l3 : Value} {x : Int32} : Rr X d MFl_append 26 [l0, .int x, l2, l3] st h = Rr X d MFl_append 27 [l0, .int x, l2, l3] (.int x :: st) h := Rr_nx d_MFl_append_26 rfl
theorem r_MFl_append_27 {a : Nat} {j x : Int32} (hq : (qA a 0).isSome = true) : Rr X d MFl_append 27 L (.int x :: .int j :: .ref a :: st) (Wd mu la ro et) = if j < 0 ∨ qAd a 0 ≤ j.toNatClampNeg then none else Rr X d MFl_append 28 L st (Wd (up2 mu a j.toNatClampNeg (x)) la ro et) := R_iasW d_MFl_append_27 hq
theorem r_MFl_append_28 {l1 l2 l3 : Value} {x : Nat} : Rr X d MFl_append 28 [.ref x, l1, l2, l3] st h = Rr X d MFl_append 29 [.ref x, l1, l2, l3] (.ref x :: st) h := Rr_nx d_MFl_append_28 rfl
theorem ff_3_15 : fF 3 15 = some (3, 1, 1, 1) := rfl
theorem r_MFl_append_29 {a : Nat} (hq : (qR a 3 1).isSome = true) : Rr X d MFl_append 29 L (.ref a :: st) (Wd mu la ro et) = Rr X d MFl_append 32 L (.ref (qRd a 3 1) :: st) (Wd mu la ro et) := R_gfR d_MFl_append_29 ff_3_15 hq
theorem r_MFl_append_32 {l1 l2 l3 : Value} {x : Nat} : Rr X d MFl_append 32 [.ref x, l1, l2, l3] st h = Rr X d MFl_append 33 [.ref x, l1, l2, l3] (.ref x :: st) h := Rr_nx d_MFl_append_32 rfl
theorem r_MFl_append_33 {a : Nat} (hq : qI a 3 4 = true) : Rr X d MFl_append 33 L (.ref a :: st) (Wd mu la ro et) = Rr X d MFl_append 36 L (.int (mu a 4) :: st) (Wd mu la ro et) := R_gfI d_MFl_append_33 ff_3_24 hq
theorem r_MFl_append_36 {l0 l1 l3 : Value} {x : Int32} : Rr X d MFl_append 36 [l0, l1, .int x, l3] st h = Rr X d MFl_append 37 [l0, l1, .int x, l3] (.int x :: st) h := Rr_nx d_MFl_append_36 rfl
theorem r_MFl_append_37 {a : Nat} {j x : Int32} (hq : (qA a 0).isSome = true) : Rr X d MFl_append 37 L (.int x :: .int j :: .ref a :: st) (Wd mu la ro et) = if j < 0 ∨ qAd a 0 ≤ j.toNatClampNeg then none else Rr X d MFl_append 38 L st (Wd (up2 mu a j.toNatClampNeg (x)) la ro et) := R_iasW d_MFl_append_37 hq
theorem r_MFl_append_38 {l1 l2 l3 : Value} {x : Nat} : Rr X d MFl_append 38 [.ref x, l1, l2, l3] st h = Rr X d MFl_append 39 [.ref x, l1, l2, l3] (.ref x :: st) h := Rr_nx d_MFl_append_38 rfl
theorem ff_3_18 : fF 3 18 = some (3, 2, 1, 1) := rfl
theorem r_MFl_append_39 {a : Nat} (hq : (qR a 3 2).isSome = true) : Rr X d MFl_append 39 L (.ref a :: st) (Wd mu la ro et) = Rr X d MFl_append 42 L (.ref (qRd a 3 2) :: st) (Wd mu la ro et) := R_gfR d_MFl_append_39 ff_3_18 hq
theorem r_MFl_append_42 {l1 l2 l3 : Value} {x : Nat} : Rr X d MFl_append 42 [.ref x, l1, l2, l3] st h = Rr X d MFl_append 43 [.ref x, l1, l2, l3] (.ref x :: st) h := Rr_nx d_MFl_append_42 rfl
theorem r_MFl_append_43 {a : Nat} (hq : qI a 3 4 = true) : Rr X d MFl_append 43 L (.ref a :: st) (Wd mu la ro et) = Rr X d MFl_append 46 L (.int (mu a 4) :: st) (Wd mu la ro et) := R_gfI d_MFl_append_43 ff_3_24 hq
theorem r_MFl_append_46 {l0 l1 l2 : Value} {x : Int32} : Rr X d MFl_append 46 [l0, l1, l2, .int x] st h = Rr X d MFl_append 47 [l0, l1, l2, .int x] (.int x :: st) h := Rr_nx d_MFl_append_46 rfl
theorem r_MFl_append_47 {a : Nat} {j x : Int32} (hq : (qA a 0).isSome = true) : Rr X d MFl_append 47 L (.int x :: .int j :: .ref a :: st) (Wd mu la ro et) = if j < 0 ∨ qAd a 0 ≤ j.toNatClampNeg then none else Rr X d MFl_append 48 L st (Wd (up2 mu a j.toNatClampNeg (x)) la ro et) := R_iasW d_MFl_append_47 hq
theorem r_MFl_append_48 {l1 l2 l3 : Value} {x : Nat} : Rr X d MFl_append 48 [.ref x, l1, l2, l3] st h = Rr X d MFl_append 49 [.ref x, l1, l2, l3] (.ref x :: st) h := Rr_nx d_MFl_append_48 rfl
theorem r_MFl_append_49 {x : Nat} : Rr X d MFl_append 49 L (.ref x :: st) h = Rr X d MFl_append 50 L (.ref x :: .ref x :: st) h := Rr_nx d_MFl_append_49 rfl
theorem r_MFl_append_49i {x : Int32} : Rr X d MFl_append 49 L (.int x :: st) h = Rr X d MFl_append 50 L (.int x :: .int x :: st) h := Rr_nx d_MFl_append_49 rfl
theorem r_MFl_append_50 {a : Nat} (hq : qI a 3 4 = true) : Rr X d MFl_append 50 L (.ref a :: st) (Wd mu la ro et) = Rr X d MFl_append 53 L (.int (mu a 4) :: st) (Wd mu la ro et) := R_gfI d_MFl_append_50 ff_3_24 hq
theorem r_MFl_append_53 : Rr X d MFl_append 53 L st h = Rr X d MFl_append 54 L (.int (1) :: st) h := Rr_nx d_MFl_append_53 rfl
theorem r_MFl_append_54 {x y : Int32} : Rr X d MFl_append 54 L (.int y :: .int x :: st) h = Rr X d MFl_append 55 L (.int (x + y) :: st) h := Rr_nx d_MFl_append_54 rfl
theorem r_MFl_append_55 {a : Nat} {x : Int32} (hq : qI a 3 4 = true) : Rr X d MFl_append 55 L (.int x :: .ref a :: st) (Wd mu la ro et) = Rr X d MFl_append 58 L st (Wd (up2 mu a 4 x) la ro et) := R_pfI d_MFl_append_55 ff_3_24 hq
theorem r_MFl_append_58 {l1 l2 l3 : Value} {x : Nat} : Rr X d MFl_append 58 [.ref x, l1, l2, l3] st h = Rr X d MFl_append 59 [.ref x, l1, l2, l3] (.ref x :: st) h := Rr_nx d_MFl_append_58 rfl
theorem r_MFl_append_59 {a : Nat} (hq : qI a 3 4 = true) : Rr X d MFl_append 59 L (.ref a :: st) (Wd mu la ro et) = Rr X d MFl_append 62 L (.int (mu a 4) :: st) (Wd mu la ro et) := R_gfI d_MFl_append_59 ff_3_24 hq
theorem r_MFl_append_62 : Rr X d MFl_append 62 L st h = Rr X d MFl_append 63 L (.int (1) :: st) h := Rr_nx d_MFl_append_62 rfl
theorem r_MFl_append_63 {x y : Int32} : Rr X d MFl_append 63 L (.int y :: .int x :: st) h = Rr X d MFl_append 64 L (.int (x - y) :: st) h := Rr_nx d_MFl_append_63 rfl
theorem r_MFl_append_64 {x : Int32} : Rr X d MFl_append 64 L [.int x] h = some (some (.int x), h) := R_ir d_MFl_append_64 rfl
theorem d_MGo_isThere_0 : decode MGo_isThere.2.2.1 0 = .ok (.aload_n 0, 1) := by decide +kernel
theorem d_MGo_isThere_1 : decode MGo_isThere.2.2.1 1 = .ok (.getfield 21, 3) := by decide +kernel
theorem d_MGo_isThere_4 : decode MGo_isThere.2.2.1 4 = .ok (.ifCond .lt 7, 3) := by decide +kernel
theorem d_MGo_isThere_7 : decode MGo_isThere.2.2.1 7 = .ok (.iconst 1, 1) := by decide +kernel
theorem d_MGo_isThere_8 : decode MGo_isThere.2.2.1 8 = .ok (.goto 4, 3) := by decide +kernel
theorem d_MGo_isThere_11 : decode MGo_isThere.2.2.1 11 = .ok (.iconst 0, 1) := by decide +kernel
theorem d_MGo_isThere_12 : decode MGo_isThere.2.2.1 12 = .ok (.ireturn, 1) := by decide +kernel
theorem r_MGo_isThere_0 {x : Nat} : Rr X d MGo_isThere 0 [.ref x] st h = Rr X d MGo_isThere 1 [.ref x] (.ref x :: st) h := Rr_nx d_MGo_isThere_0 rfl
theorem ff_4_21 : fF 4 21 = some (4, 3, 0, 0) := rfl
theorem r_MGo_isThere_1 {a : Nat} (hq : qI a 4 3 = true) : Rr X d MGo_isThere 1 L (.ref a :: st) (Wd mu la ro et) = Rr X d MGo_isThere 4 L (.int (mu a 3) :: st) (Wd mu la ro et) := R_gfI d_MGo_isThere_1 ff_4_21 hq
theorem r_MGo_isThere_4 {x : Int32} : Rr X d MGo_isThere 4 L (.int x :: st) h = if x < 0 then Rr X d MGo_isThere 11 L st h else Rr X d MGo_isThere 7 L st h := R_if_lt d_MGo_isThere_4 (by decide)
theorem r_MGo_isThere_7 : Rr X d MGo_isThere 7 L st h = Rr X d MGo_isThere 8 L (.int (1) :: st) h := Rr_nx d_MGo_isThere_7 rfl
theorem r_MGo_isThere_8 : Rr X d MGo_isThere 8 L st h = Rr X d MGo_isThere 12 L st h := R_goto d_MGo_isThere_8 (by decide)
theorem r_MGo_isThere_11 : Rr X d MGo_isThere 11 L st h = Rr X d MGo_isThere 12 L (.int (0) :: st) h := Rr_nx d_MGo_isThere_11 rfl
theorem r_MGo_isThere_12 {x : Int32} : Rr X d MGo_isThere 12 L [.int x] h = if x = 0 ∨ x = 1 then some (some (.int x), h) else none := R_zr d_MGo_isThere_12 rfl
theorem d_MFi_mayCome_0 : decode MFi_mayCome.2.2.1 0 = .ok (.aload_n 0, 1) := by decide +kernel
theorem d_MFi_mayCome_1 : decode MFi_mayCome.2.2.1 1 = .ok (.getfield 18, 3) := by decide +kernel
theorem d_MFi_mayCome_4 : decode MFi_mayCome.2.2.1 4 = .ok (.ifCond .le 26, 3) := by decide +kernel
theorem d_MFi_mayCome_7 : decode MFi_mayCome.2.2.1 7 = .ok (.aload_n 0, 1) := by decide +kernel
theorem d_MFi_mayCome_8 : decode MFi_mayCome.2.2.1 8 = .ok (.getfield 18, 3) := by decide +kernel
theorem d_MFi_mayCome_11 : decode MFi_mayCome.2.2.1 11 = .ok (.bipush 40, 2) := by decide +kernel
theorem d_MFi_mayCome_13 : decode MFi_mayCome.2.2.1 13 = .ok (.if_icmp .gt 17, 3) := by decide +kernel
theorem d_MFi_mayCome_16 : decode MFi_mayCome.2.2.1 16 = .ok (.aload_n 0, 1) := by decide +kernel
theorem d_MFi_mayCome_17 : decode MFi_mayCome.2.2.1 17 = .ok (.getfield 11, 3) := by decide +kernel
theorem d_MFi_mayCome_20 : decode MFi_mayCome.2.2.1 20 = .ok (.aload_n 0, 1) := by decide +kernel
theorem d_MFi_mayCome_21 : decode MFi_mayCome.2.2.1 21 = .ok (.getfield 18, 3) := by decide +kernel
theorem d_MFi_mayCome_24 : decode MFi_mayCome.2.2.1 24 = .ok (.iconst 1, 1) := by decide +kernel
theorem d_MFi_mayCome_25 : decode MFi_mayCome.2.2.1 25 = .ok (.isub, 1) := by decide +kernel
theorem d_MFi_mayCome_26 : decode MFi_mayCome.2.2.1 26 = .ok (.iaload, 1) := by decide +kernel
theorem d_MFi_mayCome_27 : decode MFi_mayCome.2.2.1 27 = .ok (.goto 4, 3) := by decide +kernel
theorem d_MFi_mayCome_30 : decode MFi_mayCome.2.2.1 30 = .ok (.iconst (-1), 1) := by decide +kernel
theorem d_MFi_mayCome_31 : decode MFi_mayCome.2.2.1 31 = .ok (.istore_n 3, 1) := by decide +kernel
theorem d_MFi_mayCome_32 : decode MFi_mayCome.2.2.1 32 = .ok (.iload_n 1, 1) := by decide +kernel
theorem d_MFi_mayCome_33 : decode MFi_mayCome.2.2.1 33 = .ok (.iload_n 3, 1) := by decide +kernel
theorem d_MFi_mayCome_34 : decode MFi_mayCome.2.2.1 34 = .ok (.if_icmp .le 31, 3) := by decide +kernel
theorem d_MFi_mayCome_37 : decode MFi_mayCome.2.2.1 37 = .ok (.iload_n 1, 1) := by decide +kernel
theorem d_MFi_mayCome_38 : decode MFi_mayCome.2.2.1 38 = .ok (.iconst 0, 1) := by decide +kernel
theorem d_MFi_mayCome_39 : decode MFi_mayCome.2.2.1 39 = .ok (.sipush 400, 3) := by decide +kernel
theorem d_MFi_mayCome_42 : decode MFi_mayCome.2.2.1 42 = .ok (.invokestatic 22, 3) := by decide +kernel
theorem d_MFi_mayCome_45 : decode MFi_mayCome.2.2.1 45 = .ok (.ifCond .eq 20, 3) := by decide +kernel
theorem d_MFi_mayCome_48 : decode MFi_mayCome.2.2.1 48 = .ok (.iload_n 2, 1) := by decide +kernel
theorem d_MFi_mayCome_49 : decode MFi_mayCome.2.2.1 49 = .ok (.sipush (-9999), 3) := by decide +kernel
theorem d_MFi_mayCome_52 : decode MFi_mayCome.2.2.1 52 = .ok (.sipush 9999, 3) := by decide +kernel
theorem d_MFi_mayCome_55 : decode MFi_mayCome.2.2.1 55 = .ok (.invokestatic 22, 3) := by decide +kernel
theorem d_MFi_mayCome_58 : decode MFi_mayCome.2.2.1 58 = .ok (.ifCond .eq 7, 3) := by decide +kernel
theorem d_MFi_mayCome_61 : decode MFi_mayCome.2.2.1 61 = .ok (.iconst 1, 1) := by decide +kernel
theorem d_MFi_mayCome_62 : decode MFi_mayCome.2.2.1 62 = .ok (.goto 4, 3) := by decide +kernel
theorem d_MFi_mayCome_65 : decode MFi_mayCome.2.2.1 65 = .ok (.iconst 0, 1) := by decide +kernel
theorem d_MFi_mayCome_66 : decode MFi_mayCome.2.2.1 66 = .ok (.ireturn, 1) := by decide +kernel
theorem r_MFi_mayCome_0 {l1 l2 l3 : Value} {x : Nat} : Rr X d MFi_mayCome 0 [.ref x, l1, l2, l3] st h = Rr X d MFi_mayCome 1 [.ref x, l1, l2, l3] (.ref x :: st) h := Rr_nx d_MFi_mayCome_0 rfl
theorem ff_2_18 : fF 2 18 = some (2, 2, 0, 0) := rfl
theorem r_MFi_mayCome_1 {a : Nat} (hq : qI a 2 2 = true) : Rr X d MFi_mayCome 1 L (.ref a :: st) (Wd mu la ro et) = Rr X d MFi_mayCome 4 L (.int (mu a 2) :: st) (Wd mu la ro et) := R_gfI d_MFi_mayCome_1 ff_2_18 hq
theorem r_MFi_mayCome_4 {x : Int32} : Rr X d MFi_mayCome 4 L (.int x :: st) h = if x ≤ 0 then Rr X d MFi_mayCome 30 L st h else Rr X d MFi_mayCome 7 L st h := R_if_le d_MFi_mayCome_4 (by decide)
theorem r_MFi_mayCome_7 {l1 l2 l3 : Value} {x : Nat} : Rr X d MFi_mayCome 7 [.ref x, l1, l2, l3] st h = Rr X d MFi_mayCome 8 [.ref x, l1, l2, l3] (.ref x :: st) h := Rr_nx d_MFi_mayCome_7 rfl
theorem r_MFi_mayCome_8 {a : Nat} (hq : qI a 2 2 = true) : Rr X d MFi_mayCome 8 L (.ref a :: st) (Wd mu la ro et) = Rr X d MFi_mayCome 11 L (.int (mu a 2) :: st) (Wd mu la ro et) := R_gfI d_MFi_mayCome_8 ff_2_18 hq
theorem r_MFi_mayCome_11 : Rr X d MFi_mayCome 11 L st h = Rr X d MFi_mayCome 13 L (.int (40) :: st) h := Rr_nx d_MFi_mayCome_11 rfl
theorem r_MFi_mayCome_13 {x y : Int32} : Rr X d MFi_mayCome 13 L (.int y :: .int x :: st) h = if y < x then Rr X d MFi_mayCome 30 L st h else Rr X d MFi_mayCome 16 L st h := R_ic_gt d_MFi_mayCome_13 (by decide)
theorem r_MFi_mayCome_16 {l1 l2 l3 : Value} {x : Nat} : Rr X d MFi_mayCome 16 [.ref x, l1, l2, l3] st h = Rr X d MFi_mayCome 17 [.ref x, l1, l2, l3] (.ref x :: st) h := Rr_nx d_MFi_mayCome_16 rfl
theorem ff_2_11 : fF 2 11 = some (2, 0, 1, 1) := rfl
theorem r_MFi_mayCome_17 {a : Nat} (hq : (qR a 2 0).isSome = true) : Rr X d MFi_mayCome 17 L (.ref a :: st) (Wd mu la ro et) = Rr X d MFi_mayCome 20 L (.ref (qRd a 2 0) :: st) (Wd mu la ro et) := R_gfR d_MFi_mayCome_17 ff_2_11 hq
theorem r_MFi_mayCome_20 {l1 l2 l3 : Value} {x : Nat} : Rr X d MFi_mayCome 20 [.ref x, l1, l2, l3] st h = Rr X d MFi_mayCome 21 [.ref x, l1, l2, l3] (.ref x :: st) h := Rr_nx d_MFi_mayCome_20 rfl
theorem r_MFi_mayCome_21 {a : Nat} (hq : qI a 2 2 = true) : Rr X d MFi_mayCome 21 L (.ref a :: st) (Wd mu la ro et) = Rr X d MFi_mayCome 24 L (.int (mu a 2) :: st) (Wd mu la ro et) := R_gfI d_MFi_mayCome_21 ff_2_18 hq
theorem r_MFi_mayCome_24 : Rr X d MFi_mayCome 24 L st h = Rr X d MFi_mayCome 25 L (.int (1) :: st) h := Rr_nx d_MFi_mayCome_24 rfl
theorem r_MFi_mayCome_25 {x y : Int32} : Rr X d MFi_mayCome 25 L (.int y :: .int x :: st) h = Rr X d MFi_mayCome 26 L (.int (x - y) :: st) h := Rr_nx d_MFi_mayCome_25 rfl
theorem r_MFi_mayCome_26 {a : Nat} {j : Int32} (hq : (qA a 0).isSome = true) : Rr X d MFi_mayCome 26 L (.int j :: .ref a :: st) (Wd mu la ro et) = if j < 0 ∨ qAd a 0 ≤ j.toNatClampNeg then none else Rr X d MFi_mayCome 27 L (.int (mu a j.toNatClampNeg) :: st) (Wd mu la ro et) := R_ialW d_MFi_mayCome_26 hq
theorem r_MFi_mayCome_27 : Rr X d MFi_mayCome 27 L st h = Rr X d MFi_mayCome 31 L st h := R_goto d_MFi_mayCome_27 (by decide)
theorem r_MFi_mayCome_30 : Rr X d MFi_mayCome 30 L st h = Rr X d MFi_mayCome 31 L (.int (-1) :: st) h := Rr_nx d_MFi_mayCome_30 rfl
theorem r_MFi_mayCome_31 {l0 l1 l2 l3 : Value} {x : Int32} : Rr X d MFi_mayCome 31 [l0, l1, l2, l3] (.int x :: st) h = Rr X d MFi_mayCome 32 (sL [l0, l1, l2, l3] 3 (.int x)) st h := Rr_nx d_MFi_mayCome_31 rfl
theorem r_MFi_mayCome_32 {l0 l2 l3 : Value} {x : Int32} : Rr X d MFi_mayCome 32 [l0, .int x, l2, l3] st h = Rr X d MFi_mayCome 33 [l0, .int x, l2, l3] (.int x :: st) h := Rr_nx d_MFi_mayCome_32 rfl
theorem r_MFi_mayCome_33 {l0 l1 l2 : Value} {x : Int32} : Rr X d MFi_mayCome 33 [l0, l1, l2, .int x] st h = Rr X d MFi_mayCome 34 [l0, l1, l2, .int x] (.int x :: st) h := Rr_nx d_MFi_mayCome_33 rfl
theorem r_MFi_mayCome_34 {x y : Int32} : Rr X d MFi_mayCome 34 L (.int y :: .int x :: st) h = if x ≤ y then Rr X d MFi_mayCome 65 L st h else Rr X d MFi_mayCome 37 L st h := R_ic_le d_MFi_mayCome_34 (by decide)
theorem r_MFi_mayCome_37 {l0 l2 l3 : Value} {x : Int32} : Rr X d MFi_mayCome 37 [l0, .int x, l2, l3] st h = Rr X d MFi_mayCome 38 [l0, .int x, l2, l3] (.int x :: st) h := Rr_nx d_MFi_mayCome_37 rfl
theorem r_MFi_mayCome_38 : Rr X d MFi_mayCome 38 L st h = Rr X d MFi_mayCome 39 L (.int (0) :: st) h := Rr_nx d_MFi_mayCome_38 rfl
theorem r_MFi_mayCome_39 : Rr X d MFi_mayCome 39 L st h = Rr X d MFi_mayCome 42 L (.int (400) :: st) h := Rr_nx d_MFi_mayCome_39 rfl
theorem fc_2_22 : fC 2 22 = some (4, 0, 3, MTo_isWithin) := rfl
theorem r_MFi_mayCome_42 {y0 : Int32} {y1 : Int32} {y2 : Int32} (hc : ckS st = true) : Rr X (d + 1) MFi_mayCome 42 L (.int y2 :: .int y1 :: .int y0 :: st) h = (Rr X d MTo_isWithin 0 [.int y0, .int y1, .int y2] [] h).bind fun q => Rr X (d + 1) MFi_mayCome 45 L (psh q.1 st) q.2 := R_is (av := [.int y2, .int y1, .int y0]) d_MFi_mayCome_42 (Or.inr fc_2_22) (ckS_le hc) rfl (Nat.le_of_ble_eq_true rfl) (Nat.le_of_ble_eq_true rfl)
theorem r_MFi_mayCome_45 {x : Int32} : Rr X d MFi_mayCome 45 L (.int x :: st) h = if x = 0 then Rr X d MFi_mayCome 65 L st h else Rr X d MFi_mayCome 48 L st h := R_if_eq d_MFi_mayCome_45 (by decide)
theorem r_MFi_mayCome_48 {l0 l1 l3 : Value} {x : Int32} : Rr X d MFi_mayCome 48 [l0, l1, .int x, l3] st h = Rr X d MFi_mayCome 49 [l0, l1, .int x, l3] (.int x :: st) h := Rr_nx d_MFi_mayCome_48 rfl
theorem r_MFi_mayCome_49 : Rr X d MFi_mayCome 49 L st h = Rr X d MFi_mayCome 52 L (.int (-9999) :: st) h := Rr_nx d_MFi_mayCome_49 rfl
theorem r_MFi_mayCome_52 : Rr X d MFi_mayCome 52 L st h = Rr X d MFi_mayCome 55 L (.int (9999) :: st) h := Rr_nx d_MFi_mayCome_52 rfl
theorem r_MFi_mayCome_55 {y0 : Int32} {y1 : Int32} {y2 : Int32} (hc : ckS st = true) : Rr X (d + 1) MFi_mayCome 55 L (.int y2 :: .int y1 :: .int y0 :: st) h = (Rr X d MTo_isWithin 0 [.int y0, .int y1, .int y2] [] h).bind fun q => Rr X (d + 1) MFi_mayCome 58 L (psh q.1 st) q.2 := R_is (av := [.int y2, .int y1, .int y0]) d_MFi_mayCome_55 (Or.inr fc_2_22) (ckS_le hc) rfl (Nat.le_of_ble_eq_true rfl) (Nat.le_of_ble_eq_true rfl)
theorem r_MFi_mayCome_58 {x : Int32} : Rr X d MFi_mayCome 58 L (.int x :: st) h = if x = 0 then Rr X d MFi_mayCome 65 L st h else Rr X d MFi_mayCome 61 L st h := R_if_eq d_MFi_mayCome_58 (by decide)
theorem r_MFi_mayCome_61 : Rr X d MFi_mayCome 61 L st h = Rr X d MFi_mayCome 62 L (.int (1) :: st) h := Rr_nx d_MFi_mayCome_61 rfl
theorem r_MFi_mayCome_62 : Rr X d MFi_mayCome 62 L st h = Rr X d MFi_mayCome 66 L st h := R_goto d_MFi_mayCome_62 (by decide)
theorem r_MFi_mayCome_65 : Rr X d MFi_mayCome 65 L st h = Rr X d MFi_mayCome 66 L (.int (0) :: st) h := Rr_nx d_MFi_mayCome_65 rfl
theorem r_MFi_mayCome_66 {x : Int32} : Rr X d MFi_mayCome 66 L [.int x] h = if x = 0 ∨ x = 1 then some (some (.int x), h) else none := R_zr d_MFi_mayCome_66 rfl
theorem d_MFi_append_0 : decode MFi_append.2.2.1 0 = .ok (.aload_n 0, 1) := by decide +kernel
theorem d_MFi_append_1 : decode MFi_append.2.2.1 1 = .ok (.getfield 18, 3) := by decide +kernel
theorem d_MFi_append_4 : decode MFi_append.2.2.1 4 = .ok (.ifCond .lt 12, 3) := by decide +kernel
theorem d_MFi_append_7 : decode MFi_append.2.2.1 7 = .ok (.aload_n 0, 1) := by decide +kernel
theorem d_MFi_append_8 : decode MFi_append.2.2.1 8 = .ok (.getfield 18, 3) := by decide +kernel
theorem d_MFi_append_11 : decode MFi_append.2.2.1 11 = .ok (.bipush 40, 2) := by decide +kernel
theorem d_MFi_append_13 : decode MFi_append.2.2.1 13 = .ok (.if_icmp .lt 5, 3) := by decide +kernel
theorem d_MFi_append_16 : decode MFi_append.2.2.1 16 = .ok (.iconst 0, 1) := by decide +kernel
theorem d_MFi_append_17 : decode MFi_append.2.2.1 17 = .ok (.ireturn, 1) := by decide +kernel
theorem d_MFi_append_18 : decode MFi_append.2.2.1 18 = .ok (.aload_n 0, 1) := by decide +kernel
theorem d_MFi_append_19 : decode MFi_append.2.2.1 19 = .ok (.getfield 11, 3) := by decide +kernel
theorem d_MFi_append_22 : decode MFi_append.2.2.1 22 = .ok (.aload_n 0, 1) := by decide +kernel
theorem d_MFi_append_23 : decode MFi_append.2.2.1 23 = .ok (.getfield 18, 3) := by decide +kernel
theorem d_MFi_append_26 : decode MFi_append.2.2.1 26 = .ok (.iload_n 1, 1) := by decide +kernel
theorem d_MFi_append_27 : decode MFi_append.2.2.1 27 = .ok (.iastore, 1) := by decide +kernel
theorem d_MFi_append_28 : decode MFi_append.2.2.1 28 = .ok (.aload_n 0, 1) := by decide +kernel
theorem d_MFi_append_29 : decode MFi_append.2.2.1 29 = .ok (.getfield 15, 3) := by decide +kernel
theorem d_MFi_append_32 : decode MFi_append.2.2.1 32 = .ok (.aload_n 0, 1) := by decide +kernel
theorem d_MFi_append_33 : decode MFi_append.2.2.1 33 = .ok (.getfield 18, 3) := by decide +kernel
theorem d_MFi_append_36 : decode MFi_append.2.2.1 36 = .ok (.iload_n 2, 1) := by decide +kernel
theorem d_MFi_append_37 : decode MFi_append.2.2.1 37 = .ok (.iastore, 1) := by decide +kernel
theorem d_MFi_append_38 : decode MFi_append.2.2.1 38 = .ok (.aload_n 0, 1) := by decide +kernel
theorem d_MFi_append_39 : decode MFi_append.2.2.1 39 = .ok (.dup, 1) := by decide +kernel
theorem d_MFi_append_40 : decode MFi_append.2.2.1 40 = .ok (.getfield 18, 3) := by decide +kernel
theorem d_MFi_append_43 : decode MFi_append.2.2.1 43 = .ok (.iconst 1, 1) := by decide +kernel
theorem d_MFi_append_44 : decode MFi_append.2.2.1 44 = .ok (.iadd, 1) := by decide +kernel
theorem d_MFi_append_45 : decode MFi_append.2.2.1 45 = .ok (.putfield 18, 3) := by decide +kernel
theorem d_MFi_append_48 : decode MFi_append.2.2.1 48 = .ok (.iconst 1, 1) := by decide +kernel
theorem d_MFi_append_49 : decode MFi_append.2.2.1 49 = .ok (.ireturn, 1) := by decide +kernel
theorem r_MFi_append_0 {l1 l2 : Value} {x : Nat} : Rr X d MFi_append 0 [.ref x, l1, l2] st h = Rr X d MFi_append 1 [.ref x, l1, l2] (.ref x :: st) h := Rr_nx d_MFi_append_0 rfl
theorem r_MFi_append_1 {a : Nat} (hq : qI a 2 2 = true) : Rr X d MFi_append 1 L (.ref a :: st) (Wd mu la ro et) = Rr X d MFi_append 4 L (.int (mu a 2) :: st) (Wd mu la ro et) := R_gfI d_MFi_append_1 ff_2_18 hq
theorem r_MFi_append_4 {x : Int32} : Rr X d MFi_append 4 L (.int x :: st) h = if x < 0 then Rr X d MFi_append 16 L st h else Rr X d MFi_append 7 L st h := R_if_lt d_MFi_append_4 (by decide)
theorem r_MFi_append_7 {l1 l2 : Value} {x : Nat} : Rr X d MFi_append 7 [.ref x, l1, l2] st h = Rr X d MFi_append 8 [.ref x, l1, l2] (.ref x :: st) h := Rr_nx d_MFi_append_7 rfl
theorem r_MFi_append_8 {a : Nat} (hq : qI a 2 2 = true) : Rr X d MFi_append 8 L (.ref a :: st) (Wd mu la ro et) = Rr X d MFi_append 11 L (.int (mu a 2) :: st) (Wd mu la ro et) := R_gfI d_MFi_append_8 ff_2_18 hq
theorem r_MFi_append_11 : Rr X d MFi_append 11 L st h = Rr X d MFi_append 13 L (.int (40) :: st) h := Rr_nx d_MFi_append_11 rfl
theorem r_MFi_append_13 {x y : Int32} : Rr X d MFi_append 13 L (.int y :: .int x :: st) h = if x < y then Rr X d MFi_append 18 L st h else Rr X d MFi_append 16 L st h := R_ic_lt d_MFi_append_13 (by decide)
theorem r_MFi_append_16 : Rr X d MFi_append 16 L st h = Rr X d MFi_append 17 L (.int (0) :: st) h := Rr_nx d_MFi_append_16 rfl
theorem r_MFi_append_17 {x : Int32} : Rr X d MFi_append 17 L [.int x] h = if x = 0 ∨ x = 1 then some (some (.int x), h) else none := R_zr d_MFi_append_17 rfl
theorem r_MFi_append_18 {l1 l2 : Value} {x : Nat} : Rr X d MFi_append 18 [.ref x, l1, l2] st h = Rr X d MFi_append 19 [.ref x, l1, l2] (.ref x :: st) h := Rr_nx d_MFi_append_18 rfl
theorem r_MFi_append_19 {a : Nat} (hq : (qR a 2 0).isSome = true) : Rr X d MFi_append 19 L (.ref a :: st) (Wd mu la ro et) = Rr X d MFi_append 22 L (.ref (qRd a 2 0) :: st) (Wd mu la ro et) := R_gfR d_MFi_append_19 ff_2_11 hq
theorem r_MFi_append_22 {l1 l2 : Value} {x : Nat} : Rr X d MFi_append 22 [.ref x, l1, l2] st h = Rr X d MFi_append 23 [.ref x, l1, l2] (.ref x :: st) h := Rr_nx d_MFi_append_22 rfl
theorem r_MFi_append_23 {a : Nat} (hq : qI a 2 2 = true) : Rr X d MFi_append 23 L (.ref a :: st) (Wd mu la ro et) = Rr X d MFi_append 26 L (.int (mu a 2) :: st) (Wd mu la ro et) := R_gfI d_MFi_append_23 ff_2_18 hq
theorem r_MFi_append_26 {l0 l2 : Value} {x : Int32} : Rr X d MFi_append 26 [l0, .int x, l2] st h = Rr X d MFi_append 27 [l0, .int x, l2] (.int x :: st) h := Rr_nx d_MFi_append_26 rfl
theorem r_MFi_append_27 {a : Nat} {j x : Int32} (hq : (qA a 0).isSome = true) : Rr X d MFi_append 27 L (.int x :: .int j :: .ref a :: st) (Wd mu la ro et) = if j < 0 ∨ qAd a 0 ≤ j.toNatClampNeg then none else Rr X d MFi_append 28 L st (Wd (up2 mu a j.toNatClampNeg (x)) la ro et) := R_iasW d_MFi_append_27 hq
theorem r_MFi_append_28 {l1 l2 : Value} {x : Nat} : Rr X d MFi_append 28 [.ref x, l1, l2] st h = Rr X d MFi_append 29 [.ref x, l1, l2] (.ref x :: st) h := Rr_nx d_MFi_append_28 rfl
theorem ff_2_15 : fF 2 15 = some (2, 1, 1, 1) := rfl
theorem r_MFi_append_29 {a : Nat} (hq : (qR a 2 1).isSome = true) : Rr X d MFi_append 29 L (.ref a :: st) (Wd mu la ro et) = Rr X d MFi_append 32 L (.ref (qRd a 2 1) :: st) (Wd mu la ro et) := R_gfR d_MFi_append_29 ff_2_15 hq
theorem r_MFi_append_32 {l1 l2 : Value} {x : Nat} : Rr X d MFi_append 32 [.ref x, l1, l2] st h = Rr X d MFi_append 33 [.ref x, l1, l2] (.ref x :: st) h := Rr_nx d_MFi_append_32 rfl
theorem r_MFi_append_33 {a : Nat} (hq : qI a 2 2 = true) : Rr X d MFi_append 33 L (.ref a :: st) (Wd mu la ro et) = Rr X d MFi_append 36 L (.int (mu a 2) :: st) (Wd mu la ro et) := R_gfI d_MFi_append_33 ff_2_18 hq
theorem r_MFi_append_36 {l0 l1 : Value} {x : Int32} : Rr X d MFi_append 36 [l0, l1, .int x] st h = Rr X d MFi_append 37 [l0, l1, .int x] (.int x :: st) h := Rr_nx d_MFi_append_36 rfl
theorem r_MFi_append_37 {a : Nat} {j x : Int32} (hq : (qA a 0).isSome = true) : Rr X d MFi_append 37 L (.int x :: .int j :: .ref a :: st) (Wd mu la ro et) = if j < 0 ∨ qAd a 0 ≤ j.toNatClampNeg then none else Rr X d MFi_append 38 L st (Wd (up2 mu a j.toNatClampNeg (x)) la ro et) := R_iasW d_MFi_append_37 hq
theorem r_MFi_append_38 {l1 l2 : Value} {x : Nat} : Rr X d MFi_append 38 [.ref x, l1, l2] st h = Rr X d MFi_append 39 [.ref x, l1, l2] (.ref x :: st) h := Rr_nx d_MFi_append_38 rfl
theorem r_MFi_append_39 {x : Nat} : Rr X d MFi_append 39 L (.ref x :: st) h = Rr X d MFi_append 40 L (.ref x :: .ref x :: st) h := Rr_nx d_MFi_append_39 rfl
theorem r_MFi_append_39i {x : Int32} : Rr X d MFi_append 39 L (.int x :: st) h = Rr X d MFi_append 40 L (.int x :: .int x :: st) h := Rr_nx d_MFi_append_39 rfl
theorem r_MFi_append_40 {a : Nat} (hq : qI a 2 2 = true) : Rr X d MFi_append 40 L (.ref a :: st) (Wd mu la ro et) = Rr X d MFi_append 43 L (.int (mu a 2) :: st) (Wd mu la ro et) := R_gfI d_MFi_append_40 ff_2_18 hq
theorem r_MFi_append_43 : Rr X d MFi_append 43 L st h = Rr X d MFi_append 44 L (.int (1) :: st) h := Rr_nx d_MFi_append_43 rfl
theorem r_MFi_append_44 {x y : Int32} : Rr X d MFi_append 44 L (.int y :: .int x :: st) h = Rr X d MFi_append 45 L (.int (x + y) :: st) h := Rr_nx d_MFi_append_44 rfl
theorem r_MFi_append_45 {a : Nat} {x : Int32} (hq : qI a 2 2 = true) : Rr X d MFi_append 45 L (.int x :: .ref a :: st) (Wd mu la ro et) = Rr X d MFi_append 48 L st (Wd (up2 mu a 2 x) la ro et) := R_pfI d_MFi_append_45 ff_2_18 hq
theorem r_MFi_append_48 : Rr X d MFi_append 48 L st h = Rr X d MFi_append 49 L (.int (1) :: st) h := Rr_nx d_MFi_append_48 rfl
theorem r_MFi_append_49 {x : Int32} : Rr X d MFi_append 49 L [.int x] h = if x = 0 ∨ x = 1 then some (some (.int x), h) else none := R_zr d_MFi_append_49 rfl
theorem d_MBo_append_0 : decode MBo_append.2.2.1 0 = .ok (.aload_n 0, 1) := by decide +kernel
theorem d_MBo_append_1 : decode MBo_append.2.2.1 1 = .ok (.getfield 18, 3) := by decide +kernel
theorem d_MBo_append_4 : decode MBo_append.2.2.1 4 = .ok (.ifCond .lt 12, 3) := by decide +kernel
theorem d_MBo_append_7 : decode MBo_append.2.2.1 7 = .ok (.aload_n 0, 1) := by decide +kernel
theorem d_MBo_append_8 : decode MBo_append.2.2.1 8 = .ok (.getfield 18, 3) := by decide +kernel
theorem d_MBo_append_11 : decode MBo_append.2.2.1 11 = .ok (.bipush 50, 2) := by decide +kernel
theorem d_MBo_append_13 : decode MBo_append.2.2.1 13 = .ok (.if_icmp .lt 5, 3) := by decide +kernel
theorem d_MBo_append_16 : decode MBo_append.2.2.1 16 = .ok (.iconst 0, 1) := by decide +kernel
theorem d_MBo_append_17 : decode MBo_append.2.2.1 17 = .ok (.ireturn, 1) := by decide +kernel
theorem d_MBo_append_18 : decode MBo_append.2.2.1 18 = .ok (.aload_n 0, 1) := by decide +kernel
theorem d_MBo_append_19 : decode MBo_append.2.2.1 19 = .ok (.getfield 11, 3) := by decide +kernel
theorem d_MBo_append_22 : decode MBo_append.2.2.1 22 = .ok (.aload_n 0, 1) := by decide +kernel
theorem d_MBo_append_23 : decode MBo_append.2.2.1 23 = .ok (.getfield 18, 3) := by decide +kernel
theorem d_MBo_append_26 : decode MBo_append.2.2.1 26 = .ok (.iload_n 1, 1) := by decide +kernel
theorem d_MBo_append_27 : decode MBo_append.2.2.1 27 = .ok (.iastore, 1) := by decide +kernel
theorem d_MBo_append_28 : decode MBo_append.2.2.1 28 = .ok (.aload_n 0, 1) := by decide +kernel
theorem d_MBo_append_29 : decode MBo_append.2.2.1 29 = .ok (.dup, 1) := by decide +kernel
theorem d_MBo_append_30 : decode MBo_append.2.2.1 30 = .ok (.getfield 18, 3) := by decide +kernel
theorem d_MBo_append_33 : decode MBo_append.2.2.1 33 = .ok (.iconst 1, 1) := by decide +kernel
theorem d_MBo_append_34 : decode MBo_append.2.2.1 34 = .ok (.iadd, 1) := by decide +kernel
theorem d_MBo_append_35 : decode MBo_append.2.2.1 35 = .ok (.putfield 18, 3) := by decide +kernel
theorem d_MBo_append_38 : decode MBo_append.2.2.1 38 = .ok (.iconst 1, 1) := by decide +kernel
theorem d_MBo_append_39 : decode MBo_append.2.2.1 39 = .ok (.ireturn, 1) := by decide +kernel
theorem r_MBo_append_0 {l1 : Value} {x : Nat} : Rr X d MBo_append 0 [.ref x, l1] st h = Rr X d MBo_append 1 [.ref x, l1] (.ref x :: st) h := Rr_nx d_MBo_append_0 rfl
theorem ff_0_18 : fF 0 18 = some (0, 2, 0, 0) := rfl
theorem r_MBo_append_1 {a : Nat} (hq : qI a 0 2 = true) : Rr X d MBo_append 1 L (.ref a :: st) (Wd mu la ro et) = Rr X d MBo_append 4 L (.int (mu a 2) :: st) (Wd mu la ro et) := R_gfI d_MBo_append_1 ff_0_18 hq
theorem r_MBo_append_4 {x : Int32} : Rr X d MBo_append 4 L (.int x :: st) h = if x < 0 then Rr X d MBo_append 16 L st h else Rr X d MBo_append 7 L st h := R_if_lt d_MBo_append_4 (by decide)
theorem r_MBo_append_7 {l1 : Value} {x : Nat} : Rr X d MBo_append 7 [.ref x, l1] st h = Rr X d MBo_append 8 [.ref x, l1] (.ref x :: st) h := Rr_nx d_MBo_append_7 rfl
theorem r_MBo_append_8 {a : Nat} (hq : qI a 0 2 = true) : Rr X d MBo_append 8 L (.ref a :: st) (Wd mu la ro et) = Rr X d MBo_append 11 L (.int (mu a 2) :: st) (Wd mu la ro et) := R_gfI d_MBo_append_8 ff_0_18 hq
theorem r_MBo_append_11 : Rr X d MBo_append 11 L st h = Rr X d MBo_append 13 L (.int (50) :: st) h := Rr_nx d_MBo_append_11 rfl
theorem r_MBo_append_13 {x y : Int32} : Rr X d MBo_append 13 L (.int y :: .int x :: st) h = if x < y then Rr X d MBo_append 18 L st h else Rr X d MBo_append 16 L st h := R_ic_lt d_MBo_append_13 (by decide)
theorem r_MBo_append_16 : Rr X d MBo_append 16 L st h = Rr X d MBo_append 17 L (.int (0) :: st) h := Rr_nx d_MBo_append_16 rfl
theorem r_MBo_append_17 {x : Int32} : Rr X d MBo_append 17 L [.int x] h = if x = 0 ∨ x = 1 then some (some (.int x), h) else none := R_zr d_MBo_append_17 rfl
theorem r_MBo_append_18 {l1 : Value} {x : Nat} : Rr X d MBo_append 18 [.ref x, l1] st h = Rr X d MBo_append 19 [.ref x, l1] (.ref x :: st) h := Rr_nx d_MBo_append_18 rfl
theorem ff_0_11 : fF 0 11 = some (0, 0, 1, 1) := rfl
theorem r_MBo_append_19 {a : Nat} (hq : (qR a 0 0).isSome = true) : Rr X d MBo_append 19 L (.ref a :: st) (Wd mu la ro et) = Rr X d MBo_append 22 L (.ref (qRd a 0 0) :: st) (Wd mu la ro et) := R_gfR d_MBo_append_19 ff_0_11 hq
theorem r_MBo_append_22 {l1 : Value} {x : Nat} : Rr X d MBo_append 22 [.ref x, l1] st h = Rr X d MBo_append 23 [.ref x, l1] (.ref x :: st) h := Rr_nx d_MBo_append_22 rfl
theorem r_MBo_append_23 {a : Nat} (hq : qI a 0 2 = true) : Rr X d MBo_append 23 L (.ref a :: st) (Wd mu la ro et) = Rr X d MBo_append 26 L (.int (mu a 2) :: st) (Wd mu la ro et) := R_gfI d_MBo_append_23 ff_0_18 hq
theorem r_MBo_append_26 {l0 : Value} {x : Int32} : Rr X d MBo_append 26 [l0, .int x] st h = Rr X d MBo_append 27 [l0, .int x] (.int x :: st) h := Rr_nx d_MBo_append_26 rfl
theorem r_MBo_append_27 {a : Nat} {j x : Int32} (hq : (qA a 0).isSome = true) : Rr X d MBo_append 27 L (.int x :: .int j :: .ref a :: st) (Wd mu la ro et) = if j < 0 ∨ qAd a 0 ≤ j.toNatClampNeg then none else Rr X d MBo_append 28 L st (Wd (up2 mu a j.toNatClampNeg (x)) la ro et) := R_iasW d_MBo_append_27 hq
theorem r_MBo_append_28 {l1 : Value} {x : Nat} : Rr X d MBo_append 28 [.ref x, l1] st h = Rr X d MBo_append 29 [.ref x, l1] (.ref x :: st) h := Rr_nx d_MBo_append_28 rfl
theorem r_MBo_append_29 {x : Nat} : Rr X d MBo_append 29 L (.ref x :: st) h = Rr X d MBo_append 30 L (.ref x :: .ref x :: st) h := Rr_nx d_MBo_append_29 rfl
theorem r_MBo_append_29i {x : Int32} : Rr X d MBo_append 29 L (.int x :: st) h = Rr X d MBo_append 30 L (.int x :: .int x :: st) h := Rr_nx d_MBo_append_29 rfl
theorem r_MBo_append_30 {a : Nat} (hq : qI a 0 2 = true) : Rr X d MBo_append 30 L (.ref a :: st) (Wd mu la ro et) = Rr X d MBo_append 33 L (.int (mu a 2) :: st) (Wd mu la ro et) := R_gfI d_MBo_append_30 ff_0_18 hq
theorem r_MBo_append_33 : Rr X d MBo_append 33 L st h = Rr X d MBo_append 34 L (.int (1) :: st) h := Rr_nx d_MBo_append_33 rfl
theorem r_MBo_append_34 {x y : Int32} : Rr X d MBo_append 34 L (.int y :: .int x :: st) h = Rr X d MBo_append 35 L (.int (x + y) :: st) h := Rr_nx d_MBo_append_34 rfl
theorem r_MBo_append_35 {a : Nat} {x : Int32} (hq : qI a 0 2 = true) : Rr X d MBo_append 35 L (.int x :: .ref a :: st) (Wd mu la ro et) = Rr X d MBo_append 38 L st (Wd (up2 mu a 2 x) la ro et) := R_pfI d_MBo_append_35 ff_0_18 hq
theorem r_MBo_append_38 : Rr X d MBo_append 38 L st h = Rr X d MBo_append 39 L (.int (1) :: st) h := Rr_nx d_MBo_append_38 rfl
theorem r_MBo_append_39 {x : Int32} : Rr X d MBo_append 39 L [.int x] h = if x = 0 ∨ x = 1 then some (some (.int x), h) else none := R_zr d_MBo_append_39 rfl
theorem d_MBo_kindOf_0 : decode MBo_kindOf.2.2.1 0 = .ok (.iload_n 1, 1) := by decide +kernel
theorem d_MBo_kindOf_1 : decode MBo_kindOf.2.2.1 1 = .ok (.ifCond .lt 26, 3) := by decide +kernel
theorem d_MBo_kindOf_4 : decode MBo_kindOf.2.2.1 4 = .ok (.iload_n 1, 1) := by decide +kernel
theorem d_MBo_kindOf_5 : decode MBo_kindOf.2.2.1 5 = .ok (.aload_n 0, 1) := by decide +kernel
theorem d_MBo_kindOf_6 : decode MBo_kindOf.2.2.1 6 = .ok (.getfield 18, 3) := by decide +kernel
theorem d_MBo_kindOf_9 : decode MBo_kindOf.2.2.1 9 = .ok (.if_icmp .ge 18, 3) := by decide +kernel
theorem d_MBo_kindOf_12 : decode MBo_kindOf.2.2.1 12 = .ok (.iload_n 1, 1) := by decide +kernel
theorem d_MBo_kindOf_13 : decode MBo_kindOf.2.2.1 13 = .ok (.bipush 50, 2) := by decide +kernel
theorem d_MBo_kindOf_15 : decode MBo_kindOf.2.2.1 15 = .ok (.if_icmp .ge 12, 3) := by decide +kernel
theorem d_MBo_kindOf_18 : decode MBo_kindOf.2.2.1 18 = .ok (.aload_n 0, 1) := by decide +kernel
theorem d_MBo_kindOf_19 : decode MBo_kindOf.2.2.1 19 = .ok (.getfield 11, 3) := by decide +kernel
theorem d_MBo_kindOf_22 : decode MBo_kindOf.2.2.1 22 = .ok (.iload_n 1, 1) := by decide +kernel
theorem d_MBo_kindOf_23 : decode MBo_kindOf.2.2.1 23 = .ok (.iaload, 1) := by decide +kernel
theorem d_MBo_kindOf_24 : decode MBo_kindOf.2.2.1 24 = .ok (.goto 4, 3) := by decide +kernel
theorem d_MBo_kindOf_27 : decode MBo_kindOf.2.2.1 27 = .ok (.iconst (-1), 1) := by decide +kernel
theorem d_MBo_kindOf_28 : decode MBo_kindOf.2.2.1 28 = .ok (.ireturn, 1) := by decide +kernel
theorem r_MBo_kindOf_0 {l0 : Value} {x : Int32} : Rr X d MBo_kindOf 0 [l0, .int x] st h = Rr X d MBo_kindOf 1 [l0, .int x] (.int x :: st) h := Rr_nx d_MBo_kindOf_0 rfl
theorem r_MBo_kindOf_1 {x : Int32} : Rr X d MBo_kindOf 1 L (.int x :: st) h = if x < 0 then Rr X d MBo_kindOf 27 L st h else Rr X d MBo_kindOf 4 L st h := R_if_lt d_MBo_kindOf_1 (by decide)
theorem r_MBo_kindOf_4 {l0 : Value} {x : Int32} : Rr X d MBo_kindOf 4 [l0, .int x] st h = Rr X d MBo_kindOf 5 [l0, .int x] (.int x :: st) h := Rr_nx d_MBo_kindOf_4 rfl
theorem r_MBo_kindOf_5 {l1 : Value} {x : Nat} : Rr X d MBo_kindOf 5 [.ref x, l1] st h = Rr X d MBo_kindOf 6 [.ref x, l1] (.ref x :: st) h := Rr_nx d_MBo_kindOf_5 rfl
theorem r_MBo_kindOf_6 {a : Nat} (hq : qI a 0 2 = true) : Rr X d MBo_kindOf 6 L (.ref a :: st) (Wd mu la ro et) = Rr X d MBo_kindOf 9 L (.int (mu a 2) :: st) (Wd mu la ro et) := R_gfI d_MBo_kindOf_6 ff_0_18 hq
theorem r_MBo_kindOf_9 {x y : Int32} : Rr X d MBo_kindOf 9 L (.int y :: .int x :: st) h = if y ≤ x then Rr X d MBo_kindOf 27 L st h else Rr X d MBo_kindOf 12 L st h := R_ic_ge d_MBo_kindOf_9 (by decide)
theorem r_MBo_kindOf_12 {l0 : Value} {x : Int32} : Rr X d MBo_kindOf 12 [l0, .int x] st h = Rr X d MBo_kindOf 13 [l0, .int x] (.int x :: st) h := Rr_nx d_MBo_kindOf_12 rfl
theorem r_MBo_kindOf_13 : Rr X d MBo_kindOf 13 L st h = Rr X d MBo_kindOf 15 L (.int (50) :: st) h := Rr_nx d_MBo_kindOf_13 rfl
theorem r_MBo_kindOf_15 {x y : Int32} : Rr X d MBo_kindOf 15 L (.int y :: .int x :: st) h = if y ≤ x then Rr X d MBo_kindOf 27 L st h else Rr X d MBo_kindOf 18 L st h := R_ic_ge d_MBo_kindOf_15 (by decide)
theorem r_MBo_kindOf_18 {l1 : Value} {x : Nat} : Rr X d MBo_kindOf 18 [.ref x, l1] st h = Rr X d MBo_kindOf 19 [.ref x, l1] (.ref x :: st) h := Rr_nx d_MBo_kindOf_18 rfl
theorem r_MBo_kindOf_19 {a : Nat} (hq : (qR a 0 0).isSome = true) : Rr X d MBo_kindOf 19 L (.ref a :: st) (Wd mu la ro et) = Rr X d MBo_kindOf 22 L (.ref (qRd a 0 0) :: st) (Wd mu la ro et) := R_gfR d_MBo_kindOf_19 ff_0_11 hq
theorem r_MBo_kindOf_22 {l0 : Value} {x : Int32} : Rr X d MBo_kindOf 22 [l0, .int x] st h = Rr X d MBo_kindOf 23 [l0, .int x] (.int x :: st) h := Rr_nx d_MBo_kindOf_22 rfl
theorem r_MBo_kindOf_23 {a : Nat} {j : Int32} (hq : (qA a 0).isSome = true) : Rr X d MBo_kindOf 23 L (.int j :: .ref a :: st) (Wd mu la ro et) = if j < 0 ∨ qAd a 0 ≤ j.toNatClampNeg then none else Rr X d MBo_kindOf 24 L (.int (mu a j.toNatClampNeg) :: st) (Wd mu la ro et) := R_ialW d_MBo_kindOf_23 hq
theorem r_MBo_kindOf_24 : Rr X d MBo_kindOf 24 L st h = Rr X d MBo_kindOf 28 L st h := R_goto d_MBo_kindOf_24 (by decide)
theorem r_MBo_kindOf_27 : Rr X d MBo_kindOf 27 L st h = Rr X d MBo_kindOf 28 L (.int (-1) :: st) h := Rr_nx d_MBo_kindOf_27 rfl
theorem r_MBo_kindOf_28 {x : Int32} : Rr X d MBo_kindOf 28 L [.int x] h = some (some (.int x), h) := R_ir d_MBo_kindOf_28 rfl
theorem d_MBo_perform_0 : decode MBo_perform.2.2.1 0 = .ok (.aload_n 0, 1) := by decide +kernel
theorem d_MBo_perform_1 : decode MBo_perform.2.2.1 1 = .ok (.iconst 0, 1) := by decide +kernel
theorem d_MBo_perform_2 : decode MBo_perform.2.2.1 2 = .ok (.putfield 32, 3) := by decide +kernel
theorem d_MBo_perform_5 : decode MBo_perform.2.2.1 5 = .ok (.aload_n 0, 1) := by decide +kernel
theorem d_MBo_perform_6 : decode MBo_perform.2.2.1 6 = .ok (.aload_n 0, 1) := by decide +kernel
theorem d_MBo_perform_7 : decode MBo_perform.2.2.1 7 = .ok (.iload_n 1, 1) := by decide +kernel
theorem d_MBo_perform_8 : decode MBo_perform.2.2.1 8 = .ok (.invokevirtual 35, 3) := by decide +kernel
theorem d_MBo_perform_11 : decode MBo_perform.2.2.1 11 = .ok (.putfield 38, 3) := by decide +kernel
theorem d_MBo_perform_14 : decode MBo_perform.2.2.1 14 = .ok (.aload_n 0, 1) := by decide +kernel
theorem d_MBo_perform_15 : decode MBo_perform.2.2.1 15 = .ok (.iload_n 1, 1) := by decide +kernel
theorem d_MBo_perform_16 : decode MBo_perform.2.2.1 16 = .ok (.putfield 41, 3) := by decide +kernel
theorem d_MBo_perform_19 : decode MBo_perform.2.2.1 19 = .ok (.aload_n 0, 1) := by decide +kernel
theorem d_MBo_perform_20 : decode MBo_perform.2.2.1 20 = .ok (.getfield 38, 3) := by decide +kernel
theorem d_MBo_perform_23 : decode MBo_perform.2.2.1 23 = .ok (.iconst (-1), 1) := by decide +kernel
theorem d_MBo_perform_24 : decode MBo_perform.2.2.1 24 = .ok (.if_icmp .eq 12, 3) := by decide +kernel
theorem d_MBo_perform_27 : decode MBo_perform.2.2.1 27 = .ok (.iload_n 2, 1) := by decide +kernel
theorem d_MBo_perform_28 : decode MBo_perform.2.2.1 28 = .ok (.ifCond .lt 8, 3) := by decide +kernel
theorem d_MBo_perform_31 : decode MBo_perform.2.2.1 31 = .ok (.iload_n 2, 1) := by decide +kernel
theorem d_MBo_perform_32 : decode MBo_perform.2.2.1 32 = .ok (.iconst 4, 1) := by decide +kernel
theorem d_MBo_perform_33 : decode MBo_perform.2.2.1 33 = .ok (.if_icmp .lt 7, 3) := by decide +kernel
theorem d_MBo_perform_36 : decode MBo_perform.2.2.1 36 = .ok (.iconst 0, 1) := by decide +kernel
theorem d_MBo_perform_37 : decode MBo_perform.2.2.1 37 = .ok (.goto 14, 3) := by decide +kernel
theorem d_MBo_perform_40 : decode MBo_perform.2.2.1 40 = .ok (.aload_n 0, 1) := by decide +kernel
theorem d_MBo_perform_41 : decode MBo_perform.2.2.1 41 = .ok (.aload_n 0, 1) := by decide +kernel
theorem d_MBo_perform_42 : decode MBo_perform.2.2.1 42 = .ok (.getfield 38, 3) := by decide +kernel
theorem d_MBo_perform_45 : decode MBo_perform.2.2.1 45 = .ok (.iload_n 2, 1) := by decide +kernel
theorem d_MBo_perform_46 : decode MBo_perform.2.2.1 46 = .ok (.iload_n 3, 1) := by decide +kernel
theorem d_MBo_perform_47 : decode MBo_perform.2.2.1 47 = .ok (.iconst 0, 1) := by decide +kernel
theorem d_MBo_perform_48 : decode MBo_perform.2.2.1 48 = .ok (.invokevirtual 44, 3) := by decide +kernel
theorem d_MBo_perform_51 : decode MBo_perform.2.2.1 51 = .ok (.ireturn, 1) := by decide +kernel
theorem r_MBo_perform_0 {l1 l2 l3 : Value} {x : Nat} : Rr X d MBo_perform 0 [.ref x, l1, l2, l3] st h = Rr X d MBo_perform 1 [.ref x, l1, l2, l3] (.ref x :: st) h := Rr_nx d_MBo_perform_0 rfl
theorem r_MBo_perform_1 : Rr X d MBo_perform 1 L st h = Rr X d MBo_perform 2 L (.int (0) :: st) h := Rr_nx d_MBo_perform_1 rfl
theorem ff_0_32 : fF 0 32 = some (0, 3, 0, 0) := rfl
theorem r_MBo_perform_2 {a : Nat} {x : Int32} (hq : qI a 0 3 = true) : Rr X d MBo_perform 2 L (.int x :: .ref a :: st) (Wd mu la ro et) = Rr X d MBo_perform 5 L st (Wd (up2 mu a 3 x) la ro et) := R_pfI d_MBo_perform_2 ff_0_32 hq
theorem r_MBo_perform_5 {l1 l2 l3 : Value} {x : Nat} : Rr X d MBo_perform 5 [.ref x, l1, l2, l3] st h = Rr X d MBo_perform 6 [.ref x, l1, l2, l3] (.ref x :: st) h := Rr_nx d_MBo_perform_5 rfl
theorem r_MBo_perform_6 {l1 l2 l3 : Value} {x : Nat} : Rr X d MBo_perform 6 [.ref x, l1, l2, l3] st h = Rr X d MBo_perform 7 [.ref x, l1, l2, l3] (.ref x :: st) h := Rr_nx d_MBo_perform_6 rfl
theorem r_MBo_perform_7 {l0 l2 l3 : Value} {x : Int32} : Rr X d MBo_perform 7 [l0, .int x, l2, l3] st h = Rr X d MBo_perform 8 [l0, .int x, l2, l3] (.int x :: st) h := Rr_nx d_MBo_perform_7 rfl
theorem fc_0_35 : fC 0 35 = some (0, 0, 1, MBo_kindOf) := rfl
theorem r_MBo_perform_8 {y0 : Int32} {a : Nat} (hO : qO a 0 = true) (hc : ckS st = true) : Rr X (d + 1) MBo_perform 8 L (.int y0 :: .ref a :: st) (Wd mu la ro et) = (Rr X d MBo_kindOf 0 [.ref a, .int y0] [] (Wd mu la ro et)).bind fun q => Rr X (d + 1) MBo_perform 11 L (psh q.1 st) q.2 := R_iv (av := [.int y0]) d_MBo_perform_8 fc_0_35 hO (ckS_le hc) rfl (Nat.le_of_ble_eq_true rfl) (Nat.le_of_ble_eq_true rfl)
theorem ff_0_38 : fF 0 38 = some (0, 5, 0, 0) := rfl
theorem r_MBo_perform_11 {a : Nat} {x : Int32} (hq : qI a 0 5 = true) : Rr X d MBo_perform 11 L (.int x :: .ref a :: st) (Wd mu la ro et) = Rr X d MBo_perform 14 L st (Wd (up2 mu a 5 x) la ro et) := R_pfI d_MBo_perform_11 ff_0_38 hq
theorem r_MBo_perform_14 {l1 l2 l3 : Value} {x : Nat} : Rr X d MBo_perform 14 [.ref x, l1, l2, l3] st h = Rr X d MBo_perform 15 [.ref x, l1, l2, l3] (.ref x :: st) h := Rr_nx d_MBo_perform_14 rfl
theorem r_MBo_perform_15 {l0 l2 l3 : Value} {x : Int32} : Rr X d MBo_perform 15 [l0, .int x, l2, l3] st h = Rr X d MBo_perform 16 [l0, .int x, l2, l3] (.int x :: st) h := Rr_nx d_MBo_perform_15 rfl
theorem ff_0_41 : fF 0 41 = some (0, 4, 0, 0) := rfl
theorem r_MBo_perform_16 {a : Nat} {x : Int32} (hq : qI a 0 4 = true) : Rr X d MBo_perform 16 L (.int x :: .ref a :: st) (Wd mu la ro et) = Rr X d MBo_perform 19 L st (Wd (up2 mu a 4 x) la ro et) := R_pfI d_MBo_perform_16 ff_0_41 hq
theorem r_MBo_perform_19 {l1 l2 l3 : Value} {x : Nat} : Rr X d MBo_perform 19 [.ref x, l1, l2, l3] st h = Rr X d MBo_perform 20 [.ref x, l1, l2, l3] (.ref x :: st) h := Rr_nx d_MBo_perform_19 rfl
theorem r_MBo_perform_20 {a : Nat} (hq : qI a 0 5 = true) : Rr X d MBo_perform 20 L (.ref a :: st) (Wd mu la ro et) = Rr X d MBo_perform 23 L (.int (mu a 5) :: st) (Wd mu la ro et) := R_gfI d_MBo_perform_20 ff_0_38 hq
theorem r_MBo_perform_23 : Rr X d MBo_perform 23 L st h = Rr X d MBo_perform 24 L (.int (-1) :: st) h := Rr_nx d_MBo_perform_23 rfl
theorem r_MBo_perform_24 {x y : Int32} : Rr X d MBo_perform 24 L (.int y :: .int x :: st) h = if x = y then Rr X d MBo_perform 36 L st h else Rr X d MBo_perform 27 L st h := R_ic_eq d_MBo_perform_24 (by decide)
theorem r_MBo_perform_27 {l0 l1 l3 : Value} {x : Int32} : Rr X d MBo_perform 27 [l0, l1, .int x, l3] st h = Rr X d MBo_perform 28 [l0, l1, .int x, l3] (.int x :: st) h := Rr_nx d_MBo_perform_27 rfl
theorem r_MBo_perform_28 {x : Int32} : Rr X d MBo_perform 28 L (.int x :: st) h = if x < 0 then Rr X d MBo_perform 36 L st h else Rr X d MBo_perform 31 L st h := R_if_lt d_MBo_perform_28 (by decide)
theorem r_MBo_perform_31 {l0 l1 l3 : Value} {x : Int32} : Rr X d MBo_perform 31 [l0, l1, .int x, l3] st h = Rr X d MBo_perform 32 [l0, l1, .int x, l3] (.int x :: st) h := Rr_nx d_MBo_perform_31 rfl
theorem r_MBo_perform_32 : Rr X d MBo_perform 32 L st h = Rr X d MBo_perform 33 L (.int (4) :: st) h := Rr_nx d_MBo_perform_32 rfl
theorem r_MBo_perform_33 {x y : Int32} : Rr X d MBo_perform 33 L (.int y :: .int x :: st) h = if x < y then Rr X d MBo_perform 40 L st h else Rr X d MBo_perform 36 L st h := R_ic_lt d_MBo_perform_33 (by decide)
theorem r_MBo_perform_36 : Rr X d MBo_perform 36 L st h = Rr X d MBo_perform 37 L (.int (0) :: st) h := Rr_nx d_MBo_perform_36 rfl
theorem r_MBo_perform_37 : Rr X d MBo_perform 37 L st h = Rr X d MBo_perform 51 L st h := R_goto d_MBo_perform_37 (by decide)
theorem r_MBo_perform_40 {l1 l2 l3 : Value} {x : Nat} : Rr X d MBo_perform 40 [.ref x, l1, l2, l3] st h = Rr X d MBo_perform 41 [.ref x, l1, l2, l3] (.ref x :: st) h := Rr_nx d_MBo_perform_40 rfl
theorem r_MBo_perform_41 {l1 l2 l3 : Value} {x : Nat} : Rr X d MBo_perform 41 [.ref x, l1, l2, l3] st h = Rr X d MBo_perform 42 [.ref x, l1, l2, l3] (.ref x :: st) h := Rr_nx d_MBo_perform_41 rfl
theorem r_MBo_perform_42 {a : Nat} (hq : qI a 0 5 = true) : Rr X d MBo_perform 42 L (.ref a :: st) (Wd mu la ro et) = Rr X d MBo_perform 45 L (.int (mu a 5) :: st) (Wd mu la ro et) := R_gfI d_MBo_perform_42 ff_0_38 hq
theorem r_MBo_perform_45 {l0 l1 l3 : Value} {x : Int32} : Rr X d MBo_perform 45 [l0, l1, .int x, l3] st h = Rr X d MBo_perform 46 [l0, l1, .int x, l3] (.int x :: st) h := Rr_nx d_MBo_perform_45 rfl
theorem r_MBo_perform_46 {l0 l1 l2 : Value} {x : Int32} : Rr X d MBo_perform 46 [l0, l1, l2, .int x] st h = Rr X d MBo_perform 47 [l0, l1, l2, .int x] (.int x :: st) h := Rr_nx d_MBo_perform_46 rfl
theorem r_MBo_perform_47 : Rr X d MBo_perform 47 L st h = Rr X d MBo_perform 48 L (.int (0) :: st) h := Rr_nx d_MBo_perform_47 rfl
theorem fc_0_44 : fC 0 44 = some (0, 0, 4, MBo_ask) := rfl
theorem r_MBo_perform_48 {y0 : Int32} {y1 : Int32} {y2 : Int32} {y3 : Int32} {a : Nat} (hO : qO a 0 = true) (hc : ckS st = true) : Rr X (d + 1) MBo_perform 48 L (.int y3 :: .int y2 :: .int y1 :: .int y0 :: .ref a :: st) (Wd mu la ro et) = (Rr X d MBo_ask 0 [.ref a, .int y0, .int y1, .int y2, .int y3, mkU, mkU] [] (Wd mu la ro et)).bind fun q => Rr X (d + 1) MBo_perform 51 L (psh q.1 st) q.2 := R_iv (av := [.int y3, .int y2, .int y1, .int y0]) d_MBo_perform_48 fc_0_44 hO (ckS_le hc) rfl (Nat.le_of_ble_eq_true rfl) (Nat.le_of_ble_eq_true rfl)
theorem r_MBo_perform_51 {x : Int32} : Rr X d MBo_perform 51 L [.int x] h = some (some (.int x), h) := R_ir d_MBo_perform_51 rfl
theorem d_MBo_traced_0 : decode MBo_traced.2.2.1 0 = .ok (.iload_n 1, 1) := by decide +kernel
theorem d_MBo_traced_1 : decode MBo_traced.2.2.1 1 = .ok (.ifCond .lt 26, 3) := by decide +kernel
theorem d_MBo_traced_4 : decode MBo_traced.2.2.1 4 = .ok (.iload_n 1, 1) := by decide +kernel
theorem d_MBo_traced_5 : decode MBo_traced.2.2.1 5 = .ok (.aload_n 0, 1) := by decide +kernel
theorem d_MBo_traced_6 : decode MBo_traced.2.2.1 6 = .ok (.getfield 32, 3) := by decide +kernel
theorem d_MBo_traced_9 : decode MBo_traced.2.2.1 9 = .ok (.if_icmp .ge 18, 3) := by decide +kernel
theorem d_MBo_traced_12 : decode MBo_traced.2.2.1 12 = .ok (.iload_n 1, 1) := by decide +kernel
theorem d_MBo_traced_13 : decode MBo_traced.2.2.1 13 = .ok (.bipush 24, 2) := by decide +kernel
theorem d_MBo_traced_15 : decode MBo_traced.2.2.1 15 = .ok (.if_icmp .ge 12, 3) := by decide +kernel
theorem d_MBo_traced_18 : decode MBo_traced.2.2.1 18 = .ok (.aload_n 0, 1) := by decide +kernel
theorem d_MBo_traced_19 : decode MBo_traced.2.2.1 19 = .ok (.getfield 15, 3) := by decide +kernel
theorem d_MBo_traced_22 : decode MBo_traced.2.2.1 22 = .ok (.iload_n 1, 1) := by decide +kernel
theorem d_MBo_traced_23 : decode MBo_traced.2.2.1 23 = .ok (.iaload, 1) := by decide +kernel
theorem d_MBo_traced_24 : decode MBo_traced.2.2.1 24 = .ok (.goto 4, 3) := by decide +kernel
theorem d_MBo_traced_27 : decode MBo_traced.2.2.1 27 = .ok (.iconst (-1), 1) := by decide +kernel
theorem d_MBo_traced_28 : decode MBo_traced.2.2.1 28 = .ok (.ireturn, 1) := by decide +kernel
theorem r_MBo_traced_0 {l0 : Value} {x : Int32} : Rr X d MBo_traced 0 [l0, .int x] st h = Rr X d MBo_traced 1 [l0, .int x] (.int x :: st) h := Rr_nx d_MBo_traced_0 rfl
theorem r_MBo_traced_1 {x : Int32} : Rr X d MBo_traced 1 L (.int x :: st) h = if x < 0 then Rr X d MBo_traced 27 L st h else Rr X d MBo_traced 4 L st h := R_if_lt d_MBo_traced_1 (by decide)
theorem r_MBo_traced_4 {l0 : Value} {x : Int32} : Rr X d MBo_traced 4 [l0, .int x] st h = Rr X d MBo_traced 5 [l0, .int x] (.int x :: st) h := Rr_nx d_MBo_traced_4 rfl
theorem r_MBo_traced_5 {l1 : Value} {x : Nat} : Rr X d MBo_traced 5 [.ref x, l1] st h = Rr X d MBo_traced 6 [.ref x, l1] (.ref x :: st) h := Rr_nx d_MBo_traced_5 rfl
theorem r_MBo_traced_6 {a : Nat} (hq : qI a 0 3 = true) : Rr X d MBo_traced 6 L (.ref a :: st) (Wd mu la ro et) = Rr X d MBo_traced 9 L (.int (mu a 3) :: st) (Wd mu la ro et) := R_gfI d_MBo_traced_6 ff_0_32 hq
theorem r_MBo_traced_9 {x y : Int32} : Rr X d MBo_traced 9 L (.int y :: .int x :: st) h = if y ≤ x then Rr X d MBo_traced 27 L st h else Rr X d MBo_traced 12 L st h := R_ic_ge d_MBo_traced_9 (by decide)
theorem r_MBo_traced_12 {l0 : Value} {x : Int32} : Rr X d MBo_traced 12 [l0, .int x] st h = Rr X d MBo_traced 13 [l0, .int x] (.int x :: st) h := Rr_nx d_MBo_traced_12 rfl
theorem r_MBo_traced_13 : Rr X d MBo_traced 13 L st h = Rr X d MBo_traced 15 L (.int (24) :: st) h := Rr_nx d_MBo_traced_13 rfl
theorem r_MBo_traced_15 {x y : Int32} : Rr X d MBo_traced 15 L (.int y :: .int x :: st) h = if y ≤ x then Rr X d MBo_traced 27 L st h else Rr X d MBo_traced 18 L st h := R_ic_ge d_MBo_traced_15 (by decide)
theorem r_MBo_traced_18 {l1 : Value} {x : Nat} : Rr X d MBo_traced 18 [.ref x, l1] st h = Rr X d MBo_traced 19 [.ref x, l1] (.ref x :: st) h := Rr_nx d_MBo_traced_18 rfl
theorem ff_0_15 : fF 0 15 = some (0, 1, 1, 1) := rfl
theorem r_MBo_traced_19 {a : Nat} (hq : (qR a 0 1).isSome = true) : Rr X d MBo_traced 19 L (.ref a :: st) (Wd mu la ro et) = Rr X d MBo_traced 22 L (.ref (qRd a 0 1) :: st) (Wd mu la ro et) := R_gfR d_MBo_traced_19 ff_0_15 hq
theorem r_MBo_traced_22 {l0 : Value} {x : Int32} : Rr X d MBo_traced 22 [l0, .int x] st h = Rr X d MBo_traced 23 [l0, .int x] (.int x :: st) h := Rr_nx d_MBo_traced_22 rfl
theorem r_MBo_traced_23 {a : Nat} {j : Int32} (hq : (qA a 0).isSome = true) : Rr X d MBo_traced 23 L (.int j :: .ref a :: st) (Wd mu la ro et) = if j < 0 ∨ qAd a 0 ≤ j.toNatClampNeg then none else Rr X d MBo_traced 24 L (.int (mu a j.toNatClampNeg) :: st) (Wd mu la ro et) := R_ialW d_MBo_traced_23 hq
theorem r_MBo_traced_24 : Rr X d MBo_traced 24 L st h = Rr X d MBo_traced 28 L st h := R_goto d_MBo_traced_24 (by decide)
theorem r_MBo_traced_27 : Rr X d MBo_traced 27 L st h = Rr X d MBo_traced 28 L (.int (-1) :: st) h := Rr_nx d_MBo_traced_27 rfl
theorem r_MBo_traced_28 {x : Int32} : Rr X d MBo_traced 28 L [.int x] h = some (some (.int x), h) := R_ir d_MBo_traced_28 rfl
theorem d_MSh_hold_0 : decode MSh_hold.2.2.1 0 = .ok (.aload_n 0, 1) := by decide +kernel
theorem d_MSh_hold_1 : decode MSh_hold.2.2.1 1 = .ok (.iload_n 1, 1) := by decide +kernel
theorem d_MSh_hold_2 : decode MSh_hold.2.2.1 2 = .ok (.putfield 15, 3) := by decide +kernel
theorem d_MSh_hold_5 : decode MSh_hold.2.2.1 5 = .ok (.aload_n 0, 1) := by decide +kernel
theorem d_MSh_hold_6 : decode MSh_hold.2.2.1 6 = .ok (.iconst (-1), 1) := by decide +kernel
theorem d_MSh_hold_7 : decode MSh_hold.2.2.1 7 = .ok (.putfield 19, 3) := by decide +kernel
theorem d_MSh_hold_10 : decode MSh_hold.2.2.1 10 = .ok (.aload_n 0, 1) := by decide +kernel
theorem d_MSh_hold_11 : decode MSh_hold.2.2.1 11 = .ok (.iconst 0, 1) := by decide +kernel
theorem d_MSh_hold_12 : decode MSh_hold.2.2.1 12 = .ok (.putfield 22, 3) := by decide +kernel
theorem d_MSh_hold_15 : decode MSh_hold.2.2.1 15 = .ok (.return_, 1) := by decide +kernel
theorem r_MSh_hold_0 {l1 : Value} {x : Nat} : Rr X d MSh_hold 0 [.ref x, l1] st h = Rr X d MSh_hold 1 [.ref x, l1] (.ref x :: st) h := Rr_nx d_MSh_hold_0 rfl
theorem r_MSh_hold_1 {l0 : Value} {x : Int32} : Rr X d MSh_hold 1 [l0, .int x] st h = Rr X d MSh_hold 2 [l0, .int x] (.int x :: st) h := Rr_nx d_MSh_hold_1 rfl
theorem ff_6_15 : fF 6 15 = some (6, 1, 0, 0) := rfl
theorem r_MSh_hold_2 {a : Nat} {x : Int32} (hq : qI a 6 1 = true) : Rr X d MSh_hold 2 L (.int x :: .ref a :: st) (Wd mu la ro et) = Rr X d MSh_hold 5 L st (Wd (up2 mu a 1 x) la ro et) := R_pfI d_MSh_hold_2 ff_6_15 hq
theorem r_MSh_hold_5 {l1 : Value} {x : Nat} : Rr X d MSh_hold 5 [.ref x, l1] st h = Rr X d MSh_hold 6 [.ref x, l1] (.ref x :: st) h := Rr_nx d_MSh_hold_5 rfl
theorem r_MSh_hold_6 : Rr X d MSh_hold 6 L st h = Rr X d MSh_hold 7 L (.int (-1) :: st) h := Rr_nx d_MSh_hold_6 rfl
theorem ff_6_19 : fF 6 19 = some (6, 2, 0, 0) := rfl
theorem r_MSh_hold_7 {a : Nat} {x : Int32} (hq : qI a 6 2 = true) : Rr X d MSh_hold 7 L (.int x :: .ref a :: st) (Wd mu la ro et) = Rr X d MSh_hold 10 L st (Wd (up2 mu a 2 x) la ro et) := R_pfI d_MSh_hold_7 ff_6_19 hq
theorem r_MSh_hold_10 {l1 : Value} {x : Nat} : Rr X d MSh_hold 10 [.ref x, l1] st h = Rr X d MSh_hold 11 [.ref x, l1] (.ref x :: st) h := Rr_nx d_MSh_hold_10 rfl
theorem r_MSh_hold_11 : Rr X d MSh_hold 11 L st h = Rr X d MSh_hold 12 L (.int (0) :: st) h := Rr_nx d_MSh_hold_11 rfl
theorem ff_6_22 : fF 6 22 = some (6, 3, 0, 0) := rfl
theorem r_MSh_hold_12 {a : Nat} {x : Int32} (hq : qI a 6 3 = true) : Rr X d MSh_hold 12 L (.int x :: .ref a :: st) (Wd mu la ro et) = Rr X d MSh_hold 15 L st (Wd (up2 mu a 3 x) la ro et) := R_pfI d_MSh_hold_12 ff_6_22 hq
theorem r_MSh_hold_15 : Rr X d MSh_hold 15 L [] h = some (none, h) := Rr_rt d_MSh_hold_15 rfl
theorem d_MSh_holdRow_0 : decode MSh_holdRow.2.2.1 0 = .ok (.aload_n 0, 1) := by decide +kernel
theorem d_MSh_holdRow_1 : decode MSh_holdRow.2.2.1 1 = .ok (.iconst (-1), 1) := by decide +kernel
theorem d_MSh_holdRow_2 : decode MSh_holdRow.2.2.1 2 = .ok (.putfield 15, 3) := by decide +kernel
theorem d_MSh_holdRow_5 : decode MSh_holdRow.2.2.1 5 = .ok (.aload_n 0, 1) := by decide +kernel
theorem d_MSh_holdRow_6 : decode MSh_holdRow.2.2.1 6 = .ok (.iload_n 1, 1) := by decide +kernel
theorem d_MSh_holdRow_7 : decode MSh_holdRow.2.2.1 7 = .ok (.putfield 19, 3) := by decide +kernel
theorem d_MSh_holdRow_10 : decode MSh_holdRow.2.2.1 10 = .ok (.aload_n 0, 1) := by decide +kernel
theorem d_MSh_holdRow_11 : decode MSh_holdRow.2.2.1 11 = .ok (.iload_n 2, 1) := by decide +kernel
theorem d_MSh_holdRow_12 : decode MSh_holdRow.2.2.1 12 = .ok (.putfield 22, 3) := by decide +kernel
theorem d_MSh_holdRow_15 : decode MSh_holdRow.2.2.1 15 = .ok (.iconst 0, 1) := by decide +kernel
theorem d_MSh_holdRow_16 : decode MSh_holdRow.2.2.1 16 = .ok (.istore_n 3, 1) := by decide +kernel
theorem d_MSh_holdRow_17 : decode MSh_holdRow.2.2.1 17 = .ok (.iload_n 3, 1) := by decide +kernel
theorem d_MSh_holdRow_18 : decode MSh_holdRow.2.2.1 18 = .ok (.iload_n 2, 1) := by decide +kernel
theorem d_MSh_holdRow_19 : decode MSh_holdRow.2.2.1 19 = .ok (.if_icmp .ge 25, 3) := by decide +kernel
theorem d_MSh_holdRow_22 : decode MSh_holdRow.2.2.1 22 = .ok (.iload_n 3, 1) := by decide +kernel
theorem d_MSh_holdRow_23 : decode MSh_holdRow.2.2.1 23 = .ok (.aload_n 0, 1) := by decide +kernel
theorem d_MSh_holdRow_24 : decode MSh_holdRow.2.2.1 24 = .ok (.getfield 11, 3) := by decide +kernel
theorem d_MSh_holdRow_27 : decode MSh_holdRow.2.2.1 27 = .ok (.arraylength, 1) := by decide +kernel
theorem d_MSh_holdRow_28 : decode MSh_holdRow.2.2.1 28 = .ok (.if_icmp .ge 16, 3) := by decide +kernel
theorem d_MSh_holdRow_31 : decode MSh_holdRow.2.2.1 31 = .ok (.aload_n 0, 1) := by decide +kernel
theorem d_MSh_holdRow_32 : decode MSh_holdRow.2.2.1 32 = .ok (.getfield 11, 3) := by decide +kernel
theorem d_MSh_holdRow_35 : decode MSh_holdRow.2.2.1 35 = .ok (.iload_n 3, 1) := by decide +kernel
theorem d_MSh_holdRow_36 : decode MSh_holdRow.2.2.1 36 = .ok (.lconst 0, 1) := by decide +kernel
theorem d_MSh_holdRow_37 : decode MSh_holdRow.2.2.1 37 = .ok (.lastore, 1) := by decide +kernel
theorem d_MSh_holdRow_38 : decode MSh_holdRow.2.2.1 38 = .ok (.iinc 3 1, 3) := by decide +kernel
theorem d_MSh_holdRow_41 : decode MSh_holdRow.2.2.1 41 = .ok (.goto (-24), 3) := by decide +kernel
theorem d_MSh_holdRow_44 : decode MSh_holdRow.2.2.1 44 = .ok (.return_, 1) := by decide +kernel
theorem r_MSh_holdRow_0 {l1 l2 l3 : Value} {x : Nat} : Rr X d MSh_holdRow 0 [.ref x, l1, l2, l3] st h = Rr X d MSh_holdRow 1 [.ref x, l1, l2, l3] (.ref x :: st) h := Rr_nx d_MSh_holdRow_0 rfl
theorem r_MSh_holdRow_1 : Rr X d MSh_holdRow 1 L st h = Rr X d MSh_holdRow 2 L (.int (-1) :: st) h := Rr_nx d_MSh_holdRow_1 rfl
theorem r_MSh_holdRow_2 {a : Nat} {x : Int32} (hq : qI a 6 1 = true) : Rr X d MSh_holdRow 2 L (.int x :: .ref a :: st) (Wd mu la ro et) = Rr X d MSh_holdRow 5 L st (Wd (up2 mu a 1 x) la ro et) := R_pfI d_MSh_holdRow_2 ff_6_15 hq
theorem r_MSh_holdRow_5 {l1 l2 l3 : Value} {x : Nat} : Rr X d MSh_holdRow 5 [.ref x, l1, l2, l3] st h = Rr X d MSh_holdRow 6 [.ref x, l1, l2, l3] (.ref x :: st) h := Rr_nx d_MSh_holdRow_5 rfl
theorem r_MSh_holdRow_6 {l0 l2 l3 : Value} {x : Int32} : Rr X d MSh_holdRow 6 [l0, .int x, l2, l3] st h = Rr X d MSh_holdRow 7 [l0, .int x, l2, l3] (.int x :: st) h := Rr_nx d_MSh_holdRow_6 rfl
theorem r_MSh_holdRow_7 {a : Nat} {x : Int32} (hq : qI a 6 2 = true) : Rr X d MSh_holdRow 7 L (.int x :: .ref a :: st) (Wd mu la ro et) = Rr X d MSh_holdRow 10 L st (Wd (up2 mu a 2 x) la ro et) := R_pfI d_MSh_holdRow_7 ff_6_19 hq
theorem r_MSh_holdRow_10 {l1 l2 l3 : Value} {x : Nat} : Rr X d MSh_holdRow 10 [.ref x, l1, l2, l3] st h = Rr X d MSh_holdRow 11 [.ref x, l1, l2, l3] (.ref x :: st) h := Rr_nx d_MSh_holdRow_10 rfl
theorem r_MSh_holdRow_11 {l0 l1 l3 : Value} {x : Int32} : Rr X d MSh_holdRow 11 [l0, l1, .int x, l3] st h = Rr X d MSh_holdRow 12 [l0, l1, .int x, l3] (.int x :: st) h := Rr_nx d_MSh_holdRow_11 rfl
theorem r_MSh_holdRow_12 {a : Nat} {x : Int32} (hq : qI a 6 3 = true) : Rr X d MSh_holdRow 12 L (.int x :: .ref a :: st) (Wd mu la ro et) = Rr X d MSh_holdRow 15 L st (Wd (up2 mu a 3 x) la ro et) := R_pfI d_MSh_holdRow_12 ff_6_22 hq
theorem r_MSh_holdRow_15 : Rr X d MSh_holdRow 15 L st h = Rr X d MSh_holdRow 16 L (.int (0) :: st) h := Rr_nx d_MSh_holdRow_15 rfl
theorem r_MSh_holdRow_16 {l0 l1 l2 l3 : Value} {x : Int32} : Rr X d MSh_holdRow 16 [l0, l1, l2, l3] (.int x :: st) h = Rr X d MSh_holdRow 17 (sL [l0, l1, l2, l3] 3 (.int x)) st h := Rr_nx d_MSh_holdRow_16 rfl
theorem r_MSh_holdRow_17 {l0 l1 l2 : Value} {x : Int32} : Rr X d MSh_holdRow 17 [l0, l1, l2, .int x] st h = Rr X d MSh_holdRow 18 [l0, l1, l2, .int x] (.int x :: st) h := Rr_nx d_MSh_holdRow_17 rfl
theorem r_MSh_holdRow_18 {l0 l1 l3 : Value} {x : Int32} : Rr X d MSh_holdRow 18 [l0, l1, .int x, l3] st h = Rr X d MSh_holdRow 19 [l0, l1, .int x, l3] (.int x :: st) h := Rr_nx d_MSh_holdRow_18 rfl
theorem r_MSh_holdRow_19 {x y : Int32} : Rr X d MSh_holdRow 19 L (.int y :: .int x :: st) h = if y ≤ x then Rr X d MSh_holdRow 44 L st h else Rr X d MSh_holdRow 22 L st h := R_ic_ge d_MSh_holdRow_19 (by decide)
theorem r_MSh_holdRow_22 {l0 l1 l2 : Value} {x : Int32} : Rr X d MSh_holdRow 22 [l0, l1, l2, .int x] st h = Rr X d MSh_holdRow 23 [l0, l1, l2, .int x] (.int x :: st) h := Rr_nx d_MSh_holdRow_22 rfl
theorem r_MSh_holdRow_23 {l1 l2 l3 : Value} {x : Nat} : Rr X d MSh_holdRow 23 [.ref x, l1, l2, l3] st h = Rr X d MSh_holdRow 24 [.ref x, l1, l2, l3] (.ref x :: st) h := Rr_nx d_MSh_holdRow_23 rfl
theorem ff_6_11 : fF 6 11 = some (6, 0, 1, 1) := rfl
theorem r_MSh_holdRow_24 {a : Nat} (hq : (qR a 6 0).isSome = true) : Rr X d MSh_holdRow 24 L (.ref a :: st) (Wd mu la ro et) = Rr X d MSh_holdRow 27 L (.ref (qRd a 6 0) :: st) (Wd mu la ro et) := R_gfR d_MSh_holdRow_24 ff_6_11 hq
theorem r_MSh_holdRow_27 {a : Nat} (hq : (qL a).isSome = true) : Rr X d MSh_holdRow 27 L (.ref a :: st) (Wd mu la ro et) = Rr X d MSh_holdRow 28 L (.int (Int32.ofNat (qLd a)) :: st) (Wd mu la ro et) := R_lenW d_MSh_holdRow_27 hq
theorem r_MSh_holdRow_28 {x y : Int32} : Rr X d MSh_holdRow 28 L (.int y :: .int x :: st) h = if y ≤ x then Rr X d MSh_holdRow 44 L st h else Rr X d MSh_holdRow 31 L st h := R_ic_ge d_MSh_holdRow_28 (by decide)
theorem r_MSh_holdRow_31 {l1 l2 l3 : Value} {x : Nat} : Rr X d MSh_holdRow 31 [.ref x, l1, l2, l3] st h = Rr X d MSh_holdRow 32 [.ref x, l1, l2, l3] (.ref x :: st) h := Rr_nx d_MSh_holdRow_31 rfl
theorem r_MSh_holdRow_32 {a : Nat} (hq : (qR a 6 0).isSome = true) : Rr X d MSh_holdRow 32 L (.ref a :: st) (Wd mu la ro et) = Rr X d MSh_holdRow 35 L (.ref (qRd a 6 0) :: st) (Wd mu la ro et) := R_gfR d_MSh_holdRow_32 ff_6_11 hq
theorem r_MSh_holdRow_35 {l0 l1 l2 : Value} {x : Int32} : Rr X d MSh_holdRow 35 [l0, l1, l2, .int x] st h = Rr X d MSh_holdRow 36 [l0, l1, l2, .int x] (.int x :: st) h := Rr_nx d_MSh_holdRow_35 rfl
theorem r_MSh_holdRow_36 : Rr X d MSh_holdRow 36 L st h = Rr X d MSh_holdRow 37 L (.long 0 :: st) h := Rr_nx d_MSh_holdRow_36 rfl
theorem r_MSh_holdRow_37 {a : Nat} {j : Int32} {x : Int64} (hq : (qJ a).isSome = true) : Rr X d MSh_holdRow 37 L (.long x :: .int j :: .ref a :: st) (Wd mu la ro et) = if j < 0 ∨ qJd a ≤ j.toNatClampNeg then none else Rr X d MSh_holdRow 38 L st (Wd mu (upJ la a j.toNatClampNeg x) ro et) := R_lasW d_MSh_holdRow_37 hq
theorem r_MSh_holdRow_38 {l0 l1 l2 : Value} {x : Int32} : Rr X d MSh_holdRow 38 [l0, l1, l2, .int x] st h = Rr X d MSh_holdRow 41 (sL [l0, l1, l2, .int x] 3 (.int (x + (1)))) st h := Rr_nx d_MSh_holdRow_38 rfl
theorem r_MSh_holdRow_41 : Rr X d MSh_holdRow 41 L st h = Rr X d MSh_holdRow 17 L st h := R_goto d_MSh_holdRow_41 (by decide)
theorem r_MSh_holdRow_44 : Rr X d MSh_holdRow 44 L [] h = some (none, h) := Rr_rt d_MSh_holdRow_44 rfl
theorem d_MSh_isRow_0 : decode MSh_isRow.2.2.1 0 = .ok (.aload_n 0, 1) := by decide +kernel
theorem d_MSh_isRow_1 : decode MSh_isRow.2.2.1 1 = .ok (.getfield 19, 3) := by decide +kernel
theorem d_MSh_isRow_4 : decode MSh_isRow.2.2.1 4 = .ok (.iconst (-1), 1) := by decide +kernel
theorem d_MSh_isRow_5 : decode MSh_isRow.2.2.1 5 = .ok (.if_icmp .eq 7, 3) := by decide +kernel
theorem d_MSh_isRow_8 : decode MSh_isRow.2.2.1 8 = .ok (.iconst 1, 1) := by decide +kernel
theorem d_MSh_isRow_9 : decode MSh_isRow.2.2.1 9 = .ok (.goto 4, 3) := by decide +kernel
theorem d_MSh_isRow_12 : decode MSh_isRow.2.2.1 12 = .ok (.iconst 0, 1) := by decide +kernel
theorem d_MSh_isRow_13 : decode MSh_isRow.2.2.1 13 = .ok (.ireturn, 1) := by decide +kernel
theorem r_MSh_isRow_0 {x : Nat} : Rr X d MSh_isRow 0 [.ref x] st h = Rr X d MSh_isRow 1 [.ref x] (.ref x :: st) h := Rr_nx d_MSh_isRow_0 rfl
theorem r_MSh_isRow_1 {a : Nat} (hq : qI a 6 2 = true) : Rr X d MSh_isRow 1 L (.ref a :: st) (Wd mu la ro et) = Rr X d MSh_isRow 4 L (.int (mu a 2) :: st) (Wd mu la ro et) := R_gfI d_MSh_isRow_1 ff_6_19 hq
theorem r_MSh_isRow_4 : Rr X d MSh_isRow 4 L st h = Rr X d MSh_isRow 5 L (.int (-1) :: st) h := Rr_nx d_MSh_isRow_4 rfl
theorem r_MSh_isRow_5 {x y : Int32} : Rr X d MSh_isRow 5 L (.int y :: .int x :: st) h = if x = y then Rr X d MSh_isRow 12 L st h else Rr X d MSh_isRow 8 L st h := R_ic_eq d_MSh_isRow_5 (by decide)
theorem r_MSh_isRow_8 : Rr X d MSh_isRow 8 L st h = Rr X d MSh_isRow 9 L (.int (1) :: st) h := Rr_nx d_MSh_isRow_8 rfl
theorem r_MSh_isRow_9 : Rr X d MSh_isRow 9 L st h = Rr X d MSh_isRow 13 L st h := R_goto d_MSh_isRow_9 (by decide)
theorem r_MSh_isRow_12 : Rr X d MSh_isRow 12 L st h = Rr X d MSh_isRow 13 L (.int (0) :: st) h := Rr_nx d_MSh_isRow_12 rfl
theorem r_MSh_isRow_13 {x : Int32} : Rr X d MSh_isRow 13 L [.int x] h = if x = 0 ∨ x = 1 then some (some (.int x), h) else none := R_zr d_MSh_isRow_13 rfl
theorem d_MSh_isRowOf_0 : decode MSh_isRowOf.2.2.1 0 = .ok (.aload_n 0, 1) := by decide +kernel
theorem d_MSh_isRowOf_1 : decode MSh_isRowOf.2.2.1 1 = .ok (.invokevirtual 25, 3) := by decide +kernel
theorem d_MSh_isRowOf_4 : decode MSh_isRowOf.2.2.1 4 = .ok (.ifCond .eq 15, 3) := by decide +kernel
theorem d_MSh_isRowOf_7 : decode MSh_isRowOf.2.2.1 7 = .ok (.aload_n 0, 1) := by decide +kernel
theorem d_MSh_isRowOf_8 : decode MSh_isRowOf.2.2.1 8 = .ok (.getfield 19, 3) := by decide +kernel
theorem d_MSh_isRowOf_11 : decode MSh_isRowOf.2.2.1 11 = .ok (.iload_n 1, 1) := by decide +kernel
theorem d_MSh_isRowOf_12 : decode MSh_isRowOf.2.2.1 12 = .ok (.if_icmp .ne 7, 3) := by decide +kernel
theorem d_MSh_isRowOf_15 : decode MSh_isRowOf.2.2.1 15 = .ok (.iconst 1, 1) := by decide +kernel
theorem d_MSh_isRowOf_16 : decode MSh_isRowOf.2.2.1 16 = .ok (.goto 4, 3) := by decide +kernel
theorem d_MSh_isRowOf_19 : decode MSh_isRowOf.2.2.1 19 = .ok (.iconst 0, 1) := by decide +kernel
theorem d_MSh_isRowOf_20 : decode MSh_isRowOf.2.2.1 20 = .ok (.ireturn, 1) := by decide +kernel
theorem r_MSh_isRowOf_0 {l1 : Value} {x : Nat} : Rr X d MSh_isRowOf 0 [.ref x, l1] st h = Rr X d MSh_isRowOf 1 [.ref x, l1] (.ref x :: st) h := Rr_nx d_MSh_isRowOf_0 rfl
theorem fc_6_25 : fC 6 25 = some (0, 6, 0, MSh_isRow) := rfl
theorem r_MSh_isRowOf_1 {a : Nat} (hO : qO a 6 = true) (hc : ckS st = true) : Rr X (d + 1) MSh_isRowOf 1 L (.ref a :: st) (Wd mu la ro et) = (Rr X d MSh_isRow 0 [.ref a] [] (Wd mu la ro et)).bind fun q => Rr X (d + 1) MSh_isRowOf 4 L (psh q.1 st) q.2 := R_iv (av := []) d_MSh_isRowOf_1 fc_6_25 hO (ckS_le hc) rfl (Nat.le_of_ble_eq_true rfl) (Nat.le_of_ble_eq_true rfl)
theorem r_MSh_isRowOf_4 {x : Int32} : Rr X d MSh_isRowOf 4 L (.int x :: st) h = if x = 0 then Rr X d MSh_isRowOf 19 L st h else Rr X d MSh_isRowOf 7 L st h := R_if_eq d_MSh_isRowOf_4 (by decide)
theorem r_MSh_isRowOf_7 {l1 : Value} {x : Nat} : Rr X d MSh_isRowOf 7 [.ref x, l1] st h = Rr X d MSh_isRowOf 8 [.ref x, l1] (.ref x :: st) h := Rr_nx d_MSh_isRowOf_7 rfl
theorem r_MSh_isRowOf_8 {a : Nat} (hq : qI a 6 2 = true) : Rr X d MSh_isRowOf 8 L (.ref a :: st) (Wd mu la ro et) = Rr X d MSh_isRowOf 11 L (.int (mu a 2) :: st) (Wd mu la ro et) := R_gfI d_MSh_isRowOf_8 ff_6_19 hq
theorem r_MSh_isRowOf_11 {l0 : Value} {x : Int32} : Rr X d MSh_isRowOf 11 [l0, .int x] st h = Rr X d MSh_isRowOf 12 [l0, .int x] (.int x :: st) h := Rr_nx d_MSh_isRowOf_11 rfl
theorem r_MSh_isRowOf_12 {x y : Int32} : Rr X d MSh_isRowOf 12 L (.int y :: .int x :: st) h = if ¬ x = y then Rr X d MSh_isRowOf 19 L st h else Rr X d MSh_isRowOf 15 L st h := R_ic_ne d_MSh_isRowOf_12 (by decide)
theorem r_MSh_isRowOf_15 : Rr X d MSh_isRowOf 15 L st h = Rr X d MSh_isRowOf 16 L (.int (1) :: st) h := Rr_nx d_MSh_isRowOf_15 rfl
theorem r_MSh_isRowOf_16 : Rr X d MSh_isRowOf 16 L st h = Rr X d MSh_isRowOf 20 L st h := R_goto d_MSh_isRowOf_16 (by decide)
theorem r_MSh_isRowOf_19 : Rr X d MSh_isRowOf 19 L st h = Rr X d MSh_isRowOf 20 L (.int (0) :: st) h := Rr_nx d_MSh_isRowOf_19 rfl
theorem r_MSh_isRowOf_20 {x : Int32} : Rr X d MSh_isRowOf 20 L [.int x] h = if x = 0 ∨ x = 1 then some (some (.int x), h) else none := R_zr d_MSh_isRowOf_20 rfl
theorem d_MSh_isEmpty_0 : decode MSh_isEmpty.2.2.1 0 = .ok (.aload_n 0, 1) := by decide +kernel
theorem d_MSh_isEmpty_1 : decode MSh_isEmpty.2.2.1 1 = .ok (.invokevirtual 25, 3) := by decide +kernel
theorem d_MSh_isEmpty_4 : decode MSh_isEmpty.2.2.1 4 = .ok (.ifCond .ne 15, 3) := by decide +kernel
theorem d_MSh_isEmpty_7 : decode MSh_isEmpty.2.2.1 7 = .ok (.aload_n 0, 1) := by decide +kernel
theorem d_MSh_isEmpty_8 : decode MSh_isEmpty.2.2.1 8 = .ok (.getfield 15, 3) := by decide +kernel
theorem d_MSh_isEmpty_11 : decode MSh_isEmpty.2.2.1 11 = .ok (.iconst (-1), 1) := by decide +kernel
theorem d_MSh_isEmpty_12 : decode MSh_isEmpty.2.2.1 12 = .ok (.if_icmp .ne 7, 3) := by decide +kernel
theorem d_MSh_isEmpty_15 : decode MSh_isEmpty.2.2.1 15 = .ok (.iconst 1, 1) := by decide +kernel
theorem d_MSh_isEmpty_16 : decode MSh_isEmpty.2.2.1 16 = .ok (.goto 4, 3) := by decide +kernel
theorem d_MSh_isEmpty_19 : decode MSh_isEmpty.2.2.1 19 = .ok (.iconst 0, 1) := by decide +kernel
theorem d_MSh_isEmpty_20 : decode MSh_isEmpty.2.2.1 20 = .ok (.ireturn, 1) := by decide +kernel
theorem r_MSh_isEmpty_0 {x : Nat} : Rr X d MSh_isEmpty 0 [.ref x] st h = Rr X d MSh_isEmpty 1 [.ref x] (.ref x :: st) h := Rr_nx d_MSh_isEmpty_0 rfl
theorem r_MSh_isEmpty_1 {a : Nat} (hO : qO a 6 = true) (hc : ckS st = true) : Rr X (d + 1) MSh_isEmpty 1 L (.ref a :: st) (Wd mu la ro et) = (Rr X d MSh_isRow 0 [.ref a] [] (Wd mu la ro et)).bind fun q => Rr X (d + 1) MSh_isEmpty 4 L (psh q.1 st) q.2 := R_iv (av := []) d_MSh_isEmpty_1 fc_6_25 hO (ckS_le hc) rfl (Nat.le_of_ble_eq_true rfl) (Nat.le_of_ble_eq_true rfl)
theorem r_MSh_isEmpty_4 {x : Int32} : Rr X d MSh_isEmpty 4 L (.int x :: st) h = if ¬ x = 0 then Rr X d MSh_isEmpty 19 L st h else Rr X d MSh_isEmpty 7 L st h := R_if_ne d_MSh_isEmpty_4 (by decide)
theorem r_MSh_isEmpty_7 {x : Nat} : Rr X d MSh_isEmpty 7 [.ref x] st h = Rr X d MSh_isEmpty 8 [.ref x] (.ref x :: st) h := Rr_nx d_MSh_isEmpty_7 rfl
theorem r_MSh_isEmpty_8 {a : Nat} (hq : qI a 6 1 = true) : Rr X d MSh_isEmpty 8 L (.ref a :: st) (Wd mu la ro et) = Rr X d MSh_isEmpty 11 L (.int (mu a 1) :: st) (Wd mu la ro et) := R_gfI d_MSh_isEmpty_8 ff_6_15 hq
theorem r_MSh_isEmpty_11 : Rr X d MSh_isEmpty 11 L st h = Rr X d MSh_isEmpty 12 L (.int (-1) :: st) h := Rr_nx d_MSh_isEmpty_11 rfl
theorem r_MSh_isEmpty_12 {x y : Int32} : Rr X d MSh_isEmpty 12 L (.int y :: .int x :: st) h = if ¬ x = y then Rr X d MSh_isEmpty 19 L st h else Rr X d MSh_isEmpty 15 L st h := R_ic_ne d_MSh_isEmpty_12 (by decide)
theorem r_MSh_isEmpty_15 : Rr X d MSh_isEmpty 15 L st h = Rr X d MSh_isEmpty 16 L (.int (1) :: st) h := Rr_nx d_MSh_isEmpty_15 rfl
theorem r_MSh_isEmpty_16 : Rr X d MSh_isEmpty 16 L st h = Rr X d MSh_isEmpty 20 L st h := R_goto d_MSh_isEmpty_16 (by decide)
theorem r_MSh_isEmpty_19 : Rr X d MSh_isEmpty 19 L st h = Rr X d MSh_isEmpty 20 L (.int (0) :: st) h := Rr_nx d_MSh_isEmpty_19 rfl
theorem r_MSh_isEmpty_20 {x : Int32} : Rr X d MSh_isEmpty 20 L [.int x] h = if x = 0 ∨ x = 1 then some (some (.int x), h) else none := R_zr d_MSh_isEmpty_20 rfl
theorem d_MSh_hasPlaces_0 : decode MSh_hasPlaces.2.2.1 0 = .ok (.iload_n 1, 1) := by decide +kernel
theorem d_MSh_hasPlaces_1 : decode MSh_hasPlaces.2.2.1 1 = .ok (.ifCond .lt 21, 3) := by decide +kernel
theorem d_MSh_hasPlaces_4 : decode MSh_hasPlaces.2.2.1 4 = .ok (.iload_n 2, 1) := by decide +kernel
theorem d_MSh_hasPlaces_5 : decode MSh_hasPlaces.2.2.1 5 = .ok (.ifCond .lt 17, 3) := by decide +kernel
theorem d_MSh_hasPlaces_8 : decode MSh_hasPlaces.2.2.1 8 = .ok (.iload_n 1, 1) := by decide +kernel
theorem d_MSh_hasPlaces_9 : decode MSh_hasPlaces.2.2.1 9 = .ok (.aload_n 0, 1) := by decide +kernel
theorem d_MSh_hasPlaces_10 : decode MSh_hasPlaces.2.2.1 10 = .ok (.getfield 22, 3) := by decide +kernel
theorem d_MSh_hasPlaces_13 : decode MSh_hasPlaces.2.2.1 13 = .ok (.iload_n 2, 1) := by decide +kernel
theorem d_MSh_hasPlaces_14 : decode MSh_hasPlaces.2.2.1 14 = .ok (.isub, 1) := by decide +kernel
theorem d_MSh_hasPlaces_15 : decode MSh_hasPlaces.2.2.1 15 = .ok (.if_icmp .gt 7, 3) := by decide +kernel
theorem d_MSh_hasPlaces_18 : decode MSh_hasPlaces.2.2.1 18 = .ok (.iconst 1, 1) := by decide +kernel
theorem d_MSh_hasPlaces_19 : decode MSh_hasPlaces.2.2.1 19 = .ok (.goto 4, 3) := by decide +kernel
theorem d_MSh_hasPlaces_22 : decode MSh_hasPlaces.2.2.1 22 = .ok (.iconst 0, 1) := by decide +kernel
theorem d_MSh_hasPlaces_23 : decode MSh_hasPlaces.2.2.1 23 = .ok (.ireturn, 1) := by decide +kernel
theorem r_MSh_hasPlaces_0 {l0 l2 : Value} {x : Int32} : Rr X d MSh_hasPlaces 0 [l0, .int x, l2] st h = Rr X d MSh_hasPlaces 1 [l0, .int x, l2] (.int x :: st) h := Rr_nx d_MSh_hasPlaces_0 rfl
theorem r_MSh_hasPlaces_1 {x : Int32} : Rr X d MSh_hasPlaces 1 L (.int x :: st) h = if x < 0 then Rr X d MSh_hasPlaces 22 L st h else Rr X d MSh_hasPlaces 4 L st h := R_if_lt d_MSh_hasPlaces_1 (by decide)
theorem r_MSh_hasPlaces_4 {l0 l1 : Value} {x : Int32} : Rr X d MSh_hasPlaces 4 [l0, l1, .int x] st h = Rr X d MSh_hasPlaces 5 [l0, l1, .int x] (.int x :: st) h := Rr_nx d_MSh_hasPlaces_4 rfl
theorem r_MSh_hasPlaces_5 {x : Int32} : Rr X d MSh_hasPlaces 5 L (.int x :: st) h = if x < 0 then Rr X d MSh_hasPlaces 22 L st h else Rr X d MSh_hasPlaces 8 L st h := R_if_lt d_MSh_hasPlaces_5 (by decide)
theorem r_MSh_hasPlaces_8 {l0 l2 : Value} {x : Int32} : Rr X d MSh_hasPlaces 8 [l0, .int x, l2] st h = Rr X d MSh_hasPlaces 9 [l0, .int x, l2] (.int x :: st) h := Rr_nx d_MSh_hasPlaces_8 rfl
theorem r_MSh_hasPlaces_9 {l1 l2 : Value} {x : Nat} : Rr X d MSh_hasPlaces 9 [.ref x, l1, l2] st h = Rr X d MSh_hasPlaces 10 [.ref x, l1, l2] (.ref x :: st) h := Rr_nx d_MSh_hasPlaces_9 rfl
theorem r_MSh_hasPlaces_10 {a : Nat} (hq : qI a 6 3 = true) : Rr X d MSh_hasPlaces 10 L (.ref a :: st) (Wd mu la ro et) = Rr X d MSh_hasPlaces 13 L (.int (mu a 3) :: st) (Wd mu la ro et) := R_gfI d_MSh_hasPlaces_10 ff_6_22 hq
theorem r_MSh_hasPlaces_13 {l0 l1 : Value} {x : Int32} : Rr X d MSh_hasPlaces 13 [l0, l1, .int x] st h = Rr X d MSh_hasPlaces 14 [l0, l1, .int x] (.int x :: st) h := Rr_nx d_MSh_hasPlaces_13 rfl
theorem r_MSh_hasPlaces_14 {x y : Int32} : Rr X d MSh_hasPlaces 14 L (.int y :: .int x :: st) h = Rr X d MSh_hasPlaces 15 L (.int (x - y) :: st) h := Rr_nx d_MSh_hasPlaces_14 rfl
theorem r_MSh_hasPlaces_15 {x y : Int32} : Rr X d MSh_hasPlaces 15 L (.int y :: .int x :: st) h = if y < x then Rr X d MSh_hasPlaces 22 L st h else Rr X d MSh_hasPlaces 18 L st h := R_ic_gt d_MSh_hasPlaces_15 (by decide)
theorem r_MSh_hasPlaces_18 : Rr X d MSh_hasPlaces 18 L st h = Rr X d MSh_hasPlaces 19 L (.int (1) :: st) h := Rr_nx d_MSh_hasPlaces_18 rfl
theorem r_MSh_hasPlaces_19 : Rr X d MSh_hasPlaces 19 L st h = Rr X d MSh_hasPlaces 23 L st h := R_goto d_MSh_hasPlaces_19 (by decide)
theorem r_MSh_hasPlaces_22 : Rr X d MSh_hasPlaces 22 L st h = Rr X d MSh_hasPlaces 23 L (.int (0) :: st) h := Rr_nx d_MSh_hasPlaces_22 rfl
theorem r_MSh_hasPlaces_23 {x : Int32} : Rr X d MSh_hasPlaces 23 L [.int x] h = if x = 0 ∨ x = 1 then some (some (.int x), h) else none := R_zr d_MSh_hasPlaces_23 rfl
theorem d_MSh_refusal_0 : decode MSh_refusal.2.2.1 0 = .ok (.aload_n 0, 1) := by decide +kernel
theorem d_MSh_refusal_1 : decode MSh_refusal.2.2.1 1 = .ok (.invokevirtual 29, 3) := by decide +kernel
theorem d_MSh_refusal_4 : decode MSh_refusal.2.2.1 4 = .ok (.ifCond .eq 6, 3) := by decide +kernel
theorem d_MSh_refusal_7 : decode MSh_refusal.2.2.1 7 = .ok (.bipush (-11), 2) := by decide +kernel
theorem d_MSh_refusal_9 : decode MSh_refusal.2.2.1 9 = .ok (.ireturn, 1) := by decide +kernel
theorem d_MSh_refusal_10 : decode MSh_refusal.2.2.1 10 = .ok (.aload_n 0, 1) := by decide +kernel
theorem d_MSh_refusal_11 : decode MSh_refusal.2.2.1 11 = .ok (.invokevirtual 25, 3) := by decide +kernel
theorem d_MSh_refusal_14 : decode MSh_refusal.2.2.1 14 = .ok (.ifCond .ne 6, 3) := by decide +kernel
theorem d_MSh_refusal_17 : decode MSh_refusal.2.2.1 17 = .ok (.bipush (-12), 2) := by decide +kernel
theorem d_MSh_refusal_19 : decode MSh_refusal.2.2.1 19 = .ok (.ireturn, 1) := by decide +kernel
theorem d_MSh_refusal_20 : decode MSh_refusal.2.2.1 20 = .ok (.aload_n 0, 1) := by decide +kernel
theorem d_MSh_refusal_21 : decode MSh_refusal.2.2.1 21 = .ok (.iload_n 1, 1) := by decide +kernel
theorem d_MSh_refusal_22 : decode MSh_refusal.2.2.1 22 = .ok (.iconst 1, 1) := by decide +kernel
theorem d_MSh_refusal_23 : decode MSh_refusal.2.2.1 23 = .ok (.invokevirtual 32, 3) := by decide +kernel
theorem d_MSh_refusal_26 : decode MSh_refusal.2.2.1 26 = .ok (.ifCond .eq 7, 3) := by decide +kernel
theorem d_MSh_refusal_29 : decode MSh_refusal.2.2.1 29 = .ok (.iconst 0, 1) := by decide +kernel
theorem d_MSh_refusal_30 : decode MSh_refusal.2.2.1 30 = .ok (.goto 5, 3) := by decide +kernel
theorem d_MSh_refusal_33 : decode MSh_refusal.2.2.1 33 = .ok (.bipush (-13), 2) := by decide +kernel
theorem d_MSh_refusal_35 : decode MSh_refusal.2.2.1 35 = .ok (.ireturn, 1) := by decide +kernel
theorem r_MSh_refusal_0 {l1 : Value} {x : Nat} : Rr X d MSh_refusal 0 [.ref x, l1] st h = Rr X d MSh_refusal 1 [.ref x, l1] (.ref x :: st) h := Rr_nx d_MSh_refusal_0 rfl
theorem fc_6_29 : fC 6 29 = some (0, 6, 0, MSh_isEmpty) := rfl
theorem r_MSh_refusal_1 {a : Nat} (hO : qO a 6 = true) (hc : ckS st = true) : Rr X (d + 1) MSh_refusal 1 L (.ref a :: st) (Wd mu la ro et) = (Rr X d MSh_isEmpty 0 [.ref a] [] (Wd mu la ro et)).bind fun q => Rr X (d + 1) MSh_refusal 4 L (psh q.1 st) q.2 := R_iv (av := []) d_MSh_refusal_1 fc_6_29 hO (ckS_le hc) rfl (Nat.le_of_ble_eq_true rfl) (Nat.le_of_ble_eq_true rfl)
theorem r_MSh_refusal_4 {x : Int32} : Rr X d MSh_refusal 4 L (.int x :: st) h = if x = 0 then Rr X d MSh_refusal 10 L st h else Rr X d MSh_refusal 7 L st h := R_if_eq d_MSh_refusal_4 (by decide)
theorem r_MSh_refusal_7 : Rr X d MSh_refusal 7 L st h = Rr X d MSh_refusal 9 L (.int (-11) :: st) h := Rr_nx d_MSh_refusal_7 rfl
theorem r_MSh_refusal_9 {x : Int32} : Rr X d MSh_refusal 9 L [.int x] h = some (some (.int x), h) := R_ir d_MSh_refusal_9 rfl
theorem r_MSh_refusal_10 {l1 : Value} {x : Nat} : Rr X d MSh_refusal 10 [.ref x, l1] st h = Rr X d MSh_refusal 11 [.ref x, l1] (.ref x :: st) h := Rr_nx d_MSh_refusal_10 rfl
theorem r_MSh_refusal_11 {a : Nat} (hO : qO a 6 = true) (hc : ckS st = true) : Rr X (d + 1) MSh_refusal 11 L (.ref a :: st) (Wd mu la ro et) = (Rr X d MSh_isRow 0 [.ref a] [] (Wd mu la ro et)).bind fun q => Rr X (d + 1) MSh_refusal 14 L (psh q.1 st) q.2 := R_iv (av := []) d_MSh_refusal_11 fc_6_25 hO (ckS_le hc) rfl (Nat.le_of_ble_eq_true rfl) (Nat.le_of_ble_eq_true rfl)
theorem r_MSh_refusal_14 {x : Int32} : Rr X d MSh_refusal 14 L (.int x :: st) h = if ¬ x = 0 then Rr X d MSh_refusal 20 L st h else Rr X d MSh_refusal 17 L st h := R_if_ne d_MSh_refusal_14 (by decide)
theorem r_MSh_refusal_17 : Rr X d MSh_refusal 17 L st h = Rr X d MSh_refusal 19 L (.int (-12) :: st) h := Rr_nx d_MSh_refusal_17 rfl
theorem r_MSh_refusal_19 {x : Int32} : Rr X d MSh_refusal 19 L [.int x] h = some (some (.int x), h) := R_ir d_MSh_refusal_19 rfl
theorem r_MSh_refusal_20 {l1 : Value} {x : Nat} : Rr X d MSh_refusal 20 [.ref x, l1] st h = Rr X d MSh_refusal 21 [.ref x, l1] (.ref x :: st) h := Rr_nx d_MSh_refusal_20 rfl
theorem r_MSh_refusal_21 {l0 : Value} {x : Int32} : Rr X d MSh_refusal 21 [l0, .int x] st h = Rr X d MSh_refusal 22 [l0, .int x] (.int x :: st) h := Rr_nx d_MSh_refusal_21 rfl
theorem r_MSh_refusal_22 : Rr X d MSh_refusal 22 L st h = Rr X d MSh_refusal 23 L (.int (1) :: st) h := Rr_nx d_MSh_refusal_22 rfl
theorem fc_6_32 : fC 6 32 = some (0, 6, 2, MSh_hasPlaces) := rfl
theorem r_MSh_refusal_23 {y0 : Int32} {y1 : Int32} {a : Nat} (hO : qO a 6 = true) (hc : ckS st = true) : Rr X (d + 1) MSh_refusal 23 L (.int y1 :: .int y0 :: .ref a :: st) (Wd mu la ro et) = (Rr X d MSh_hasPlaces 0 [.ref a, .int y0, .int y1] [] (Wd mu la ro et)).bind fun q => Rr X (d + 1) MSh_refusal 26 L (psh q.1 st) q.2 := R_iv (av := [.int y1, .int y0]) d_MSh_refusal_23 fc_6_32 hO (ckS_le hc) rfl (Nat.le_of_ble_eq_true rfl) (Nat.le_of_ble_eq_true rfl)
theorem r_MSh_refusal_26 {x : Int32} : Rr X d MSh_refusal 26 L (.int x :: st) h = if x = 0 then Rr X d MSh_refusal 33 L st h else Rr X d MSh_refusal 29 L st h := R_if_eq d_MSh_refusal_26 (by decide)
theorem r_MSh_refusal_29 : Rr X d MSh_refusal 29 L st h = Rr X d MSh_refusal 30 L (.int (0) :: st) h := Rr_nx d_MSh_refusal_29 rfl
theorem r_MSh_refusal_30 : Rr X d MSh_refusal 30 L st h = Rr X d MSh_refusal 35 L st h := R_goto d_MSh_refusal_30 (by decide)
theorem r_MSh_refusal_33 : Rr X d MSh_refusal 33 L st h = Rr X d MSh_refusal 35 L (.int (-13) :: st) h := Rr_nx d_MSh_refusal_33 rfl
theorem r_MSh_refusal_35 {x : Int32} : Rr X d MSh_refusal 35 L [.int x] h = some (some (.int x), h) := R_ir d_MSh_refusal_35 rfl
theorem d_MTo_feed_0 : decode MTo_feed.2.2.1 0 = .ok (.iload_n 1, 1) := by decide +kernel
theorem d_MTo_feed_1 : decode MTo_feed.2.2.1 1 = .ok (.iconst 1, 1) := by decide +kernel
theorem d_MTo_feed_2 : decode MTo_feed.2.2.1 2 = .ok (.iconst 4, 1) := by decide +kernel
theorem d_MTo_feed_3 : decode MTo_feed.2.2.1 3 = .ok (.invokestatic 72, 3) := by decide +kernel
theorem d_MTo_feed_6 : decode MTo_feed.2.2.1 6 = .ok (.ifCond .ne 5, 3) := by decide +kernel
theorem d_MTo_feed_9 : decode MTo_feed.2.2.1 9 = .ok (.iconst (-1), 1) := by decide +kernel
theorem d_MTo_feed_10 : decode MTo_feed.2.2.1 10 = .ok (.ireturn, 1) := by decide +kernel
theorem d_MTo_feed_11 : decode MTo_feed.2.2.1 11 = .ok (.aload_n 0, 1) := by decide +kernel
theorem d_MTo_feed_12 : decode MTo_feed.2.2.1 12 = .ok (.getfield 10, 3) := by decide +kernel
theorem d_MTo_feed_15 : decode MTo_feed.2.2.1 15 = .ok (.getfield 76, 3) := by decide +kernel
theorem d_MTo_feed_18 : decode MTo_feed.2.2.1 18 = .ok (.iload_n 1, 1) := by decide +kernel
theorem d_MTo_feed_19 : decode MTo_feed.2.2.1 19 = .ok (.iadd, 1) := by decide +kernel
theorem d_MTo_feed_20 : decode MTo_feed.2.2.1 20 = .ok (.bipush 120, 2) := by decide +kernel
theorem d_MTo_feed_22 : decode MTo_feed.2.2.1 22 = .ok (.if_icmp .le 6, 3) := by decide +kernel
theorem d_MTo_feed_25 : decode MTo_feed.2.2.1 25 = .ok (.bipush (-3), 2) := by decide +kernel
theorem d_MTo_feed_27 : decode MTo_feed.2.2.1 27 = .ok (.ireturn, 1) := by decide +kernel
theorem d_MTo_feed_28 : decode MTo_feed.2.2.1 28 = .ok (.iconst 0, 1) := by decide +kernel
theorem d_MTo_feed_29 : decode MTo_feed.2.2.1 29 = .ok (.istore_n 3, 1) := by decide +kernel
theorem d_MTo_feed_30 : decode MTo_feed.2.2.1 30 = .ok (.iload_n 3, 1) := by decide +kernel
theorem d_MTo_feed_31 : decode MTo_feed.2.2.1 31 = .ok (.iload_n 1, 1) := by decide +kernel
theorem d_MTo_feed_32 : decode MTo_feed.2.2.1 32 = .ok (.if_icmp .ge 22, 3) := by decide +kernel
theorem d_MTo_feed_35 : decode MTo_feed.2.2.1 35 = .ok (.aload_n 0, 1) := by decide +kernel
theorem d_MTo_feed_36 : decode MTo_feed.2.2.1 36 = .ok (.getfield 10, 3) := by decide +kernel
theorem d_MTo_feed_39 : decode MTo_feed.2.2.1 39 = .ok (.iload_n 2, 1) := by decide +kernel
theorem d_MTo_feed_40 : decode MTo_feed.2.2.1 40 = .ok (.bipush 8, 2) := by decide +kernel
theorem d_MTo_feed_42 : decode MTo_feed.2.2.1 42 = .ok (.iload_n 3, 1) := by decide +kernel
theorem d_MTo_feed_43 : decode MTo_feed.2.2.1 43 = .ok (.imul, 1) := by decide +kernel
theorem d_MTo_feed_44 : decode MTo_feed.2.2.1 44 = .ok (.iushr, 1) := by decide +kernel
theorem d_MTo_feed_45 : decode MTo_feed.2.2.1 45 = .ok (.invokevirtual 80, 3) := by decide +kernel
theorem d_MTo_feed_48 : decode MTo_feed.2.2.1 48 = .ok (.iinc 3 1, 3) := by decide +kernel
theorem d_MTo_feed_51 : decode MTo_feed.2.2.1 51 = .ok (.goto (-21), 3) := by decide +kernel
theorem d_MTo_feed_54 : decode MTo_feed.2.2.1 54 = .ok (.aload_n 0, 1) := by decide +kernel
theorem d_MTo_feed_55 : decode MTo_feed.2.2.1 55 = .ok (.getfield 10, 3) := by decide +kernel
theorem d_MTo_feed_58 : decode MTo_feed.2.2.1 58 = .ok (.getfield 76, 3) := by decide +kernel
theorem d_MTo_feed_61 : decode MTo_feed.2.2.1 61 = .ok (.ireturn, 1) := by decide +kernel
theorem r_MTo_feed_0 {l0 l2 l3 : Value} {x : Int32} : Rr X d MTo_feed 0 [l0, .int x, l2, l3] st h = Rr X d MTo_feed 1 [l0, .int x, l2, l3] (.int x :: st) h := Rr_nx d_MTo_feed_0 rfl
theorem r_MTo_feed_1 : Rr X d MTo_feed 1 L st h = Rr X d MTo_feed 2 L (.int (1) :: st) h := Rr_nx d_MTo_feed_1 rfl
theorem r_MTo_feed_2 : Rr X d MTo_feed 2 L st h = Rr X d MTo_feed 3 L (.int (4) :: st) h := Rr_nx d_MTo_feed_2 rfl
theorem r_MTo_feed_3 {y0 : Int32} {y1 : Int32} {y2 : Int32} (hc : ckS st = true) : Rr X (d + 1) MTo_feed 3 L (.int y2 :: .int y1 :: .int y0 :: st) h = (Rr X d MTo_isWithin 0 [.int y0, .int y1, .int y2] [] h).bind fun q => Rr X (d + 1) MTo_feed 6 L (psh q.1 st) q.2 := R_is (av := [.int y2, .int y1, .int y0]) d_MTo_feed_3 (Or.inl fc_9_72) (ckS_le hc) rfl (Nat.le_of_ble_eq_true rfl) (Nat.le_of_ble_eq_true rfl)
theorem r_MTo_feed_6 {x : Int32} : Rr X d MTo_feed 6 L (.int x :: st) h = if ¬ x = 0 then Rr X d MTo_feed 11 L st h else Rr X d MTo_feed 9 L st h := R_if_ne d_MTo_feed_6 (by decide)
theorem r_MTo_feed_9 : Rr X d MTo_feed 9 L st h = Rr X d MTo_feed 10 L (.int (-1) :: st) h := Rr_nx d_MTo_feed_9 rfl
theorem r_MTo_feed_10 {x : Int32} : Rr X d MTo_feed 10 L [.int x] h = some (some (.int x), h) := R_ir d_MTo_feed_10 rfl
theorem r_MTo_feed_11 {l1 l2 l3 : Value} {x : Nat} : Rr X d MTo_feed 11 [.ref x, l1, l2, l3] st h = Rr X d MTo_feed 12 [.ref x, l1, l2, l3] (.ref x :: st) h := Rr_nx d_MTo_feed_11 rfl
theorem ff_9_10 : fF 9 10 = some (9, 0, 1, 1) := rfl
theorem r_MTo_feed_12 {a : Nat} (hq : (qR a 9 0).isSome = true) : Rr X d MTo_feed 12 L (.ref a :: st) (Wd mu la ro et) = Rr X d MTo_feed 15 L (.ref (qRd a 9 0) :: st) (Wd mu la ro et) := R_gfR d_MTo_feed_12 ff_9_10 hq
theorem ff_9_76 : fF 9 76 = some (8, 1, 0, 0) := rfl
theorem r_MTo_feed_15 {a : Nat} (hq : qI a 8 1 = true) : Rr X d MTo_feed 15 L (.ref a :: st) (Wd mu la ro et) = Rr X d MTo_feed 18 L (.int (mu a 1) :: st) (Wd mu la ro et) := R_gfI d_MTo_feed_15 ff_9_76 hq
theorem r_MTo_feed_18 {l0 l2 l3 : Value} {x : Int32} : Rr X d MTo_feed 18 [l0, .int x, l2, l3] st h = Rr X d MTo_feed 19 [l0, .int x, l2, l3] (.int x :: st) h := Rr_nx d_MTo_feed_18 rfl
theorem r_MTo_feed_19 {x y : Int32} : Rr X d MTo_feed 19 L (.int y :: .int x :: st) h = Rr X d MTo_feed 20 L (.int (x + y) :: st) h := Rr_nx d_MTo_feed_19 rfl
theorem r_MTo_feed_20 : Rr X d MTo_feed 20 L st h = Rr X d MTo_feed 22 L (.int (120) :: st) h := Rr_nx d_MTo_feed_20 rfl
theorem r_MTo_feed_22 {x y : Int32} : Rr X d MTo_feed 22 L (.int y :: .int x :: st) h = if x ≤ y then Rr X d MTo_feed 28 L st h else Rr X d MTo_feed 25 L st h := R_ic_le d_MTo_feed_22 (by decide)
theorem r_MTo_feed_25 : Rr X d MTo_feed 25 L st h = Rr X d MTo_feed 27 L (.int (-3) :: st) h := Rr_nx d_MTo_feed_25 rfl
theorem r_MTo_feed_27 {x : Int32} : Rr X d MTo_feed 27 L [.int x] h = some (some (.int x), h) := R_ir d_MTo_feed_27 rfl
theorem r_MTo_feed_28 : Rr X d MTo_feed 28 L st h = Rr X d MTo_feed 29 L (.int (0) :: st) h := Rr_nx d_MTo_feed_28 rfl
theorem r_MTo_feed_29 {l0 l1 l2 l3 : Value} {x : Int32} : Rr X d MTo_feed 29 [l0, l1, l2, l3] (.int x :: st) h = Rr X d MTo_feed 30 (sL [l0, l1, l2, l3] 3 (.int x)) st h := Rr_nx d_MTo_feed_29 rfl
theorem r_MTo_feed_30 {l0 l1 l2 : Value} {x : Int32} : Rr X d MTo_feed 30 [l0, l1, l2, .int x] st h = Rr X d MTo_feed 31 [l0, l1, l2, .int x] (.int x :: st) h := Rr_nx d_MTo_feed_30 rfl
theorem r_MTo_feed_31 {l0 l2 l3 : Value} {x : Int32} : Rr X d MTo_feed 31 [l0, .int x, l2, l3] st h = Rr X d MTo_feed 32 [l0, .int x, l2, l3] (.int x :: st) h := Rr_nx d_MTo_feed_31 rfl
theorem r_MTo_feed_32 {x y : Int32} : Rr X d MTo_feed 32 L (.int y :: .int x :: st) h = if y ≤ x then Rr X d MTo_feed 54 L st h else Rr X d MTo_feed 35 L st h := R_ic_ge d_MTo_feed_32 (by decide)
theorem r_MTo_feed_35 {l1 l2 l3 : Value} {x : Nat} : Rr X d MTo_feed 35 [.ref x, l1, l2, l3] st h = Rr X d MTo_feed 36 [.ref x, l1, l2, l3] (.ref x :: st) h := Rr_nx d_MTo_feed_35 rfl
theorem r_MTo_feed_36 {a : Nat} (hq : (qR a 9 0).isSome = true) : Rr X d MTo_feed 36 L (.ref a :: st) (Wd mu la ro et) = Rr X d MTo_feed 39 L (.ref (qRd a 9 0) :: st) (Wd mu la ro et) := R_gfR d_MTo_feed_36 ff_9_10 hq
theorem r_MTo_feed_39 {l0 l1 l3 : Value} {x : Int32} : Rr X d MTo_feed 39 [l0, l1, .int x, l3] st h = Rr X d MTo_feed 40 [l0, l1, .int x, l3] (.int x :: st) h := Rr_nx d_MTo_feed_39 rfl
theorem r_MTo_feed_40 : Rr X d MTo_feed 40 L st h = Rr X d MTo_feed 42 L (.int (8) :: st) h := Rr_nx d_MTo_feed_40 rfl
theorem r_MTo_feed_42 {l0 l1 l2 : Value} {x : Int32} : Rr X d MTo_feed 42 [l0, l1, l2, .int x] st h = Rr X d MTo_feed 43 [l0, l1, l2, .int x] (.int x :: st) h := Rr_nx d_MTo_feed_42 rfl
theorem r_MTo_feed_43 {x y : Int32} : Rr X d MTo_feed 43 L (.int y :: .int x :: st) h = Rr X d MTo_feed 44 L (.int (x * y) :: st) h := Rr_nx d_MTo_feed_43 rfl
theorem r_MTo_feed_44 {x y : Int32} : Rr X d MTo_feed 44 L (.int y :: .int x :: st) h = Rr X d MTo_feed 45 L (.int ((x.toUInt32 >>> (y.toUInt32 &&& Int32.toUInt32 31)).toInt32) :: st) h := Rr_nx d_MTo_feed_44 rfl
theorem fc_9_80 : fC 9 80 = some (0, 8, 1, MTa_append) := rfl
theorem r_MTo_feed_45 {y0 : Int32} {a : Nat} (hO : qO a 8 = true) (hc : ckS st = true) : Rr X (d + 1) MTo_feed 45 L (.int y0 :: .ref a :: st) (Wd mu la ro et) = (Rr X d MTa_append 0 [.ref a, .int y0] [] (Wd mu la ro et)).bind fun q => Rr X (d + 1) MTo_feed 48 L (psh q.1 st) q.2 := R_iv (av := [.int y0]) d_MTo_feed_45 fc_9_80 hO (ckS_le hc) rfl (Nat.le_of_ble_eq_true rfl) (Nat.le_of_ble_eq_true rfl)
theorem r_MTo_feed_48 {l0 l1 l2 : Value} {x : Int32} : Rr X d MTo_feed 48 [l0, l1, l2, .int x] st h = Rr X d MTo_feed 51 (sL [l0, l1, l2, .int x] 3 (.int (x + (1)))) st h := Rr_nx d_MTo_feed_48 rfl
theorem r_MTo_feed_51 : Rr X d MTo_feed 51 L st h = Rr X d MTo_feed 30 L st h := R_goto d_MTo_feed_51 (by decide)
theorem r_MTo_feed_54 {l1 l2 l3 : Value} {x : Nat} : Rr X d MTo_feed 54 [.ref x, l1, l2, l3] st h = Rr X d MTo_feed 55 [.ref x, l1, l2, l3] (.ref x :: st) h := Rr_nx d_MTo_feed_54 rfl
theorem r_MTo_feed_55 {a : Nat} (hq : (qR a 9 0).isSome = true) : Rr X d MTo_feed 55 L (.ref a :: st) (Wd mu la ro et) = Rr X d MTo_feed 58 L (.ref (qRd a 9 0) :: st) (Wd mu la ro et) := R_gfR d_MTo_feed_55 ff_9_10 hq
theorem r_MTo_feed_58 {a : Nat} (hq : qI a 8 1 = true) : Rr X d MTo_feed 58 L (.ref a :: st) (Wd mu la ro et) = Rr X d MTo_feed 61 L (.int (mu a 1) :: st) (Wd mu la ro et) := R_gfI d_MTo_feed_58 ff_9_76 hq
theorem r_MTo_feed_61 {x : Int32} : Rr X d MTo_feed 61 L [.int x] h = some (some (.int x), h) := R_ir d_MTo_feed_61 rfl
theorem d_MTo_stone_0 : decode MTo_stone.2.2.1 0 = .ok (.aload_n 0, 1) := by decide +kernel
theorem d_MTo_stone_1 : decode MTo_stone.2.2.1 1 = .ok (.getfield 84, 3) := by decide +kernel
theorem d_MTo_stone_4 : decode MTo_stone.2.2.1 4 = .ok (.ifCond .lt 27, 3) := by decide +kernel
theorem d_MTo_stone_7 : decode MTo_stone.2.2.1 7 = .ok (.aload_n 0, 1) := by decide +kernel
theorem d_MTo_stone_8 : decode MTo_stone.2.2.1 8 = .ok (.getfield 84, 3) := by decide +kernel
theorem d_MTo_stone_11 : decode MTo_stone.2.2.1 11 = .ok (.aload_n 0, 1) := by decide +kernel
theorem d_MTo_stone_12 : decode MTo_stone.2.2.1 12 = .ok (.getfield 18, 3) := by decide +kernel
theorem d_MTo_stone_15 : decode MTo_stone.2.2.1 15 = .ok (.arraylength, 1) := by decide +kernel
theorem d_MTo_stone_16 : decode MTo_stone.2.2.1 16 = .ok (.if_icmp .ge 15, 3) := by decide +kernel
theorem d_MTo_stone_19 : decode MTo_stone.2.2.1 19 = .ok (.aload_n 0, 1) := by decide +kernel
theorem d_MTo_stone_20 : decode MTo_stone.2.2.1 20 = .ok (.getfield 18, 3) := by decide +kernel
theorem d_MTo_stone_23 : decode MTo_stone.2.2.1 23 = .ok (.aload_n 0, 1) := by decide +kernel
theorem d_MTo_stone_24 : decode MTo_stone.2.2.1 24 = .ok (.getfield 84, 3) := by decide +kernel
theorem d_MTo_stone_27 : decode MTo_stone.2.2.1 27 = .ok (.aaload, 1) := by decide +kernel
theorem d_MTo_stone_28 : decode MTo_stone.2.2.1 28 = .ok (.ifnonnull 6, 3) := by decide +kernel
theorem d_MTo_stone_31 : decode MTo_stone.2.2.1 31 = .ok (.bipush (-3), 2) := by decide +kernel
theorem d_MTo_stone_33 : decode MTo_stone.2.2.1 33 = .ok (.ireturn, 1) := by decide +kernel
theorem d_MTo_stone_34 : decode MTo_stone.2.2.1 34 = .ok (.aload_n 0, 1) := by decide +kernel
theorem d_MTo_stone_35 : decode MTo_stone.2.2.1 35 = .ok (.getfield 10, 3) := by decide +kernel
theorem d_MTo_stone_38 : decode MTo_stone.2.2.1 38 = .ok (.invokevirtual 87, 3) := by decide +kernel
theorem d_MTo_stone_41 : decode MTo_stone.2.2.1 41 = .ok (.bipush (-100), 2) := by decide +kernel
theorem d_MTo_stone_43 : decode MTo_stone.2.2.1 43 = .ok (.istore_n 1, 1) := by decide +kernel
theorem d_MTo_stone_44 : decode MTo_stone.2.2.1 44 = .ok (.aload_n 0, 1) := by decide +kernel
theorem d_MTo_stone_45 : decode MTo_stone.2.2.1 45 = .ok (.getfield 18, 3) := by decide +kernel
theorem d_MTo_stone_48 : decode MTo_stone.2.2.1 48 = .ok (.aload_n 0, 1) := by decide +kernel
theorem d_MTo_stone_49 : decode MTo_stone.2.2.1 49 = .ok (.getfield 84, 3) := by decide +kernel
theorem d_MTo_stone_52 : decode MTo_stone.2.2.1 52 = .ok (.aaload, 1) := by decide +kernel
theorem d_MTo_stone_53 : decode MTo_stone.2.2.1 53 = .ok (.aload_n 0, 1) := by decide +kernel
theorem d_MTo_stone_54 : decode MTo_stone.2.2.1 54 = .ok (.getfield 10, 3) := by decide +kernel
theorem d_MTo_stone_57 : decode MTo_stone.2.2.1 57 = .ok (.invokevirtual 90, 3) := by decide +kernel
theorem d_MTo_stone_60 : decode MTo_stone.2.2.1 60 = .ok (.ifCond .eq 21, 3) := by decide +kernel
theorem d_MTo_stone_63 : decode MTo_stone.2.2.1 63 = .ok (.aload_n 0, 1) := by decide +kernel
theorem d_MTo_stone_64 : decode MTo_stone.2.2.1 64 = .ok (.getfield 84, 3) := by decide +kernel
theorem d_MTo_stone_67 : decode MTo_stone.2.2.1 67 = .ok (.istore_n 1, 1) := by decide +kernel
theorem d_MTo_stone_68 : decode MTo_stone.2.2.1 68 = .ok (.aload_n 0, 1) := by decide +kernel
theorem d_MTo_stone_69 : decode MTo_stone.2.2.1 69 = .ok (.dup, 1) := by decide +kernel
theorem d_MTo_stone_70 : decode MTo_stone.2.2.1 70 = .ok (.getfield 84, 3) := by decide +kernel
theorem d_MTo_stone_73 : decode MTo_stone.2.2.1 73 = .ok (.iconst 1, 1) := by decide +kernel
theorem d_MTo_stone_74 : decode MTo_stone.2.2.1 74 = .ok (.iadd, 1) := by decide +kernel
theorem d_MTo_stone_75 : decode MTo_stone.2.2.1 75 = .ok (.putfield 84, 3) := by decide +kernel
theorem d_MTo_stone_78 : decode MTo_stone.2.2.1 78 = .ok (.goto 13, 3) := by decide +kernel
theorem d_MTo_stone_81 : decode MTo_stone.2.2.1 81 = .ok (.iload_n 1, 1) := by decide +kernel
theorem d_MTo_stone_82 : decode MTo_stone.2.2.1 82 = .ok (.aload_n 0, 1) := by decide +kernel
theorem d_MTo_stone_83 : decode MTo_stone.2.2.1 83 = .ok (.getfield 10, 3) := by decide +kernel
theorem d_MTo_stone_86 : decode MTo_stone.2.2.1 86 = .ok (.getfield 94, 3) := by decide +kernel
theorem d_MTo_stone_89 : decode MTo_stone.2.2.1 89 = .ok (.isub, 1) := by decide +kernel
theorem d_MTo_stone_90 : decode MTo_stone.2.2.1 90 = .ok (.istore_n 1, 1) := by decide +kernel
theorem d_MTo_stone_91 : decode MTo_stone.2.2.1 91 = .ok (.aload_n 0, 1) := by decide +kernel
theorem d_MTo_stone_92 : decode MTo_stone.2.2.1 92 = .ok (.getfield 10, 3) := by decide +kernel
theorem d_MTo_stone_95 : decode MTo_stone.2.2.1 95 = .ok (.invokevirtual 97, 3) := by decide +kernel
theorem d_MTo_stone_98 : decode MTo_stone.2.2.1 98 = .ok (.iload_n 1, 1) := by decide +kernel
theorem d_MTo_stone_99 : decode MTo_stone.2.2.1 99 = .ok (.ireturn, 1) := by decide +kernel
theorem r_MTo_stone_0 {l1 : Value} {x : Nat} : Rr X d MTo_stone 0 [.ref x, l1] st h = Rr X d MTo_stone 1 [.ref x, l1] (.ref x :: st) h := Rr_nx d_MTo_stone_0 rfl
theorem r_MTo_stone_1 {a : Nat} (hq : qI a 9 9 = true) : Rr X d MTo_stone 1 L (.ref a :: st) (Wd mu la ro et) = Rr X d MTo_stone 4 L (.int (mu a 9) :: st) (Wd mu la ro et) := R_gfI d_MTo_stone_1 ff_9_84 hq
theorem r_MTo_stone_4 {x : Int32} : Rr X d MTo_stone 4 L (.int x :: st) h = if x < 0 then Rr X d MTo_stone 31 L st h else Rr X d MTo_stone 7 L st h := R_if_lt d_MTo_stone_4 (by decide)
theorem r_MTo_stone_7 {l1 : Value} {x : Nat} : Rr X d MTo_stone 7 [.ref x, l1] st h = Rr X d MTo_stone 8 [.ref x, l1] (.ref x :: st) h := Rr_nx d_MTo_stone_7 rfl
theorem r_MTo_stone_8 {a : Nat} (hq : qI a 9 9 = true) : Rr X d MTo_stone 8 L (.ref a :: st) (Wd mu la ro et) = Rr X d MTo_stone 11 L (.int (mu a 9) :: st) (Wd mu la ro et) := R_gfI d_MTo_stone_8 ff_9_84 hq
theorem r_MTo_stone_11 {l1 : Value} {x : Nat} : Rr X d MTo_stone 11 [.ref x, l1] st h = Rr X d MTo_stone 12 [.ref x, l1] (.ref x :: st) h := Rr_nx d_MTo_stone_11 rfl
theorem r_MTo_stone_12 {a : Nat} (hq : (qR a 9 1).isSome = true) : Rr X d MTo_stone 12 L (.ref a :: st) (Wd mu la ro et) = Rr X d MTo_stone 15 L (.ref (qRd a 9 1) :: st) (Wd mu la ro et) := R_gfR d_MTo_stone_12 ff_9_18 hq
theorem r_MTo_stone_15 {a : Nat} (hq : (qL a).isSome = true) : Rr X d MTo_stone 15 L (.ref a :: st) (Wd mu la ro et) = Rr X d MTo_stone 16 L (.int (Int32.ofNat (qLd a)) :: st) (Wd mu la ro et) := R_lenW d_MTo_stone_15 hq
theorem r_MTo_stone_16 {x y : Int32} : Rr X d MTo_stone 16 L (.int y :: .int x :: st) h = if y ≤ x then Rr X d MTo_stone 31 L st h else Rr X d MTo_stone 19 L st h := R_ic_ge d_MTo_stone_16 (by decide)
theorem r_MTo_stone_19 {l1 : Value} {x : Nat} : Rr X d MTo_stone 19 [.ref x, l1] st h = Rr X d MTo_stone 20 [.ref x, l1] (.ref x :: st) h := Rr_nx d_MTo_stone_19 rfl
theorem r_MTo_stone_20 {a : Nat} (hq : (qR a 9 1).isSome = true) : Rr X d MTo_stone 20 L (.ref a :: st) (Wd mu la ro et) = Rr X d MTo_stone 23 L (.ref (qRd a 9 1) :: st) (Wd mu la ro et) := R_gfR d_MTo_stone_20 ff_9_18 hq
theorem r_MTo_stone_23 {l1 : Value} {x : Nat} : Rr X d MTo_stone 23 [.ref x, l1] st h = Rr X d MTo_stone 24 [.ref x, l1] (.ref x :: st) h := Rr_nx d_MTo_stone_23 rfl
theorem r_MTo_stone_24 {a : Nat} (hq : qI a 9 9 = true) : Rr X d MTo_stone 24 L (.ref a :: st) (Wd mu la ro et) = Rr X d MTo_stone 27 L (.int (mu a 9) :: st) (Wd mu la ro et) := R_gfI d_MTo_stone_24 ff_9_84 hq
theorem r_MTo_stone_27 {a : Nat} {j : Int32} (hq : (qQ a).isSome = true) : Rr X d MTo_stone 27 L (.int j :: .ref a :: st) (Wd mu la ro et) = if j < 0 ∨ qQd a ≤ j.toNatClampNeg then none else Rr X d MTo_stone 28 L (va_rf (ro a j.toNatClampNeg) :: st) (Wd mu la ro et) := R_aalW d_MTo_stone_27 hq
theorem r_MTo_stone_28 {x : Nat} : Rr X d MTo_stone 28 L (.ref x :: st) h = Rr X d MTo_stone 34 L st h := R_nnl1 d_MTo_stone_28 (by decide)
theorem r_MTo_stone_28n : Rr X d MTo_stone 28 L (.null :: st) h = Rr X d MTo_stone 31 L st h := R_nnl0 d_MTo_stone_28
theorem r_MTo_stone_31 : Rr X d MTo_stone 31 L st h = Rr X d MTo_stone 33 L (.int (-3) :: st) h := Rr_nx d_MTo_stone_31 rfl
theorem r_MTo_stone_33 {x : Int32} : Rr X d MTo_stone 33 L [.int x] h = some (some (.int x), h) := R_ir d_MTo_stone_33 rfl
theorem r_MTo_stone_34 {l1 : Value} {x : Nat} : Rr X d MTo_stone 34 [.ref x, l1] st h = Rr X d MTo_stone 35 [.ref x, l1] (.ref x :: st) h := Rr_nx d_MTo_stone_34 rfl
theorem r_MTo_stone_35 {a : Nat} (hq : (qR a 9 0).isSome = true) : Rr X d MTo_stone 35 L (.ref a :: st) (Wd mu la ro et) = Rr X d MTo_stone 38 L (.ref (qRd a 9 0) :: st) (Wd mu la ro et) := R_gfR d_MTo_stone_35 ff_9_10 hq
theorem fc_9_87 : fC 9 87 = some (0, 8, 0, MTa_rewind) := rfl
theorem r_MTo_stone_38 {a : Nat} (hO : qO a 8 = true) (hc : ckS st = true) : Rr X (d + 1) MTo_stone 38 L (.ref a :: st) (Wd mu la ro et) = (Rr X d MTa_rewind 0 [.ref a] [] (Wd mu la ro et)).bind fun q => Rr X (d + 1) MTo_stone 41 L (psh q.1 st) q.2 := R_iv (av := []) d_MTo_stone_38 fc_9_87 hO (ckS_le hc) rfl (Nat.le_of_ble_eq_true rfl) (Nat.le_of_ble_eq_true rfl)
theorem r_MTo_stone_41 : Rr X d MTo_stone 41 L st h = Rr X d MTo_stone 43 L (.int (-100) :: st) h := Rr_nx d_MTo_stone_41 rfl
theorem r_MTo_stone_43 {l0 l1 : Value} {x : Int32} : Rr X d MTo_stone 43 [l0, l1] (.int x :: st) h = Rr X d MTo_stone 44 (sL [l0, l1] 1 (.int x)) st h := Rr_nx d_MTo_stone_43 rfl
theorem r_MTo_stone_44 {l1 : Value} {x : Nat} : Rr X d MTo_stone 44 [.ref x, l1] st h = Rr X d MTo_stone 45 [.ref x, l1] (.ref x :: st) h := Rr_nx d_MTo_stone_44 rfl
theorem r_MTo_stone_45 {a : Nat} (hq : (qR a 9 1).isSome = true) : Rr X d MTo_stone 45 L (.ref a :: st) (Wd mu la ro et) = Rr X d MTo_stone 48 L (.ref (qRd a 9 1) :: st) (Wd mu la ro et) := R_gfR d_MTo_stone_45 ff_9_18 hq
theorem r_MTo_stone_48 {l1 : Value} {x : Nat} : Rr X d MTo_stone 48 [.ref x, l1] st h = Rr X d MTo_stone 49 [.ref x, l1] (.ref x :: st) h := Rr_nx d_MTo_stone_48 rfl
theorem r_MTo_stone_49 {a : Nat} (hq : qI a 9 9 = true) : Rr X d MTo_stone 49 L (.ref a :: st) (Wd mu la ro et) = Rr X d MTo_stone 52 L (.int (mu a 9) :: st) (Wd mu la ro et) := R_gfI d_MTo_stone_49 ff_9_84 hq
theorem r_MTo_stone_52 {a : Nat} {j : Int32} (hq : (qQ a).isSome = true) : Rr X d MTo_stone 52 L (.int j :: .ref a :: st) (Wd mu la ro et) = if j < 0 ∨ qQd a ≤ j.toNatClampNeg then none else Rr X d MTo_stone 53 L (va_rf (ro a j.toNatClampNeg) :: st) (Wd mu la ro et) := R_aalW d_MTo_stone_52 hq
theorem r_MTo_stone_53 {l1 : Value} {x : Nat} : Rr X d MTo_stone 53 [.ref x, l1] st h = Rr X d MTo_stone 54 [.ref x, l1] (.ref x :: st) h := Rr_nx d_MTo_stone_53 rfl
theorem r_MTo_stone_54 {a : Nat} (hq : (qR a 9 0).isSome = true) : Rr X d MTo_stone 54 L (.ref a :: st) (Wd mu la ro et) = Rr X d MTo_stone 57 L (.ref (qRd a 9 0) :: st) (Wd mu la ro et) := R_gfR d_MTo_stone_54 ff_9_10 hq
theorem fc_9_90 : fC 9 90 = some (0, 7, 1, MSt_readFrom) := rfl
theorem r_MTo_stone_57 {y0 : Nat} {a : Nat} (hO : qO a 7 = true) (hc : ckS st = true) : Rr X (d + 1) MTo_stone 57 L (.ref y0 :: .ref a :: st) (Wd mu la ro et) = (Rr X d MSt_readFrom 0 [.ref a, .ref y0, mkU, mkU, mkU] [] (Wd mu la ro et)).bind fun q => Rr X (d + 1) MTo_stone 60 L (psh q.1 st) q.2 := R_iv (av := [.ref y0]) d_MTo_stone_57 fc_9_90 hO (ckS_le hc) rfl (Nat.le_of_ble_eq_true rfl) (Nat.le_of_ble_eq_true rfl)
theorem r_MTo_stone_60 {x : Int32} : Rr X d MTo_stone 60 L (.int x :: st) h = if x = 0 then Rr X d MTo_stone 81 L st h else Rr X d MTo_stone 63 L st h := R_if_eq d_MTo_stone_60 (by decide)
theorem r_MTo_stone_63 {l1 : Value} {x : Nat} : Rr X d MTo_stone 63 [.ref x, l1] st h = Rr X d MTo_stone 64 [.ref x, l1] (.ref x :: st) h := Rr_nx d_MTo_stone_63 rfl
theorem r_MTo_stone_64 {a : Nat} (hq : qI a 9 9 = true) : Rr X d MTo_stone 64 L (.ref a :: st) (Wd mu la ro et) = Rr X d MTo_stone 67 L (.int (mu a 9) :: st) (Wd mu la ro et) := R_gfI d_MTo_stone_64 ff_9_84 hq
theorem r_MTo_stone_67 {l0 l1 : Value} {x : Int32} : Rr X d MTo_stone 67 [l0, l1] (.int x :: st) h = Rr X d MTo_stone 68 (sL [l0, l1] 1 (.int x)) st h := Rr_nx d_MTo_stone_67 rfl
theorem r_MTo_stone_68 {l1 : Value} {x : Nat} : Rr X d MTo_stone 68 [.ref x, l1] st h = Rr X d MTo_stone 69 [.ref x, l1] (.ref x :: st) h := Rr_nx d_MTo_stone_68 rfl
theorem r_MTo_stone_69 {x : Nat} : Rr X d MTo_stone 69 L (.ref x :: st) h = Rr X d MTo_stone 70 L (.ref x :: .ref x :: st) h := Rr_nx d_MTo_stone_69 rfl
theorem r_MTo_stone_69i {x : Int32} : Rr X d MTo_stone 69 L (.int x :: st) h = Rr X d MTo_stone 70 L (.int x :: .int x :: st) h := Rr_nx d_MTo_stone_69 rfl
theorem r_MTo_stone_70 {a : Nat} (hq : qI a 9 9 = true) : Rr X d MTo_stone 70 L (.ref a :: st) (Wd mu la ro et) = Rr X d MTo_stone 73 L (.int (mu a 9) :: st) (Wd mu la ro et) := R_gfI d_MTo_stone_70 ff_9_84 hq
theorem r_MTo_stone_73 : Rr X d MTo_stone 73 L st h = Rr X d MTo_stone 74 L (.int (1) :: st) h := Rr_nx d_MTo_stone_73 rfl
theorem r_MTo_stone_74 {x y : Int32} : Rr X d MTo_stone 74 L (.int y :: .int x :: st) h = Rr X d MTo_stone 75 L (.int (x + y) :: st) h := Rr_nx d_MTo_stone_74 rfl
theorem r_MTo_stone_75 {a : Nat} {x : Int32} (hq : qI a 9 9 = true) : Rr X d MTo_stone 75 L (.int x :: .ref a :: st) (Wd mu la ro et) = Rr X d MTo_stone 78 L st (Wd (up2 mu a 9 x) la ro et) := R_pfI d_MTo_stone_75 ff_9_84 hq
theorem r_MTo_stone_78 : Rr X d MTo_stone 78 L st h = Rr X d MTo_stone 91 L st h := R_goto d_MTo_stone_78 (by decide)
theorem r_MTo_stone_81 {l0 : Value} {x : Int32} : Rr X d MTo_stone 81 [l0, .int x] st h = Rr X d MTo_stone 82 [l0, .int x] (.int x :: st) h := Rr_nx d_MTo_stone_81 rfl
theorem r_MTo_stone_82 {l1 : Value} {x : Nat} : Rr X d MTo_stone 82 [.ref x, l1] st h = Rr X d MTo_stone 83 [.ref x, l1] (.ref x :: st) h := Rr_nx d_MTo_stone_82 rfl
theorem r_MTo_stone_83 {a : Nat} (hq : (qR a 9 0).isSome = true) : Rr X d MTo_stone 83 L (.ref a :: st) (Wd mu la ro et) = Rr X d MTo_stone 86 L (.ref (qRd a 9 0) :: st) (Wd mu la ro et) := R_gfR d_MTo_stone_83 ff_9_10 hq
theorem ff_9_94 : fF 9 94 = some (8, 2, 0, 0) := rfl
theorem r_MTo_stone_86 {a : Nat} (hq : qI a 8 2 = true) : Rr X d MTo_stone 86 L (.ref a :: st) (Wd mu la ro et) = Rr X d MTo_stone 89 L (.int (mu a 2) :: st) (Wd mu la ro et) := R_gfI d_MTo_stone_86 ff_9_94 hq
theorem r_MTo_stone_89 {x y : Int32} : Rr X d MTo_stone 89 L (.int y :: .int x :: st) h = Rr X d MTo_stone 90 L (.int (x - y) :: st) h := Rr_nx d_MTo_stone_89 rfl
theorem r_MTo_stone_90 {l0 l1 : Value} {x : Int32} : Rr X d MTo_stone 90 [l0, l1] (.int x :: st) h = Rr X d MTo_stone 91 (sL [l0, l1] 1 (.int x)) st h := Rr_nx d_MTo_stone_90 rfl
theorem r_MTo_stone_91 {l1 : Value} {x : Nat} : Rr X d MTo_stone 91 [.ref x, l1] st h = Rr X d MTo_stone 92 [.ref x, l1] (.ref x :: st) h := Rr_nx d_MTo_stone_91 rfl
theorem r_MTo_stone_92 {a : Nat} (hq : (qR a 9 0).isSome = true) : Rr X d MTo_stone 92 L (.ref a :: st) (Wd mu la ro et) = Rr X d MTo_stone 95 L (.ref (qRd a 9 0) :: st) (Wd mu la ro et) := R_gfR d_MTo_stone_92 ff_9_10 hq
theorem fc_9_97 : fC 9 97 = some (0, 8, 0, MTa_clear) := rfl
theorem r_MTo_stone_95 {a : Nat} (hO : qO a 8 = true) (hc : ckS st = true) : Rr X (d + 1) MTo_stone 95 L (.ref a :: st) (Wd mu la ro et) = (Rr X d MTa_clear 0 [.ref a] [] (Wd mu la ro et)).bind fun q => Rr X (d + 1) MTo_stone 98 L (psh q.1 st) q.2 := R_iv (av := []) d_MTo_stone_95 fc_9_97 hO (ckS_le hc) rfl (Nat.le_of_ble_eq_true rfl) (Nat.le_of_ble_eq_true rfl)
theorem r_MTo_stone_98 {l0 : Value} {x : Int32} : Rr X d MTo_stone 98 [l0, .int x] st h = Rr X d MTo_stone 99 [l0, .int x] (.int x :: st) h := Rr_nx d_MTo_stone_98 rfl
theorem r_MTo_stone_99 {x : Int32} : Rr X d MTo_stone 99 L [.int x] h = some (some (.int x), h) := R_ir d_MTo_stone_99 rfl
theorem d_MTo_of_0 : decode MTo_of.2.2.1 0 = .ok (.aload_n 0, 1) := by decide +kernel
theorem d_MTo_of_1 : decode MTo_of.2.2.1 1 = .ok (.iload_n 1, 1) := by decide +kernel
theorem d_MTo_of_2 : decode MTo_of.2.2.1 2 = .ok (.invokevirtual 100, 3) := by decide +kernel
theorem d_MTo_of_5 : decode MTo_of.2.2.1 5 = .ok (.astore_n 3, 1) := by decide +kernel
theorem d_MTo_of_6 : decode MTo_of.2.2.1 6 = .ok (.aload_n 3, 1) := by decide +kernel
theorem d_MTo_of_7 : decode MTo_of.2.2.1 7 = .ok (.ifnull 13, 3) := by decide +kernel
theorem d_MTo_of_10 : decode MTo_of.2.2.1 10 = .ok (.iload_n 2, 1) := by decide +kernel
theorem d_MTo_of_11 : decode MTo_of.2.2.1 11 = .ok (.iconst 0, 1) := by decide +kernel
theorem d_MTo_of_12 : decode MTo_of.2.2.1 12 = .ok (.bipush 9, 2) := by decide +kernel
theorem d_MTo_of_14 : decode MTo_of.2.2.1 14 = .ok (.invokestatic 72, 3) := by decide +kernel
theorem d_MTo_of_17 : decode MTo_of.2.2.1 17 = .ok (.ifCond .ne 8, 3) := by decide +kernel
theorem d_MTo_of_20 : decode MTo_of.2.2.1 20 = .ok (.ldc 104, 2) := by decide +kernel
theorem d_MTo_of_22 : decode MTo_of.2.2.1 22 = .ok (.goto 8, 3) := by decide +kernel
theorem d_MTo_of_25 : decode MTo_of.2.2.1 25 = .ok (.aload_n 3, 1) := by decide +kernel
theorem d_MTo_of_26 : decode MTo_of.2.2.1 26 = .ok (.iload_n 2, 1) := by decide +kernel
theorem d_MTo_of_27 : decode MTo_of.2.2.1 27 = .ok (.invokevirtual 105, 3) := by decide +kernel
theorem d_MTo_of_30 : decode MTo_of.2.2.1 30 = .ok (.ireturn, 1) := by decide +kernel
theorem r_MTo_of_0 {l1 l2 l3 : Value} {x : Nat} : Rr X d MTo_of 0 [.ref x, l1, l2, l3] st h = Rr X d MTo_of 1 [.ref x, l1, l2, l3] (.ref x :: st) h := Rr_nx d_MTo_of_0 rfl
theorem r_MTo_of_1 {l0 l2 l3 : Value} {x : Int32} : Rr X d MTo_of 1 [l0, .int x, l2, l3] st h = Rr X d MTo_of 2 [l0, .int x, l2, l3] (.int x :: st) h := Rr_nx d_MTo_of_1 rfl
theorem r_MTo_of_2 {y0 : Int32} {a : Nat} (hO : qO a 9 = true) (hc : ckS st = true) : Rr X (d + 1) MTo_of 2 L (.int y0 :: .ref a :: st) (Wd mu la ro et) = (Rr X d MTo_stoneAt 0 [.ref a, .int y0] [] (Wd mu la ro et)).bind fun q => Rr X (d + 1) MTo_of 5 L (psh q.1 st) q.2 := R_iv (av := [.int y0]) d_MTo_of_2 fc_9_100 hO (ckS_le hc) rfl (Nat.le_of_ble_eq_true rfl) (Nat.le_of_ble_eq_true rfl)
theorem r_MTo_of_5 {l0 l1 l2 l3 : Value} {x : Nat} : Rr X d MTo_of 5 [l0, l1, l2, l3] (.ref x :: st) h = Rr X d MTo_of 6 (sL [l0, l1, l2, l3] 3 (.ref x)) st h := Rr_nx d_MTo_of_5 rfl
theorem r_MTo_of_5n {l0 l1 l2 l3 : Value} : Rr X d MTo_of 5 [l0, l1, l2, l3] (.null :: st) h = Rr X d MTo_of 6 (sL [l0, l1, l2, l3] 3 .null) st h := Rr_nx d_MTo_of_5 rfl
theorem r_MTo_of_6 {l0 l1 l2 : Value} {x : Nat} : Rr X d MTo_of 6 [l0, l1, l2, .ref x] st h = Rr X d MTo_of 7 [l0, l1, l2, .ref x] (.ref x :: st) h := Rr_nx d_MTo_of_6 rfl
theorem r_MTo_of_6n {l0 l1 l2 : Value} : Rr X d MTo_of 6 [l0, l1, l2, .null] st h = Rr X d MTo_of 7 [l0, l1, l2, .null] (.null :: st) h := Rr_nx d_MTo_of_6 rfl
theorem r_MTo_of_7 {x : Nat} : Rr X d MTo_of 7 L (.ref x :: st) h = Rr X d MTo_of 10 L st h := R_nul1 d_MTo_of_7
theorem r_MTo_of_7n : Rr X d MTo_of 7 L (.null :: st) h = Rr X d MTo_of 20 L st h := R_nul0 d_MTo_of_7 (by decide)
theorem r_MTo_of_10 {l0 l1 l3 : Value} {x : Int32} : Rr X d MTo_of 10 [l0, l1, .int x, l3] st h = Rr X d MTo_of 11 [l0, l1, .int x, l3] (.int x :: st) h := Rr_nx d_MTo_of_10 rfl
theorem r_MTo_of_11 : Rr X d MTo_of 11 L st h = Rr X d MTo_of 12 L (.int (0) :: st) h := Rr_nx d_MTo_of_11 rfl
theorem r_MTo_of_12 : Rr X d MTo_of 12 L st h = Rr X d MTo_of 14 L (.int (9) :: st) h := Rr_nx d_MTo_of_12 rfl
theorem r_MTo_of_14 {y0 : Int32} {y1 : Int32} {y2 : Int32} (hc : ckS st = true) : Rr X (d + 1) MTo_of 14 L (.int y2 :: .int y1 :: .int y0 :: st) h = (Rr X d MTo_isWithin 0 [.int y0, .int y1, .int y2] [] h).bind fun q => Rr X (d + 1) MTo_of 17 L (psh q.1 st) q.2 := R_is (av := [.int y2, .int y1, .int y0]) d_MTo_of_14 (Or.inl fc_9_72) (ckS_le hc) rfl (Nat.le_of_ble_eq_true rfl) (Nat.le_of_ble_eq_true rfl)
theorem r_MTo_of_17 {x : Int32} : Rr X d MTo_of 17 L (.int x :: st) h = if ¬ x = 0 then Rr X d MTo_of 25 L st h else Rr X d MTo_of 20 L st h := R_if_ne d_MTo_of_17 (by decide)
theorem r_MTo_of_20 : Rr X d MTo_of 20 L st h = Rr X d MTo_of 22 L (.int (-2000000000) :: st) h := Rr_nx d_MTo_of_20 rfl
theorem r_MTo_of_22 : Rr X d MTo_of 22 L st h = Rr X d MTo_of 30 L st h := R_goto d_MTo_of_22 (by decide)
theorem r_MTo_of_25 {l0 l1 l2 : Value} {x : Nat} : Rr X d MTo_of 25 [l0, l1, l2, .ref x] st h = Rr X d MTo_of 26 [l0, l1, l2, .ref x] (.ref x :: st) h := Rr_nx d_MTo_of_25 rfl
theorem r_MTo_of_25n {l0 l1 l2 : Value} : Rr X d MTo_of 25 [l0, l1, l2, .null] st h = Rr X d MTo_of 26 [l0, l1, l2, .null] (.null :: st) h := Rr_nx d_MTo_of_25 rfl
theorem r_MTo_of_26 {l0 l1 l3 : Value} {x : Int32} : Rr X d MTo_of 26 [l0, l1, .int x, l3] st h = Rr X d MTo_of 27 [l0, l1, .int x, l3] (.int x :: st) h := Rr_nx d_MTo_of_26 rfl
theorem fc_9_105 : fC 9 105 = some (0, 7, 1, MSt_measure) := rfl
theorem r_MTo_of_27 {y0 : Int32} {a : Nat} (hO : qO a 7 = true) (hc : ckS st = true) : Rr X (d + 1) MTo_of 27 L (.int y0 :: .ref a :: st) (Wd mu la ro et) = (Rr X d MSt_measure 0 [.ref a, .int y0] [] (Wd mu la ro et)).bind fun q => Rr X (d + 1) MTo_of 30 L (psh q.1 st) q.2 := R_iv (av := [.int y0]) d_MTo_of_27 fc_9_105 hO (ckS_le hc) rfl (Nat.le_of_ble_eq_true rfl) (Nat.le_of_ble_eq_true rfl)
theorem r_MTo_of_30 {x : Int32} : Rr X d MTo_of 30 L [.int x] h = some (some (.int x), h) := R_ir d_MTo_of_30 rfl
theorem d_MTo_lump_0 : decode MTo_lump.2.2.1 0 = .ok (.aload_n 0, 1) := by decide +kernel
theorem d_MTo_lump_1 : decode MTo_lump.2.2.1 1 = .ok (.iload_n 1, 1) := by decide +kernel
theorem d_MTo_lump_2 : decode MTo_lump.2.2.1 2 = .ok (.invokevirtual 100, 3) := by decide +kernel
theorem d_MTo_lump_5 : decode MTo_lump.2.2.1 5 = .ok (.astore 4, 2) := by decide +kernel
theorem d_MTo_lump_7 : decode MTo_lump.2.2.1 7 = .ok (.aload 4, 2) := by decide +kernel
theorem d_MTo_lump_9 : decode MTo_lump.2.2.1 9 = .ok (.ifnull 27, 3) := by decide +kernel
theorem d_MTo_lump_12 : decode MTo_lump.2.2.1 12 = .ok (.iload_n 2, 1) := by decide +kernel
theorem d_MTo_lump_13 : decode MTo_lump.2.2.1 13 = .ok (.iconst 0, 1) := by decide +kernel
theorem d_MTo_lump_14 : decode MTo_lump.2.2.1 14 = .ok (.aload 4, 2) := by decide +kernel
theorem d_MTo_lump_16 : decode MTo_lump.2.2.1 16 = .ok (.getfield 109, 3) := by decide +kernel
theorem d_MTo_lump_19 : decode MTo_lump.2.2.1 19 = .ok (.iconst 1, 1) := by decide +kernel
theorem d_MTo_lump_20 : decode MTo_lump.2.2.1 20 = .ok (.isub, 1) := by decide +kernel
theorem d_MTo_lump_21 : decode MTo_lump.2.2.1 21 = .ok (.invokestatic 72, 3) := by decide +kernel
theorem d_MTo_lump_24 : decode MTo_lump.2.2.1 24 = .ok (.ifCond .eq 12, 3) := by decide +kernel
theorem d_MTo_lump_27 : decode MTo_lump.2.2.1 27 = .ok (.iload_n 3, 1) := by decide +kernel
theorem d_MTo_lump_28 : decode MTo_lump.2.2.1 28 = .ok (.iconst 0, 1) := by decide +kernel
theorem d_MTo_lump_29 : decode MTo_lump.2.2.1 29 = .ok (.iconst 2, 1) := by decide +kernel
theorem d_MTo_lump_30 : decode MTo_lump.2.2.1 30 = .ok (.invokestatic 72, 3) := by decide +kernel
theorem d_MTo_lump_33 : decode MTo_lump.2.2.1 33 = .ok (.ifCond .ne 6, 3) := by decide +kernel
theorem d_MTo_lump_36 : decode MTo_lump.2.2.1 36 = .ok (.ldc 104, 2) := by decide +kernel
theorem d_MTo_lump_38 : decode MTo_lump.2.2.1 38 = .ok (.ireturn, 1) := by decide +kernel
theorem d_MTo_lump_39 : decode MTo_lump.2.2.1 39 = .ok (.aload 4, 2) := by decide +kernel
theorem d_MTo_lump_41 : decode MTo_lump.2.2.1 41 = .ok (.iload_n 2, 1) := by decide +kernel
theorem d_MTo_lump_42 : decode MTo_lump.2.2.1 42 = .ok (.iload_n 3, 1) := by decide +kernel
theorem d_MTo_lump_43 : decode MTo_lump.2.2.1 43 = .ok (.invokevirtual 112, 3) := by decide +kernel
theorem d_MTo_lump_46 : decode MTo_lump.2.2.1 46 = .ok (.ireturn, 1) := by decide +kernel
theorem r_MTo_lump_0 {l1 l2 l3 l4 : Value} {x : Nat} : Rr X d MTo_lump 0 [.ref x, l1, l2, l3, l4] st h = Rr X d MTo_lump 1 [.ref x, l1, l2, l3, l4] (.ref x :: st) h := Rr_nx d_MTo_lump_0 rfl
theorem r_MTo_lump_1 {l0 l2 l3 l4 : Value} {x : Int32} : Rr X d MTo_lump 1 [l0, .int x, l2, l3, l4] st h = Rr X d MTo_lump 2 [l0, .int x, l2, l3, l4] (.int x :: st) h := Rr_nx d_MTo_lump_1 rfl
theorem r_MTo_lump_2 {y0 : Int32} {a : Nat} (hO : qO a 9 = true) (hc : ckS st = true) : Rr X (d + 1) MTo_lump 2 L (.int y0 :: .ref a :: st) (Wd mu la ro et) = (Rr X d MTo_stoneAt 0 [.ref a, .int y0] [] (Wd mu la ro et)).bind fun q => Rr X (d + 1) MTo_lump 5 L (psh q.1 st) q.2 := R_iv (av := [.int y0]) d_MTo_lump_2 fc_9_100 hO (ckS_le hc) rfl (Nat.le_of_ble_eq_true rfl) (Nat.le_of_ble_eq_true rfl)
theorem r_MTo_lump_5 {l0 l1 l2 l3 l4 : Value} {x : Nat} : Rr X d MTo_lump 5 [l0, l1, l2, l3, l4] (.ref x :: st) h = Rr X d MTo_lump 7 (sL [l0, l1, l2, l3, l4] 4 (.ref x)) st h := Rr_nx d_MTo_lump_5 rfl
theorem r_MTo_lump_5n {l0 l1 l2 l3 l4 : Value} : Rr X d MTo_lump 5 [l0, l1, l2, l3, l4] (.null :: st) h = Rr X d MTo_lump 7 (sL [l0, l1, l2, l3, l4] 4 .null) st h := Rr_nx d_MTo_lump_5 rfl
theorem r_MTo_lump_7 {l0 l1 l2 l3 : Value} {x : Nat} : Rr X d MTo_lump 7 [l0, l1, l2, l3, .ref x] st h = Rr X d MTo_lump 9 [l0, l1, l2, l3, .ref x] (.ref x :: st) h := Rr_nx d_MTo_lump_7 rfl
theorem r_MTo_lump_7n {l0 l1 l2 l3 : Value} : Rr X d MTo_lump 7 [l0, l1, l2, l3, .null] st h = Rr X d MTo_lump 9 [l0, l1, l2, l3, .null] (.null :: st) h := Rr_nx d_MTo_lump_7 rfl
theorem r_MTo_lump_9 {x : Nat} : Rr X d MTo_lump 9 L (.ref x :: st) h = Rr X d MTo_lump 12 L st h := R_nul1 d_MTo_lump_9
theorem r_MTo_lump_9n : Rr X d MTo_lump 9 L (.null :: st) h = Rr X d MTo_lump 36 L st h := R_nul0 d_MTo_lump_9 (by decide)
theorem r_MTo_lump_12 {l0 l1 l3 l4 : Value} {x : Int32} : Rr X d MTo_lump 12 [l0, l1, .int x, l3, l4] st h = Rr X d MTo_lump 13 [l0, l1, .int x, l3, l4] (.int x :: st) h := Rr_nx d_MTo_lump_12 rfl
theorem r_MTo_lump_13 : Rr X d MTo_lump 13 L st h = Rr X d MTo_lump 14 L (.int (0) :: st) h := Rr_nx d_MTo_lump_13 rfl
theorem r_MTo_lump_14 {l0 l1 l2 l3 : Value} {x : Nat} : Rr X d MTo_lump 14 [l0, l1, l2, l3, .ref x] st h = Rr X d MTo_lump 16 [l0, l1, l2, l3, .ref x] (.ref x :: st) h := Rr_nx d_MTo_lump_14 rfl
theorem r_MTo_lump_14n {l0 l1 l2 l3 : Value} : Rr X d MTo_lump 14 [l0, l1, l2, l3, .null] st h = Rr X d MTo_lump 16 [l0, l1, l2, l3, .null] (.null :: st) h := Rr_nx d_MTo_lump_14 rfl
theorem ff_9_109 : fF 9 109 = some (7, 4, 0, 0) := rfl
theorem r_MTo_lump_16 {a : Nat} (hq : qI a 7 4 = true) : Rr X d MTo_lump 16 L (.ref a :: st) (Wd mu la ro et) = Rr X d MTo_lump 19 L (.int (mu a 4) :: st) (Wd mu la ro et) := R_gfI d_MTo_lump_16 ff_9_109 hq
theorem r_MTo_lump_19 : Rr X d MTo_lump 19 L st h = Rr X d MTo_lump 20 L (.int (1) :: st) h := Rr_nx d_MTo_lump_19 rfl
theorem r_MTo_lump_20 {x y : Int32} : Rr X d MTo_lump 20 L (.int y :: .int x :: st) h = Rr X d MTo_lump 21 L (.int (x - y) :: st) h := Rr_nx d_MTo_lump_20 rfl
theorem r_MTo_lump_21 {y0 : Int32} {y1 : Int32} {y2 : Int32} (hc : ckS st = true) : Rr X (d + 1) MTo_lump 21 L (.int y2 :: .int y1 :: .int y0 :: st) h = (Rr X d MTo_isWithin 0 [.int y0, .int y1, .int y2] [] h).bind fun q => Rr X (d + 1) MTo_lump 24 L (psh q.1 st) q.2 := R_is (av := [.int y2, .int y1, .int y0]) d_MTo_lump_21 (Or.inl fc_9_72) (ckS_le hc) rfl (Nat.le_of_ble_eq_true rfl) (Nat.le_of_ble_eq_true rfl)
theorem r_MTo_lump_24 {x : Int32} : Rr X d MTo_lump 24 L (.int x :: st) h = if x = 0 then Rr X d MTo_lump 36 L st h else Rr X d MTo_lump 27 L st h := R_if_eq d_MTo_lump_24 (by decide)
theorem r_MTo_lump_27 {l0 l1 l2 l4 : Value} {x : Int32} : Rr X d MTo_lump 27 [l0, l1, l2, .int x, l4] st h = Rr X d MTo_lump 28 [l0, l1, l2, .int x, l4] (.int x :: st) h := Rr_nx d_MTo_lump_27 rfl
theorem r_MTo_lump_28 : Rr X d MTo_lump 28 L st h = Rr X d MTo_lump 29 L (.int (0) :: st) h := Rr_nx d_MTo_lump_28 rfl
theorem r_MTo_lump_29 : Rr X d MTo_lump 29 L st h = Rr X d MTo_lump 30 L (.int (2) :: st) h := Rr_nx d_MTo_lump_29 rfl
theorem r_MTo_lump_30 {y0 : Int32} {y1 : Int32} {y2 : Int32} (hc : ckS st = true) : Rr X (d + 1) MTo_lump 30 L (.int y2 :: .int y1 :: .int y0 :: st) h = (Rr X d MTo_isWithin 0 [.int y0, .int y1, .int y2] [] h).bind fun q => Rr X (d + 1) MTo_lump 33 L (psh q.1 st) q.2 := R_is (av := [.int y2, .int y1, .int y0]) d_MTo_lump_30 (Or.inl fc_9_72) (ckS_le hc) rfl (Nat.le_of_ble_eq_true rfl) (Nat.le_of_ble_eq_true rfl)
theorem r_MTo_lump_33 {x : Int32} : Rr X d MTo_lump 33 L (.int x :: st) h = if ¬ x = 0 then Rr X d MTo_lump 39 L st h else Rr X d MTo_lump 36 L st h := R_if_ne d_MTo_lump_33 (by decide)
theorem r_MTo_lump_36 : Rr X d MTo_lump 36 L st h = Rr X d MTo_lump 38 L (.int (-2000000000) :: st) h := Rr_nx d_MTo_lump_36 rfl
theorem r_MTo_lump_38 {x : Int32} : Rr X d MTo_lump 38 L [.int x] h = some (some (.int x), h) := R_ir d_MTo_lump_38 rfl
theorem r_MTo_lump_39 {l0 l1 l2 l3 : Value} {x : Nat} : Rr X d MTo_lump 39 [l0, l1, l2, l3, .ref x] st h = Rr X d MTo_lump 41 [l0, l1, l2, l3, .ref x] (.ref x :: st) h := Rr_nx d_MTo_lump_39 rfl
theorem r_MTo_lump_39n {l0 l1 l2 l3 : Value} : Rr X d MTo_lump 39 [l0, l1, l2, l3, .null] st h = Rr X d MTo_lump 41 [l0, l1, l2, l3, .null] (.null :: st) h := Rr_nx d_MTo_lump_39 rfl
theorem r_MTo_lump_41 {l0 l1 l3 l4 : Value} {x : Int32} : Rr X d MTo_lump 41 [l0, l1, .int x, l3, l4] st h = Rr X d MTo_lump 42 [l0, l1, .int x, l3, l4] (.int x :: st) h := Rr_nx d_MTo_lump_41 rfl
theorem r_MTo_lump_42 {l0 l1 l2 l4 : Value} {x : Int32} : Rr X d MTo_lump 42 [l0, l1, l2, .int x, l4] st h = Rr X d MTo_lump 43 [l0, l1, l2, .int x, l4] (.int x :: st) h := Rr_nx d_MTo_lump_42 rfl
theorem fc_9_112 : fC 9 112 = some (0, 7, 2, MSt_lumpPart) := rfl
theorem r_MTo_lump_43 {y0 : Int32} {y1 : Int32} {a : Nat} (hO : qO a 7 = true) (hc : ckS st = true) : Rr X (d + 1) MTo_lump 43 L (.int y1 :: .int y0 :: .ref a :: st) (Wd mu la ro et) = (Rr X d MSt_lumpPart 0 [.ref a, .int y0, .int y1] [] (Wd mu la ro et)).bind fun q => Rr X (d + 1) MTo_lump 46 L (psh q.1 st) q.2 := R_iv (av := [.int y1, .int y0]) d_MTo_lump_43 fc_9_112 hO (ckS_le hc) rfl (Nat.le_of_ble_eq_true rfl) (Nat.le_of_ble_eq_true rfl)
theorem r_MTo_lump_46 {x : Int32} : Rr X d MTo_lump 46 L [.int x] h = some (some (.int x), h) := R_ir d_MTo_lump_46 rfl
theorem d_MTo_set_0 : decode MTo_set.2.2.1 0 = .ok (.aload_n 0, 1) := by decide +kernel
theorem d_MTo_set_1 : decode MTo_set.2.2.1 1 = .ok (.iload_n 1, 1) := by decide +kernel
theorem d_MTo_set_2 : decode MTo_set.2.2.1 2 = .ok (.invokevirtual 100, 3) := by decide +kernel
theorem d_MTo_set_5 : decode MTo_set.2.2.1 5 = .ok (.astore 4, 2) := by decide +kernel
theorem d_MTo_set_7 : decode MTo_set.2.2.1 7 = .ok (.aload 4, 2) := by decide +kernel
theorem d_MTo_set_9 : decode MTo_set.2.2.1 9 = .ok (.ifnull 13, 3) := by decide +kernel
theorem d_MTo_set_12 : decode MTo_set.2.2.1 12 = .ok (.aload 4, 2) := by decide +kernel
theorem d_MTo_set_14 : decode MTo_set.2.2.1 14 = .ok (.iload_n 2, 1) := by decide +kernel
theorem d_MTo_set_15 : decode MTo_set.2.2.1 15 = .ok (.iload_n 3, 1) := by decide +kernel
theorem d_MTo_set_16 : decode MTo_set.2.2.1 16 = .ok (.invokevirtual 116, 3) := by decide +kernel
theorem d_MTo_set_19 : decode MTo_set.2.2.1 19 = .ok (.ifCond .ne 5, 3) := by decide +kernel
theorem d_MTo_set_22 : decode MTo_set.2.2.1 22 = .ok (.iconst (-1), 1) := by decide +kernel
theorem d_MTo_set_23 : decode MTo_set.2.2.1 23 = .ok (.ireturn, 1) := by decide +kernel
theorem d_MTo_set_24 : decode MTo_set.2.2.1 24 = .ok (.aload 4, 2) := by decide +kernel
theorem d_MTo_set_26 : decode MTo_set.2.2.1 26 = .ok (.iload_n 2, 1) := by decide +kernel
theorem d_MTo_set_27 : decode MTo_set.2.2.1 27 = .ok (.iload_n 3, 1) := by decide +kernel
theorem d_MTo_set_28 : decode MTo_set.2.2.1 28 = .ok (.invokevirtual 120, 3) := by decide +kernel
theorem d_MTo_set_31 : decode MTo_set.2.2.1 31 = .ok (.istore 5, 2) := by decide +kernel
theorem d_MTo_set_33 : decode MTo_set.2.2.1 33 = .ok (.iload 5, 2) := by decide +kernel
theorem d_MTo_set_35 : decode MTo_set.2.2.1 35 = .ok (.iload_n 3, 1) := by decide +kernel
theorem d_MTo_set_36 : decode MTo_set.2.2.1 36 = .ok (.if_icmp .eq 15, 3) := by decide +kernel
theorem d_MTo_set_39 : decode MTo_set.2.2.1 39 = .ok (.aload_n 0, 1) := by decide +kernel
theorem d_MTo_set_40 : decode MTo_set.2.2.1 40 = .ok (.getfield 58, 3) := by decide +kernel
theorem d_MTo_set_43 : decode MTo_set.2.2.1 43 = .ok (.iload_n 1, 1) := by decide +kernel
theorem d_MTo_set_44 : decode MTo_set.2.2.1 44 = .ok (.iload_n 2, 1) := by decide +kernel
theorem d_MTo_set_45 : decode MTo_set.2.2.1 45 = .ok (.iload 5, 2) := by decide +kernel
theorem d_MTo_set_47 : decode MTo_set.2.2.1 47 = .ok (.iload_n 3, 1) := by decide +kernel
theorem d_MTo_set_48 : decode MTo_set.2.2.1 48 = .ok (.invokevirtual 123, 3) := by decide +kernel
theorem d_MTo_set_51 : decode MTo_set.2.2.1 51 = .ok (.iload 5, 2) := by decide +kernel
theorem d_MTo_set_53 : decode MTo_set.2.2.1 53 = .ok (.ireturn, 1) := by decide +kernel
theorem r_MTo_set_0 {l1 l2 l3 l4 l5 : Value} {x : Nat} : Rr X d MTo_set 0 [.ref x, l1, l2, l3, l4, l5] st h = Rr X d MTo_set 1 [.ref x, l1, l2, l3, l4, l5] (.ref x :: st) h := Rr_nx d_MTo_set_0 rfl
theorem r_MTo_set_1 {l0 l2 l3 l4 l5 : Value} {x : Int32} : Rr X d MTo_set 1 [l0, .int x, l2, l3, l4, l5] st h = Rr X d MTo_set 2 [l0, .int x, l2, l3, l4, l5] (.int x :: st) h := Rr_nx d_MTo_set_1 rfl
theorem r_MTo_set_2 {y0 : Int32} {a : Nat} (hO : qO a 9 = true) (hc : ckS st = true) : Rr X (d + 1) MTo_set 2 L (.int y0 :: .ref a :: st) (Wd mu la ro et) = (Rr X d MTo_stoneAt 0 [.ref a, .int y0] [] (Wd mu la ro et)).bind fun q => Rr X (d + 1) MTo_set 5 L (psh q.1 st) q.2 := R_iv (av := [.int y0]) d_MTo_set_2 fc_9_100 hO (ckS_le hc) rfl (Nat.le_of_ble_eq_true rfl) (Nat.le_of_ble_eq_true rfl)
theorem r_MTo_set_5 {l0 l1 l2 l3 l4 l5 : Value} {x : Nat} : Rr X d MTo_set 5 [l0, l1, l2, l3, l4, l5] (.ref x :: st) h = Rr X d MTo_set 7 (sL [l0, l1, l2, l3, l4, l5] 4 (.ref x)) st h := Rr_nx d_MTo_set_5 rfl
theorem r_MTo_set_5n {l0 l1 l2 l3 l4 l5 : Value} : Rr X d MTo_set 5 [l0, l1, l2, l3, l4, l5] (.null :: st) h = Rr X d MTo_set 7 (sL [l0, l1, l2, l3, l4, l5] 4 .null) st h := Rr_nx d_MTo_set_5 rfl
theorem r_MTo_set_7 {l0 l1 l2 l3 l5 : Value} {x : Nat} : Rr X d MTo_set 7 [l0, l1, l2, l3, .ref x, l5] st h = Rr X d MTo_set 9 [l0, l1, l2, l3, .ref x, l5] (.ref x :: st) h := Rr_nx d_MTo_set_7 rfl
theorem r_MTo_set_7n {l0 l1 l2 l3 l5 : Value} : Rr X d MTo_set 7 [l0, l1, l2, l3, .null, l5] st h = Rr X d MTo_set 9 [l0, l1, l2, l3, .null, l5] (.null :: st) h := Rr_nx d_MTo_set_7 rfl
theorem r_MTo_set_9 {x : Nat} : Rr X d MTo_set 9 L (.ref x :: st) h = Rr X d MTo_set 12 L st h := R_nul1 d_MTo_set_9
theorem r_MTo_set_9n : Rr X d MTo_set 9 L (.null :: st) h = Rr X d MTo_set 22 L st h := R_nul0 d_MTo_set_9 (by decide)
theorem r_MTo_set_12 {l0 l1 l2 l3 l5 : Value} {x : Nat} : Rr X d MTo_set 12 [l0, l1, l2, l3, .ref x, l5] st h = Rr X d MTo_set 14 [l0, l1, l2, l3, .ref x, l5] (.ref x :: st) h := Rr_nx d_MTo_set_12 rfl
theorem r_MTo_set_12n {l0 l1 l2 l3 l5 : Value} : Rr X d MTo_set 12 [l0, l1, l2, l3, .null, l5] st h = Rr X d MTo_set 14 [l0, l1, l2, l3, .null, l5] (.null :: st) h := Rr_nx d_MTo_set_12 rfl
theorem r_MTo_set_14 {l0 l1 l3 l4 l5 : Value} {x : Int32} : Rr X d MTo_set 14 [l0, l1, .int x, l3, l4, l5] st h = Rr X d MTo_set 15 [l0, l1, .int x, l3, l4, l5] (.int x :: st) h := Rr_nx d_MTo_set_14 rfl
theorem r_MTo_set_15 {l0 l1 l2 l4 l5 : Value} {x : Int32} : Rr X d MTo_set 15 [l0, l1, l2, .int x, l4, l5] st h = Rr X d MTo_set 16 [l0, l1, l2, .int x, l4, l5] (.int x :: st) h := Rr_nx d_MTo_set_15 rfl
theorem fc_9_116 : fC 9 116 = some (0, 7, 2, MSt_mayBecome) := rfl
theorem r_MTo_set_16 {y0 : Int32} {y1 : Int32} {a : Nat} (hO : qO a 7 = true) (hc : ckS st = true) : Rr X (d + 1) MTo_set 16 L (.int y1 :: .int y0 :: .ref a :: st) (Wd mu la ro et) = (Rr X d MSt_mayBecome 0 [.ref a, .int y0, .int y1] [] (Wd mu la ro et)).bind fun q => Rr X (d + 1) MTo_set 19 L (psh q.1 st) q.2 := R_iv (av := [.int y1, .int y0]) d_MTo_set_16 fc_9_116 hO (ckS_le hc) rfl (Nat.le_of_ble_eq_true rfl) (Nat.le_of_ble_eq_true rfl)
theorem r_MTo_set_19 {x : Int32} : Rr X d MTo_set 19 L (.int x :: st) h = if ¬ x = 0 then Rr X d MTo_set 24 L st h else Rr X d MTo_set 22 L st h := R_if_ne d_MTo_set_19 (by decide)
theorem r_MTo_set_22 : Rr X d MTo_set 22 L st h = Rr X d MTo_set 23 L (.int (-1) :: st) h := Rr_nx d_MTo_set_22 rfl
theorem r_MTo_set_23 {x : Int32} : Rr X d MTo_set 23 L [.int x] h = some (some (.int x), h) := R_ir d_MTo_set_23 rfl
theorem r_MTo_set_24 {l0 l1 l2 l3 l5 : Value} {x : Nat} : Rr X d MTo_set 24 [l0, l1, l2, l3, .ref x, l5] st h = Rr X d MTo_set 26 [l0, l1, l2, l3, .ref x, l5] (.ref x :: st) h := Rr_nx d_MTo_set_24 rfl
theorem r_MTo_set_24n {l0 l1 l2 l3 l5 : Value} : Rr X d MTo_set 24 [l0, l1, l2, l3, .null, l5] st h = Rr X d MTo_set 26 [l0, l1, l2, l3, .null, l5] (.null :: st) h := Rr_nx d_MTo_set_24 rfl
theorem r_MTo_set_26 {l0 l1 l3 l4 l5 : Value} {x : Int32} : Rr X d MTo_set 26 [l0, l1, .int x, l3, l4, l5] st h = Rr X d MTo_set 27 [l0, l1, .int x, l3, l4, l5] (.int x :: st) h := Rr_nx d_MTo_set_26 rfl
theorem r_MTo_set_27 {l0 l1 l2 l4 l5 : Value} {x : Int32} : Rr X d MTo_set 27 [l0, l1, l2, .int x, l4, l5] st h = Rr X d MTo_set 28 [l0, l1, l2, .int x, l4, l5] (.int x :: st) h := Rr_nx d_MTo_set_27 rfl
theorem fc_9_120 : fC 9 120 = some (0, 7, 2, MSt_change) := rfl
theorem r_MTo_set_28 {y0 : Int32} {y1 : Int32} {a : Nat} (hO : qO a 7 = true) (hc : ckS st = true) : Rr X (d + 1) MTo_set 28 L (.int y1 :: .int y0 :: .ref a :: st) (Wd mu la ro et) = (Rr X d MSt_change 0 [.ref a, .int y0, .int y1, mkU, mkU] [] (Wd mu la ro et)).bind fun q => Rr X (d + 1) MTo_set 31 L (psh q.1 st) q.2 := R_iv (av := [.int y1, .int y0]) d_MTo_set_28 fc_9_120 hO (ckS_le hc) rfl (Nat.le_of_ble_eq_true rfl) (Nat.le_of_ble_eq_true rfl)
theorem r_MTo_set_31 {l0 l1 l2 l3 l4 l5 : Value} {x : Int32} : Rr X d MTo_set 31 [l0, l1, l2, l3, l4, l5] (.int x :: st) h = Rr X d MTo_set 33 (sL [l0, l1, l2, l3, l4, l5] 5 (.int x)) st h := Rr_nx d_MTo_set_31 rfl
theorem r_MTo_set_33 {l0 l1 l2 l3 l4 : Value} {x : Int32} : Rr X d MTo_set 33 [l0, l1, l2, l3, l4, .int x] st h = Rr X d MTo_set 35 [l0, l1, l2, l3, l4, .int x] (.int x :: st) h := Rr_nx d_MTo_set_33 rfl
theorem r_MTo_set_35 {l0 l1 l2 l4 l5 : Value} {x : Int32} : Rr X d MTo_set 35 [l0, l1, l2, .int x, l4, l5] st h = Rr X d MTo_set 36 [l0, l1, l2, .int x, l4, l5] (.int x :: st) h := Rr_nx d_MTo_set_35 rfl
theorem r_MTo_set_36 {x y : Int32} : Rr X d MTo_set 36 L (.int y :: .int x :: st) h = if x = y then Rr X d MTo_set 51 L st h else Rr X d MTo_set 39 L st h := R_ic_eq d_MTo_set_36 (by decide)
theorem r_MTo_set_39 {l1 l2 l3 l4 l5 : Value} {x : Nat} : Rr X d MTo_set 39 [.ref x, l1, l2, l3, l4, l5] st h = Rr X d MTo_set 40 [.ref x, l1, l2, l3, l4, l5] (.ref x :: st) h := Rr_nx d_MTo_set_39 rfl
theorem ff_9_58 : fF 9 58 = some (9, 7, 1, 1) := rfl
theorem r_MTo_set_40 {a : Nat} (hq : (qR a 9 7).isSome = true) : Rr X d MTo_set 40 L (.ref a :: st) (Wd mu la ro et) = Rr X d MTo_set 43 L (.ref (qRd a 9 7) :: st) (Wd mu la ro et) := R_gfR d_MTo_set_40 ff_9_58 hq
theorem r_MTo_set_43 {l0 l2 l3 l4 l5 : Value} {x : Int32} : Rr X d MTo_set 43 [l0, .int x, l2, l3, l4, l5] st h = Rr X d MTo_set 44 [l0, .int x, l2, l3, l4, l5] (.int x :: st) h := Rr_nx d_MTo_set_43 rfl
theorem r_MTo_set_44 {l0 l1 l3 l4 l5 : Value} {x : Int32} : Rr X d MTo_set 44 [l0, l1, .int x, l3, l4, l5] st h = Rr X d MTo_set 45 [l0, l1, .int x, l3, l4, l5] (.int x :: st) h := Rr_nx d_MTo_set_44 rfl
theorem r_MTo_set_45 {l0 l1 l2 l3 l4 : Value} {x : Int32} : Rr X d MTo_set 45 [l0, l1, l2, l3, l4, .int x] st h = Rr X d MTo_set 47 [l0, l1, l2, l3, l4, .int x] (.int x :: st) h := Rr_nx d_MTo_set_45 rfl
theorem r_MTo_set_47 {l0 l1 l2 l4 l5 : Value} {x : Int32} : Rr X d MTo_set 47 [l0, l1, l2, .int x, l4, l5] st h = Rr X d MTo_set 48 [l0, l1, l2, .int x, l4, l5] (.int x :: st) h := Rr_nx d_MTo_set_47 rfl
theorem fc_9_123 : fC 9 123 = some (0, 1, 4, MCh_note) := rfl
theorem r_MTo_set_48 {y0 : Int32} {y1 : Int32} {y2 : Int32} {y3 : Int32} {a : Nat} (hO : qO a 1 = true) (hc : ckS st = true) : Rr X (d + 1) MTo_set 48 L (.int y3 :: .int y2 :: .int y1 :: .int y0 :: .ref a :: st) (Wd mu la ro et) = (Rr X d MCh_note 0 [.ref a, .int y0, .int y1, .int y2, .int y3] [] (Wd mu la ro et)).bind fun q => Rr X (d + 1) MTo_set 51 L (psh q.1 st) q.2 := R_iv (av := [.int y3, .int y2, .int y1, .int y0]) d_MTo_set_48 fc_9_123 hO (ckS_le hc) rfl (Nat.le_of_ble_eq_true rfl) (Nat.le_of_ble_eq_true rfl)
theorem r_MTo_set_51 {l0 l1 l2 l3 l4 : Value} {x : Int32} : Rr X d MTo_set 51 [l0, l1, l2, l3, l4, .int x] st h = Rr X d MTo_set 53 [l0, l1, l2, l3, l4, .int x] (.int x :: st) h := Rr_nx d_MTo_set_51 rfl
theorem r_MTo_set_53 {x : Int32} : Rr X d MTo_set 53 L [.int x] h = some (some (.int x), h) := R_ir d_MTo_set_53 rfl
theorem d_MTo_floor_0 : decode MTo_floor.2.2.1 0 = .ok (.aload_n 0, 1) := by decide +kernel
theorem d_MTo_floor_1 : decode MTo_floor.2.2.1 1 = .ok (.getfield 127, 3) := by decide +kernel
theorem d_MTo_floor_4 : decode MTo_floor.2.2.1 4 = .ok (.ifCond .lt 27, 3) := by decide +kernel
theorem d_MTo_floor_7 : decode MTo_floor.2.2.1 7 = .ok (.aload_n 0, 1) := by decide +kernel
theorem d_MTo_floor_8 : decode MTo_floor.2.2.1 8 = .ok (.getfield 127, 3) := by decide +kernel
theorem d_MTo_floor_11 : decode MTo_floor.2.2.1 11 = .ok (.aload_n 0, 1) := by decide +kernel
theorem d_MTo_floor_12 : decode MTo_floor.2.2.1 12 = .ok (.getfield 24, 3) := by decide +kernel
theorem d_MTo_floor_15 : decode MTo_floor.2.2.1 15 = .ok (.arraylength, 1) := by decide +kernel
theorem d_MTo_floor_16 : decode MTo_floor.2.2.1 16 = .ok (.if_icmp .ge 15, 3) := by decide +kernel
theorem d_MTo_floor_19 : decode MTo_floor.2.2.1 19 = .ok (.aload_n 0, 1) := by decide +kernel
theorem d_MTo_floor_20 : decode MTo_floor.2.2.1 20 = .ok (.getfield 24, 3) := by decide +kernel
theorem d_MTo_floor_23 : decode MTo_floor.2.2.1 23 = .ok (.aload_n 0, 1) := by decide +kernel
theorem d_MTo_floor_24 : decode MTo_floor.2.2.1 24 = .ok (.getfield 127, 3) := by decide +kernel
theorem d_MTo_floor_27 : decode MTo_floor.2.2.1 27 = .ok (.aaload, 1) := by decide +kernel
theorem d_MTo_floor_28 : decode MTo_floor.2.2.1 28 = .ok (.ifnonnull 6, 3) := by decide +kernel
theorem d_MTo_floor_31 : decode MTo_floor.2.2.1 31 = .ok (.bipush (-3), 2) := by decide +kernel
theorem d_MTo_floor_33 : decode MTo_floor.2.2.1 33 = .ok (.ireturn, 1) := by decide +kernel
theorem d_MTo_floor_34 : decode MTo_floor.2.2.1 34 = .ok (.aload_n 0, 1) := by decide +kernel
theorem d_MTo_floor_35 : decode MTo_floor.2.2.1 35 = .ok (.getfield 10, 3) := by decide +kernel
theorem d_MTo_floor_38 : decode MTo_floor.2.2.1 38 = .ok (.invokevirtual 87, 3) := by decide +kernel
theorem d_MTo_floor_41 : decode MTo_floor.2.2.1 41 = .ok (.bipush (-100), 2) := by decide +kernel
theorem d_MTo_floor_43 : decode MTo_floor.2.2.1 43 = .ok (.istore_n 1, 1) := by decide +kernel
theorem d_MTo_floor_44 : decode MTo_floor.2.2.1 44 = .ok (.aload_n 0, 1) := by decide +kernel
theorem d_MTo_floor_45 : decode MTo_floor.2.2.1 45 = .ok (.getfield 24, 3) := by decide +kernel
theorem d_MTo_floor_48 : decode MTo_floor.2.2.1 48 = .ok (.aload_n 0, 1) := by decide +kernel
theorem d_MTo_floor_49 : decode MTo_floor.2.2.1 49 = .ok (.getfield 127, 3) := by decide +kernel
theorem d_MTo_floor_52 : decode MTo_floor.2.2.1 52 = .ok (.aaload, 1) := by decide +kernel
theorem d_MTo_floor_53 : decode MTo_floor.2.2.1 53 = .ok (.aload_n 0, 1) := by decide +kernel
theorem d_MTo_floor_54 : decode MTo_floor.2.2.1 54 = .ok (.getfield 10, 3) := by decide +kernel
theorem d_MTo_floor_57 : decode MTo_floor.2.2.1 57 = .ok (.invokevirtual 130, 3) := by decide +kernel
theorem d_MTo_floor_60 : decode MTo_floor.2.2.1 60 = .ok (.ifCond .eq 21, 3) := by decide +kernel
theorem d_MTo_floor_63 : decode MTo_floor.2.2.1 63 = .ok (.aload_n 0, 1) := by decide +kernel
theorem d_MTo_floor_64 : decode MTo_floor.2.2.1 64 = .ok (.getfield 127, 3) := by decide +kernel
theorem d_MTo_floor_67 : decode MTo_floor.2.2.1 67 = .ok (.istore_n 1, 1) := by decide +kernel
theorem d_MTo_floor_68 : decode MTo_floor.2.2.1 68 = .ok (.aload_n 0, 1) := by decide +kernel
theorem d_MTo_floor_69 : decode MTo_floor.2.2.1 69 = .ok (.dup, 1) := by decide +kernel
theorem d_MTo_floor_70 : decode MTo_floor.2.2.1 70 = .ok (.getfield 127, 3) := by decide +kernel
theorem d_MTo_floor_73 : decode MTo_floor.2.2.1 73 = .ok (.iconst 1, 1) := by decide +kernel
theorem d_MTo_floor_74 : decode MTo_floor.2.2.1 74 = .ok (.iadd, 1) := by decide +kernel
theorem d_MTo_floor_75 : decode MTo_floor.2.2.1 75 = .ok (.putfield 127, 3) := by decide +kernel
theorem d_MTo_floor_78 : decode MTo_floor.2.2.1 78 = .ok (.goto 13, 3) := by decide +kernel
theorem d_MTo_floor_81 : decode MTo_floor.2.2.1 81 = .ok (.iload_n 1, 1) := by decide +kernel
theorem d_MTo_floor_82 : decode MTo_floor.2.2.1 82 = .ok (.aload_n 0, 1) := by decide +kernel
theorem d_MTo_floor_83 : decode MTo_floor.2.2.1 83 = .ok (.getfield 10, 3) := by decide +kernel
theorem d_MTo_floor_86 : decode MTo_floor.2.2.1 86 = .ok (.getfield 94, 3) := by decide +kernel
theorem d_MTo_floor_89 : decode MTo_floor.2.2.1 89 = .ok (.isub, 1) := by decide +kernel
theorem d_MTo_floor_90 : decode MTo_floor.2.2.1 90 = .ok (.istore_n 1, 1) := by decide +kernel
theorem d_MTo_floor_91 : decode MTo_floor.2.2.1 91 = .ok (.aload_n 0, 1) := by decide +kernel
theorem d_MTo_floor_92 : decode MTo_floor.2.2.1 92 = .ok (.getfield 10, 3) := by decide +kernel
theorem d_MTo_floor_95 : decode MTo_floor.2.2.1 95 = .ok (.invokevirtual 97, 3) := by decide +kernel
theorem d_MTo_floor_98 : decode MTo_floor.2.2.1 98 = .ok (.iload_n 1, 1) := by decide +kernel
theorem d_MTo_floor_99 : decode MTo_floor.2.2.1 99 = .ok (.ireturn, 1) := by decide +kernel
theorem r_MTo_floor_0 {l1 : Value} {x : Nat} : Rr X d MTo_floor 0 [.ref x, l1] st h = Rr X d MTo_floor 1 [.ref x, l1] (.ref x :: st) h := Rr_nx d_MTo_floor_0 rfl
theorem r_MTo_floor_1 {a : Nat} (hq : qI a 9 10 = true) : Rr X d MTo_floor 1 L (.ref a :: st) (Wd mu la ro et) = Rr X d MTo_floor 4 L (.int (mu a 10) :: st) (Wd mu la ro et) := R_gfI d_MTo_floor_1 ff_9_127 hq
theorem r_MTo_floor_4 {x : Int32} : Rr X d MTo_floor 4 L (.int x :: st) h = if x < 0 then Rr X d MTo_floor 31 L st h else Rr X d MTo_floor 7 L st h := R_if_lt d_MTo_floor_4 (by decide)
theorem r_MTo_floor_7 {l1 : Value} {x : Nat} : Rr X d MTo_floor 7 [.ref x, l1] st h = Rr X d MTo_floor 8 [.ref x, l1] (.ref x :: st) h := Rr_nx d_MTo_floor_7 rfl
theorem r_MTo_floor_8 {a : Nat} (hq : qI a 9 10 = true) : Rr X d MTo_floor 8 L (.ref a :: st) (Wd mu la ro et) = Rr X d MTo_floor 11 L (.int (mu a 10) :: st) (Wd mu la ro et) := R_gfI d_MTo_floor_8 ff_9_127 hq
theorem r_MTo_floor_11 {l1 : Value} {x : Nat} : Rr X d MTo_floor 11 [.ref x, l1] st h = Rr X d MTo_floor 12 [.ref x, l1] (.ref x :: st) h := Rr_nx d_MTo_floor_11 rfl
theorem r_MTo_floor_12 {a : Nat} (hq : (qR a 9 2).isSome = true) : Rr X d MTo_floor 12 L (.ref a :: st) (Wd mu la ro et) = Rr X d MTo_floor 15 L (.ref (qRd a 9 2) :: st) (Wd mu la ro et) := R_gfR d_MTo_floor_12 ff_9_24 hq
theorem r_MTo_floor_15 {a : Nat} (hq : (qL a).isSome = true) : Rr X d MTo_floor 15 L (.ref a :: st) (Wd mu la ro et) = Rr X d MTo_floor 16 L (.int (Int32.ofNat (qLd a)) :: st) (Wd mu la ro et) := R_lenW d_MTo_floor_15 hq
theorem r_MTo_floor_16 {x y : Int32} : Rr X d MTo_floor 16 L (.int y :: .int x :: st) h = if y ≤ x then Rr X d MTo_floor 31 L st h else Rr X d MTo_floor 19 L st h := R_ic_ge d_MTo_floor_16 (by decide)
theorem r_MTo_floor_19 {l1 : Value} {x : Nat} : Rr X d MTo_floor 19 [.ref x, l1] st h = Rr X d MTo_floor 20 [.ref x, l1] (.ref x :: st) h := Rr_nx d_MTo_floor_19 rfl
theorem r_MTo_floor_20 {a : Nat} (hq : (qR a 9 2).isSome = true) : Rr X d MTo_floor 20 L (.ref a :: st) (Wd mu la ro et) = Rr X d MTo_floor 23 L (.ref (qRd a 9 2) :: st) (Wd mu la ro et) := R_gfR d_MTo_floor_20 ff_9_24 hq
theorem r_MTo_floor_23 {l1 : Value} {x : Nat} : Rr X d MTo_floor 23 [.ref x, l1] st h = Rr X d MTo_floor 24 [.ref x, l1] (.ref x :: st) h := Rr_nx d_MTo_floor_23 rfl
theorem r_MTo_floor_24 {a : Nat} (hq : qI a 9 10 = true) : Rr X d MTo_floor 24 L (.ref a :: st) (Wd mu la ro et) = Rr X d MTo_floor 27 L (.int (mu a 10) :: st) (Wd mu la ro et) := R_gfI d_MTo_floor_24 ff_9_127 hq
theorem r_MTo_floor_27 {a : Nat} {j : Int32} (hq : (qQ a).isSome = true) : Rr X d MTo_floor 27 L (.int j :: .ref a :: st) (Wd mu la ro et) = if j < 0 ∨ qQd a ≤ j.toNatClampNeg then none else Rr X d MTo_floor 28 L (va_rf (ro a j.toNatClampNeg) :: st) (Wd mu la ro et) := R_aalW d_MTo_floor_27 hq
theorem r_MTo_floor_28 {x : Nat} : Rr X d MTo_floor 28 L (.ref x :: st) h = Rr X d MTo_floor 34 L st h := R_nnl1 d_MTo_floor_28 (by decide)
theorem r_MTo_floor_28n : Rr X d MTo_floor 28 L (.null :: st) h = Rr X d MTo_floor 31 L st h := R_nnl0 d_MTo_floor_28
theorem r_MTo_floor_31 : Rr X d MTo_floor 31 L st h = Rr X d MTo_floor 33 L (.int (-3) :: st) h := Rr_nx d_MTo_floor_31 rfl
theorem r_MTo_floor_33 {x : Int32} : Rr X d MTo_floor 33 L [.int x] h = some (some (.int x), h) := R_ir d_MTo_floor_33 rfl
theorem r_MTo_floor_34 {l1 : Value} {x : Nat} : Rr X d MTo_floor 34 [.ref x, l1] st h = Rr X d MTo_floor 35 [.ref x, l1] (.ref x :: st) h := Rr_nx d_MTo_floor_34 rfl
theorem r_MTo_floor_35 {a : Nat} (hq : (qR a 9 0).isSome = true) : Rr X d MTo_floor 35 L (.ref a :: st) (Wd mu la ro et) = Rr X d MTo_floor 38 L (.ref (qRd a 9 0) :: st) (Wd mu la ro et) := R_gfR d_MTo_floor_35 ff_9_10 hq
theorem r_MTo_floor_38 {a : Nat} (hO : qO a 8 = true) (hc : ckS st = true) : Rr X (d + 1) MTo_floor 38 L (.ref a :: st) (Wd mu la ro et) = (Rr X d MTa_rewind 0 [.ref a] [] (Wd mu la ro et)).bind fun q => Rr X (d + 1) MTo_floor 41 L (psh q.1 st) q.2 := R_iv (av := []) d_MTo_floor_38 fc_9_87 hO (ckS_le hc) rfl (Nat.le_of_ble_eq_true rfl) (Nat.le_of_ble_eq_true rfl)
theorem r_MTo_floor_41 : Rr X d MTo_floor 41 L st h = Rr X d MTo_floor 43 L (.int (-100) :: st) h := Rr_nx d_MTo_floor_41 rfl
theorem r_MTo_floor_43 {l0 l1 : Value} {x : Int32} : Rr X d MTo_floor 43 [l0, l1] (.int x :: st) h = Rr X d MTo_floor 44 (sL [l0, l1] 1 (.int x)) st h := Rr_nx d_MTo_floor_43 rfl
theorem r_MTo_floor_44 {l1 : Value} {x : Nat} : Rr X d MTo_floor 44 [.ref x, l1] st h = Rr X d MTo_floor 45 [.ref x, l1] (.ref x :: st) h := Rr_nx d_MTo_floor_44 rfl
theorem r_MTo_floor_45 {a : Nat} (hq : (qR a 9 2).isSome = true) : Rr X d MTo_floor 45 L (.ref a :: st) (Wd mu la ro et) = Rr X d MTo_floor 48 L (.ref (qRd a 9 2) :: st) (Wd mu la ro et) := R_gfR d_MTo_floor_45 ff_9_24 hq
theorem r_MTo_floor_48 {l1 : Value} {x : Nat} : Rr X d MTo_floor 48 [.ref x, l1] st h = Rr X d MTo_floor 49 [.ref x, l1] (.ref x :: st) h := Rr_nx d_MTo_floor_48 rfl
theorem r_MTo_floor_49 {a : Nat} (hq : qI a 9 10 = true) : Rr X d MTo_floor 49 L (.ref a :: st) (Wd mu la ro et) = Rr X d MTo_floor 52 L (.int (mu a 10) :: st) (Wd mu la ro et) := R_gfI d_MTo_floor_49 ff_9_127 hq
theorem r_MTo_floor_52 {a : Nat} {j : Int32} (hq : (qQ a).isSome = true) : Rr X d MTo_floor 52 L (.int j :: .ref a :: st) (Wd mu la ro et) = if j < 0 ∨ qQd a ≤ j.toNatClampNeg then none else Rr X d MTo_floor 53 L (va_rf (ro a j.toNatClampNeg) :: st) (Wd mu la ro et) := R_aalW d_MTo_floor_52 hq
theorem r_MTo_floor_53 {l1 : Value} {x : Nat} : Rr X d MTo_floor 53 [.ref x, l1] st h = Rr X d MTo_floor 54 [.ref x, l1] (.ref x :: st) h := Rr_nx d_MTo_floor_53 rfl
theorem r_MTo_floor_54 {a : Nat} (hq : (qR a 9 0).isSome = true) : Rr X d MTo_floor 54 L (.ref a :: st) (Wd mu la ro et) = Rr X d MTo_floor 57 L (.ref (qRd a 9 0) :: st) (Wd mu la ro et) := R_gfR d_MTo_floor_54 ff_9_10 hq
theorem fc_9_130 : fC 9 130 = some (0, 3, 1, MFl_readFrom) := rfl
theorem r_MTo_floor_57 {y0 : Nat} {a : Nat} (hO : qO a 3 = true) (hc : ckS st = true) : Rr X (d + 1) MTo_floor 57 L (.ref y0 :: .ref a :: st) (Wd mu la ro et) = (Rr X d MFl_readFrom 0 [.ref a, .ref y0, mkU, mkU] [] (Wd mu la ro et)).bind fun q => Rr X (d + 1) MTo_floor 60 L (psh q.1 st) q.2 := R_iv (av := [.ref y0]) d_MTo_floor_57 fc_9_130 hO (ckS_le hc) rfl (Nat.le_of_ble_eq_true rfl) (Nat.le_of_ble_eq_true rfl)
theorem r_MTo_floor_60 {x : Int32} : Rr X d MTo_floor 60 L (.int x :: st) h = if x = 0 then Rr X d MTo_floor 81 L st h else Rr X d MTo_floor 63 L st h := R_if_eq d_MTo_floor_60 (by decide)
theorem r_MTo_floor_63 {l1 : Value} {x : Nat} : Rr X d MTo_floor 63 [.ref x, l1] st h = Rr X d MTo_floor 64 [.ref x, l1] (.ref x :: st) h := Rr_nx d_MTo_floor_63 rfl
theorem r_MTo_floor_64 {a : Nat} (hq : qI a 9 10 = true) : Rr X d MTo_floor 64 L (.ref a :: st) (Wd mu la ro et) = Rr X d MTo_floor 67 L (.int (mu a 10) :: st) (Wd mu la ro et) := R_gfI d_MTo_floor_64 ff_9_127 hq
theorem r_MTo_floor_67 {l0 l1 : Value} {x : Int32} : Rr X d MTo_floor 67 [l0, l1] (.int x :: st) h = Rr X d MTo_floor 68 (sL [l0, l1] 1 (.int x)) st h := Rr_nx d_MTo_floor_67 rfl
theorem r_MTo_floor_68 {l1 : Value} {x : Nat} : Rr X d MTo_floor 68 [.ref x, l1] st h = Rr X d MTo_floor 69 [.ref x, l1] (.ref x :: st) h := Rr_nx d_MTo_floor_68 rfl
theorem r_MTo_floor_69 {x : Nat} : Rr X d MTo_floor 69 L (.ref x :: st) h = Rr X d MTo_floor 70 L (.ref x :: .ref x :: st) h := Rr_nx d_MTo_floor_69 rfl
theorem r_MTo_floor_69i {x : Int32} : Rr X d MTo_floor 69 L (.int x :: st) h = Rr X d MTo_floor 70 L (.int x :: .int x :: st) h := Rr_nx d_MTo_floor_69 rfl
theorem r_MTo_floor_70 {a : Nat} (hq : qI a 9 10 = true) : Rr X d MTo_floor 70 L (.ref a :: st) (Wd mu la ro et) = Rr X d MTo_floor 73 L (.int (mu a 10) :: st) (Wd mu la ro et) := R_gfI d_MTo_floor_70 ff_9_127 hq
theorem r_MTo_floor_73 : Rr X d MTo_floor 73 L st h = Rr X d MTo_floor 74 L (.int (1) :: st) h := Rr_nx d_MTo_floor_73 rfl
theorem r_MTo_floor_74 {x y : Int32} : Rr X d MTo_floor 74 L (.int y :: .int x :: st) h = Rr X d MTo_floor 75 L (.int (x + y) :: st) h := Rr_nx d_MTo_floor_74 rfl
theorem r_MTo_floor_75 {a : Nat} {x : Int32} (hq : qI a 9 10 = true) : Rr X d MTo_floor 75 L (.int x :: .ref a :: st) (Wd mu la ro et) = Rr X d MTo_floor 78 L st (Wd (up2 mu a 10 x) la ro et) := R_pfI d_MTo_floor_75 ff_9_127 hq
theorem r_MTo_floor_78 : Rr X d MTo_floor 78 L st h = Rr X d MTo_floor 91 L st h := R_goto d_MTo_floor_78 (by decide)
theorem r_MTo_floor_81 {l0 : Value} {x : Int32} : Rr X d MTo_floor 81 [l0, .int x] st h = Rr X d MTo_floor 82 [l0, .int x] (.int x :: st) h := Rr_nx d_MTo_floor_81 rfl
theorem r_MTo_floor_82 {l1 : Value} {x : Nat} : Rr X d MTo_floor 82 [.ref x, l1] st h = Rr X d MTo_floor 83 [.ref x, l1] (.ref x :: st) h := Rr_nx d_MTo_floor_82 rfl
theorem r_MTo_floor_83 {a : Nat} (hq : (qR a 9 0).isSome = true) : Rr X d MTo_floor 83 L (.ref a :: st) (Wd mu la ro et) = Rr X d MTo_floor 86 L (.ref (qRd a 9 0) :: st) (Wd mu la ro et) := R_gfR d_MTo_floor_83 ff_9_10 hq
theorem r_MTo_floor_86 {a : Nat} (hq : qI a 8 2 = true) : Rr X d MTo_floor 86 L (.ref a :: st) (Wd mu la ro et) = Rr X d MTo_floor 89 L (.int (mu a 2) :: st) (Wd mu la ro et) := R_gfI d_MTo_floor_86 ff_9_94 hq
theorem r_MTo_floor_89 {x y : Int32} : Rr X d MTo_floor 89 L (.int y :: .int x :: st) h = Rr X d MTo_floor 90 L (.int (x - y) :: st) h := Rr_nx d_MTo_floor_89 rfl
theorem r_MTo_floor_90 {l0 l1 : Value} {x : Int32} : Rr X d MTo_floor 90 [l0, l1] (.int x :: st) h = Rr X d MTo_floor 91 (sL [l0, l1] 1 (.int x)) st h := Rr_nx d_MTo_floor_90 rfl
theorem r_MTo_floor_91 {l1 : Value} {x : Nat} : Rr X d MTo_floor 91 [.ref x, l1] st h = Rr X d MTo_floor 92 [.ref x, l1] (.ref x :: st) h := Rr_nx d_MTo_floor_91 rfl
theorem r_MTo_floor_92 {a : Nat} (hq : (qR a 9 0).isSome = true) : Rr X d MTo_floor 92 L (.ref a :: st) (Wd mu la ro et) = Rr X d MTo_floor 95 L (.ref (qRd a 9 0) :: st) (Wd mu la ro et) := R_gfR d_MTo_floor_92 ff_9_10 hq
theorem r_MTo_floor_95 {a : Nat} (hO : qO a 8 = true) (hc : ckS st = true) : Rr X (d + 1) MTo_floor 95 L (.ref a :: st) (Wd mu la ro et) = (Rr X d MTa_clear 0 [.ref a] [] (Wd mu la ro et)).bind fun q => Rr X (d + 1) MTo_floor 98 L (psh q.1 st) q.2 := R_iv (av := []) d_MTo_floor_95 fc_9_97 hO (ckS_le hc) rfl (Nat.le_of_ble_eq_true rfl) (Nat.le_of_ble_eq_true rfl)
theorem r_MTo_floor_98 {l0 : Value} {x : Int32} : Rr X d MTo_floor 98 [l0, .int x] st h = Rr X d MTo_floor 99 [l0, .int x] (.int x :: st) h := Rr_nx d_MTo_floor_98 rfl
theorem r_MTo_floor_99 {x : Int32} : Rr X d MTo_floor 99 L [.int x] h = some (some (.int x), h) := R_ir d_MTo_floor_99 rfl
theorem d_MTo_grows_0 : decode MTo_grows.2.2.1 0 = .ok (.aload_n 0, 1) := by decide +kernel
theorem d_MTo_grows_1 : decode MTo_grows.2.2.1 1 = .ok (.iload_n 1, 1) := by decide +kernel
theorem d_MTo_grows_2 : decode MTo_grows.2.2.1 2 = .ok (.invokevirtual 100, 3) := by decide +kernel
theorem d_MTo_grows_5 : decode MTo_grows.2.2.1 5 = .ok (.astore_n 3, 1) := by decide +kernel
theorem d_MTo_grows_6 : decode MTo_grows.2.2.1 6 = .ok (.aload_n 3, 1) := by decide +kernel
theorem d_MTo_grows_7 : decode MTo_grows.2.2.1 7 = .ok (.ifnull 13, 3) := by decide +kernel
theorem d_MTo_grows_10 : decode MTo_grows.2.2.1 10 = .ok (.iload_n 2, 1) := by decide +kernel
theorem d_MTo_grows_11 : decode MTo_grows.2.2.1 11 = .ok (.iconst 1, 1) := by decide +kernel
theorem d_MTo_grows_12 : decode MTo_grows.2.2.1 12 = .ok (.if_icmp .eq 10, 3) := by decide +kernel
theorem d_MTo_grows_15 : decode MTo_grows.2.2.1 15 = .ok (.iload_n 2, 1) := by decide +kernel
theorem d_MTo_grows_16 : decode MTo_grows.2.2.1 16 = .ok (.iconst (-1), 1) := by decide +kernel
theorem d_MTo_grows_17 : decode MTo_grows.2.2.1 17 = .ok (.if_icmp .eq 5, 3) := by decide +kernel
theorem d_MTo_grows_20 : decode MTo_grows.2.2.1 20 = .ok (.iconst (-1), 1) := by decide +kernel
theorem d_MTo_grows_21 : decode MTo_grows.2.2.1 21 = .ok (.ireturn, 1) := by decide +kernel
theorem d_MTo_grows_22 : decode MTo_grows.2.2.1 22 = .ok (.aload_n 3, 1) := by decide +kernel
theorem d_MTo_grows_23 : decode MTo_grows.2.2.1 23 = .ok (.invokevirtual 131, 3) := by decide +kernel
theorem d_MTo_grows_26 : decode MTo_grows.2.2.1 26 = .ok (.iload_n 2, 1) := by decide +kernel
theorem d_MTo_grows_27 : decode MTo_grows.2.2.1 27 = .ok (.imul, 1) := by decide +kernel
theorem d_MTo_grows_28 : decode MTo_grows.2.2.1 28 = .ok (.istore 4, 2) := by decide +kernel
theorem d_MTo_grows_30 : decode MTo_grows.2.2.1 30 = .ok (.iload 4, 2) := by decide +kernel
theorem d_MTo_grows_32 : decode MTo_grows.2.2.1 32 = .ok (.ifCond .ne 7, 3) := by decide +kernel
theorem d_MTo_grows_35 : decode MTo_grows.2.2.1 35 = .ok (.iconst 0, 1) := by decide +kernel
theorem d_MTo_grows_36 : decode MTo_grows.2.2.1 36 = .ok (.goto 13, 3) := by decide +kernel
theorem d_MTo_grows_39 : decode MTo_grows.2.2.1 39 = .ok (.iload 4, 2) := by decide +kernel
theorem d_MTo_grows_41 : decode MTo_grows.2.2.1 41 = .ok (.ifCond .le 7, 3) := by decide +kernel
theorem d_MTo_grows_44 : decode MTo_grows.2.2.1 44 = .ok (.iconst 1, 1) := by decide +kernel
theorem d_MTo_grows_45 : decode MTo_grows.2.2.1 45 = .ok (.goto 4, 3) := by decide +kernel
theorem d_MTo_grows_48 : decode MTo_grows.2.2.1 48 = .ok (.iconst 2, 1) := by decide +kernel
theorem d_MTo_grows_49 : decode MTo_grows.2.2.1 49 = .ok (.ireturn, 1) := by decide +kernel
theorem r_MTo_grows_0 {l1 l2 l3 l4 : Value} {x : Nat} : Rr X d MTo_grows 0 [.ref x, l1, l2, l3, l4] st h = Rr X d MTo_grows 1 [.ref x, l1, l2, l3, l4] (.ref x :: st) h := Rr_nx d_MTo_grows_0 rfl
theorem r_MTo_grows_1 {l0 l2 l3 l4 : Value} {x : Int32} : Rr X d MTo_grows 1 [l0, .int x, l2, l3, l4] st h = Rr X d MTo_grows 2 [l0, .int x, l2, l3, l4] (.int x :: st) h := Rr_nx d_MTo_grows_1 rfl
theorem r_MTo_grows_2 {y0 : Int32} {a : Nat} (hO : qO a 9 = true) (hc : ckS st = true) : Rr X (d + 1) MTo_grows 2 L (.int y0 :: .ref a :: st) (Wd mu la ro et) = (Rr X d MTo_stoneAt 0 [.ref a, .int y0] [] (Wd mu la ro et)).bind fun q => Rr X (d + 1) MTo_grows 5 L (psh q.1 st) q.2 := R_iv (av := [.int y0]) d_MTo_grows_2 fc_9_100 hO (ckS_le hc) rfl (Nat.le_of_ble_eq_true rfl) (Nat.le_of_ble_eq_true rfl)
theorem r_MTo_grows_5 {l0 l1 l2 l3 l4 : Value} {x : Nat} : Rr X d MTo_grows 5 [l0, l1, l2, l3, l4] (.ref x :: st) h = Rr X d MTo_grows 6 (sL [l0, l1, l2, l3, l4] 3 (.ref x)) st h := Rr_nx d_MTo_grows_5 rfl
theorem r_MTo_grows_5n {l0 l1 l2 l3 l4 : Value} : Rr X d MTo_grows 5 [l0, l1, l2, l3, l4] (.null :: st) h = Rr X d MTo_grows 6 (sL [l0, l1, l2, l3, l4] 3 .null) st h := Rr_nx d_MTo_grows_5 rfl
theorem r_MTo_grows_6 {l0 l1 l2 l4 : Value} {x : Nat} : Rr X d MTo_grows 6 [l0, l1, l2, .ref x, l4] st h = Rr X d MTo_grows 7 [l0, l1, l2, .ref x, l4] (.ref x :: st) h := Rr_nx d_MTo_grows_6 rfl
theorem r_MTo_grows_6n {l0 l1 l2 l4 : Value} : Rr X d MTo_grows 6 [l0, l1, l2, .null, l4] st h = Rr X d MTo_grows 7 [l0, l1, l2, .null, l4] (.null :: st) h := Rr_nx d_MTo_grows_6 rfl
theorem r_MTo_grows_7 {x : Nat} : Rr X d MTo_grows 7 L (.ref x :: st) h = Rr X d MTo_grows 10 L st h := R_nul1 d_MTo_grows_7
theorem r_MTo_grows_7n : Rr X d MTo_grows 7 L (.null :: st) h = Rr X d MTo_grows 20 L st h := R_nul0 d_MTo_grows_7 (by decide)
theorem r_MTo_grows_10 {l0 l1 l3 l4 : Value} {x : Int32} : Rr X d MTo_grows 10 [l0, l1, .int x, l3, l4] st h = Rr X d MTo_grows 11 [l0, l1, .int x, l3, l4] (.int x :: st) h := Rr_nx d_MTo_grows_10 rfl
theorem r_MTo_grows_11 : Rr X d MTo_grows 11 L st h = Rr X d MTo_grows 12 L (.int (1) :: st) h := Rr_nx d_MTo_grows_11 rfl
theorem r_MTo_grows_12 {x y : Int32} : Rr X d MTo_grows 12 L (.int y :: .int x :: st) h = if x = y then Rr X d MTo_grows 22 L st h else Rr X d MTo_grows 15 L st h := R_ic_eq d_MTo_grows_12 (by decide)
theorem r_MTo_grows_15 {l0 l1 l3 l4 : Value} {x : Int32} : Rr X d MTo_grows 15 [l0, l1, .int x, l3, l4] st h = Rr X d MTo_grows 16 [l0, l1, .int x, l3, l4] (.int x :: st) h := Rr_nx d_MTo_grows_15 rfl
theorem r_MTo_grows_16 : Rr X d MTo_grows 16 L st h = Rr X d MTo_grows 17 L (.int (-1) :: st) h := Rr_nx d_MTo_grows_16 rfl
theorem r_MTo_grows_17 {x y : Int32} : Rr X d MTo_grows 17 L (.int y :: .int x :: st) h = if x = y then Rr X d MTo_grows 22 L st h else Rr X d MTo_grows 20 L st h := R_ic_eq d_MTo_grows_17 (by decide)
theorem r_MTo_grows_20 : Rr X d MTo_grows 20 L st h = Rr X d MTo_grows 21 L (.int (-1) :: st) h := Rr_nx d_MTo_grows_20 rfl
theorem r_MTo_grows_21 {x : Int32} : Rr X d MTo_grows 21 L [.int x] h = some (some (.int x), h) := R_ir d_MTo_grows_21 rfl
theorem r_MTo_grows_22 {l0 l1 l2 l4 : Value} {x : Nat} : Rr X d MTo_grows 22 [l0, l1, l2, .ref x, l4] st h = Rr X d MTo_grows 23 [l0, l1, l2, .ref x, l4] (.ref x :: st) h := Rr_nx d_MTo_grows_22 rfl
theorem r_MTo_grows_22n {l0 l1 l2 l4 : Value} : Rr X d MTo_grows 22 [l0, l1, l2, .null, l4] st h = Rr X d MTo_grows 23 [l0, l1, l2, .null, l4] (.null :: st) h := Rr_nx d_MTo_grows_22 rfl
theorem fc_9_131 : fC 9 131 = some (0, 7, 0, MSt_keen) := rfl
theorem r_MTo_grows_23 {a : Nat} (hO : qO a 7 = true) (hc : ckS st = true) : Rr X (d + 1) MTo_grows 23 L (.ref a :: st) (Wd mu la ro et) = (Rr X d MSt_keen 0 [.ref a] [] (Wd mu la ro et)).bind fun q => Rr X (d + 1) MTo_grows 26 L (psh q.1 st) q.2 := R_iv (av := []) d_MTo_grows_23 fc_9_131 hO (ckS_le hc) rfl (Nat.le_of_ble_eq_true rfl) (Nat.le_of_ble_eq_true rfl)
theorem r_MTo_grows_26 {l0 l1 l3 l4 : Value} {x : Int32} : Rr X d MTo_grows 26 [l0, l1, .int x, l3, l4] st h = Rr X d MTo_grows 27 [l0, l1, .int x, l3, l4] (.int x :: st) h := Rr_nx d_MTo_grows_26 rfl
theorem r_MTo_grows_27 {x y : Int32} : Rr X d MTo_grows 27 L (.int y :: .int x :: st) h = Rr X d MTo_grows 28 L (.int (x * y) :: st) h := Rr_nx d_MTo_grows_27 rfl
theorem r_MTo_grows_28 {l0 l1 l2 l3 l4 : Value} {x : Int32} : Rr X d MTo_grows 28 [l0, l1, l2, l3, l4] (.int x :: st) h = Rr X d MTo_grows 30 (sL [l0, l1, l2, l3, l4] 4 (.int x)) st h := Rr_nx d_MTo_grows_28 rfl
theorem r_MTo_grows_30 {l0 l1 l2 l3 : Value} {x : Int32} : Rr X d MTo_grows 30 [l0, l1, l2, l3, .int x] st h = Rr X d MTo_grows 32 [l0, l1, l2, l3, .int x] (.int x :: st) h := Rr_nx d_MTo_grows_30 rfl
theorem r_MTo_grows_32 {x : Int32} : Rr X d MTo_grows 32 L (.int x :: st) h = if ¬ x = 0 then Rr X d MTo_grows 39 L st h else Rr X d MTo_grows 35 L st h := R_if_ne d_MTo_grows_32 (by decide)
theorem r_MTo_grows_35 : Rr X d MTo_grows 35 L st h = Rr X d MTo_grows 36 L (.int (0) :: st) h := Rr_nx d_MTo_grows_35 rfl
theorem r_MTo_grows_36 : Rr X d MTo_grows 36 L st h = Rr X d MTo_grows 49 L st h := R_goto d_MTo_grows_36 (by decide)
theorem r_MTo_grows_39 {l0 l1 l2 l3 : Value} {x : Int32} : Rr X d MTo_grows 39 [l0, l1, l2, l3, .int x] st h = Rr X d MTo_grows 41 [l0, l1, l2, l3, .int x] (.int x :: st) h := Rr_nx d_MTo_grows_39 rfl
theorem r_MTo_grows_41 {x : Int32} : Rr X d MTo_grows 41 L (.int x :: st) h = if x ≤ 0 then Rr X d MTo_grows 48 L st h else Rr X d MTo_grows 44 L st h := R_if_le d_MTo_grows_41 (by decide)
theorem r_MTo_grows_44 : Rr X d MTo_grows 44 L st h = Rr X d MTo_grows 45 L (.int (1) :: st) h := Rr_nx d_MTo_grows_44 rfl
theorem r_MTo_grows_45 : Rr X d MTo_grows 45 L st h = Rr X d MTo_grows 49 L st h := R_goto d_MTo_grows_45 (by decide)
theorem r_MTo_grows_48 : Rr X d MTo_grows 48 L st h = Rr X d MTo_grows 49 L (.int (2) :: st) h := Rr_nx d_MTo_grows_48 rfl
theorem r_MTo_grows_49 {x : Int32} : Rr X d MTo_grows 49 L [.int x] h = some (some (.int x), h) := R_ir d_MTo_grows_49 rfl
theorem d_MTo_roll_0 : decode MTo_roll.2.2.1 0 = .ok (.aload_n 0, 1) := by decide +kernel
theorem d_MTo_roll_1 : decode MTo_roll.2.2.1 1 = .ok (.iload_n 1, 1) := by decide +kernel
theorem d_MTo_roll_2 : decode MTo_roll.2.2.1 2 = .ok (.invokevirtual 135, 3) := by decide +kernel
theorem d_MTo_roll_5 : decode MTo_roll.2.2.1 5 = .ok (.ifCond .eq 23, 3) := by decide +kernel
theorem d_MTo_roll_8 : decode MTo_roll.2.2.1 8 = .ok (.iload_n 2, 1) := by decide +kernel
theorem d_MTo_roll_9 : decode MTo_roll.2.2.1 9 = .ok (.iload_n 3, 1) := by decide +kernel
theorem d_MTo_roll_10 : decode MTo_roll.2.2.1 10 = .ok (.invokestatic 139, 3) := by decide +kernel
theorem d_MTo_roll_13 : decode MTo_roll.2.2.1 13 = .ok (.ifCond .eq 15, 3) := by decide +kernel
theorem d_MTo_roll_16 : decode MTo_roll.2.2.1 16 = .ok (.iload 4, 2) := by decide +kernel
theorem d_MTo_roll_18 : decode MTo_roll.2.2.1 18 = .ok (.iconst 0, 1) := by decide +kernel
theorem d_MTo_roll_19 : decode MTo_roll.2.2.1 19 = .ok (.sipush 400, 3) := by decide +kernel
theorem d_MTo_roll_22 : decode MTo_roll.2.2.1 22 = .ok (.invokestatic 72, 3) := by decide +kernel
theorem d_MTo_roll_25 : decode MTo_roll.2.2.1 25 = .ok (.ifCond .ne 6, 3) := by decide +kernel
theorem d_MTo_roll_28 : decode MTo_roll.2.2.1 28 = .ok (.ldc 104, 2) := by decide +kernel
theorem d_MTo_roll_30 : decode MTo_roll.2.2.1 30 = .ok (.ireturn, 1) := by decide +kernel
theorem d_MTo_roll_31 : decode MTo_roll.2.2.1 31 = .ok (.aload_n 0, 1) := by decide +kernel
theorem d_MTo_roll_32 : decode MTo_roll.2.2.1 32 = .ok (.iload_n 1, 1) := by decide +kernel
theorem d_MTo_roll_33 : decode MTo_roll.2.2.1 33 = .ok (.invokevirtual 142, 3) := by decide +kernel
theorem d_MTo_roll_36 : decode MTo_roll.2.2.1 36 = .ok (.aload_n 0, 1) := by decide +kernel
theorem d_MTo_roll_37 : decode MTo_roll.2.2.1 37 = .ok (.iload_n 2, 1) := by decide +kernel
theorem d_MTo_roll_38 : decode MTo_roll.2.2.1 38 = .ok (.iload_n 3, 1) := by decide +kernel
theorem d_MTo_roll_39 : decode MTo_roll.2.2.1 39 = .ok (.invokevirtual 145, 3) := by decide +kernel
theorem d_MTo_roll_42 : decode MTo_roll.2.2.1 42 = .ok (.aload_n 0, 1) := by decide +kernel
theorem d_MTo_roll_43 : decode MTo_roll.2.2.1 43 = .ok (.getfield 44, 3) := by decide +kernel
theorem d_MTo_roll_46 : decode MTo_roll.2.2.1 46 = .ok (.aload_n 0, 1) := by decide +kernel
theorem d_MTo_roll_47 : decode MTo_roll.2.2.1 47 = .ok (.getfield 37, 3) := by decide +kernel
theorem d_MTo_roll_50 : decode MTo_roll.2.2.1 50 = .ok (.iload 4, 2) := by decide +kernel
theorem d_MTo_roll_52 : decode MTo_roll.2.2.1 52 = .ok (.invokevirtual 149, 3) := by decide +kernel
theorem d_MTo_roll_55 : decode MTo_roll.2.2.1 55 = .ok (.aload_n 0, 1) := by decide +kernel
theorem d_MTo_roll_56 : decode MTo_roll.2.2.1 56 = .ok (.getfield 37, 3) := by decide +kernel
theorem d_MTo_roll_59 : decode MTo_roll.2.2.1 59 = .ok (.getfield 153, 3) := by decide +kernel
theorem d_MTo_roll_62 : decode MTo_roll.2.2.1 62 = .ok (.ireturn, 1) := by decide +kernel
theorem r_MTo_roll_0 {l1 l2 l3 l4 : Value} {x : Nat} : Rr X d MTo_roll 0 [.ref x, l1, l2, l3, l4] st h = Rr X d MTo_roll 1 [.ref x, l1, l2, l3, l4] (.ref x :: st) h := Rr_nx d_MTo_roll_0 rfl
theorem r_MTo_roll_1 {l0 l2 l3 l4 : Value} {x : Int32} : Rr X d MTo_roll 1 [l0, .int x, l2, l3, l4] st h = Rr X d MTo_roll 2 [l0, .int x, l2, l3, l4] (.int x :: st) h := Rr_nx d_MTo_roll_1 rfl
theorem fc_9_135 : fC 9 135 = some (0, 9, 1, MTo_isGround) := rfl
theorem r_MTo_roll_2 {y0 : Int32} {a : Nat} (hO : qO a 9 = true) (hc : ckS st = true) : Rr X (d + 1) MTo_roll 2 L (.int y0 :: .ref a :: st) (Wd mu la ro et) = (Rr X d MTo_isGround 0 [.ref a, .int y0] [] (Wd mu la ro et)).bind fun q => Rr X (d + 1) MTo_roll 5 L (psh q.1 st) q.2 := R_iv (av := [.int y0]) d_MTo_roll_2 fc_9_135 hO (ckS_le hc) rfl (Nat.le_of_ble_eq_true rfl) (Nat.le_of_ble_eq_true rfl)
theorem r_MTo_roll_5 {x : Int32} : Rr X d MTo_roll 5 L (.int x :: st) h = if x = 0 then Rr X d MTo_roll 28 L st h else Rr X d MTo_roll 8 L st h := R_if_eq d_MTo_roll_5 (by decide)
theorem r_MTo_roll_8 {l0 l1 l3 l4 : Value} {x : Int32} : Rr X d MTo_roll 8 [l0, l1, .int x, l3, l4] st h = Rr X d MTo_roll 9 [l0, l1, .int x, l3, l4] (.int x :: st) h := Rr_nx d_MTo_roll_8 rfl
theorem r_MTo_roll_9 {l0 l1 l2 l4 : Value} {x : Int32} : Rr X d MTo_roll 9 [l0, l1, l2, .int x, l4] st h = Rr X d MTo_roll 10 [l0, l1, l2, .int x, l4] (.int x :: st) h := Rr_nx d_MTo_roll_9 rfl
theorem fc_9_139 : fC 9 139 = some (1, 0, 2, MTo_isStart) := rfl
theorem r_MTo_roll_10 {y0 : Int32} {y1 : Int32} (hc : ckS st = true) : Rr X (d + 1) MTo_roll 10 L (.int y1 :: .int y0 :: st) h = (Rr X d MTo_isStart 0 [.int y0, .int y1] [] h).bind fun q => Rr X (d + 1) MTo_roll 13 L (psh q.1 st) q.2 := R_is (av := [.int y1, .int y0]) d_MTo_roll_10 (Or.inl fc_9_139) (ckS_le hc) rfl (Nat.le_of_ble_eq_true rfl) (Nat.le_of_ble_eq_true rfl)
theorem r_MTo_roll_13 {x : Int32} : Rr X d MTo_roll 13 L (.int x :: st) h = if x = 0 then Rr X d MTo_roll 28 L st h else Rr X d MTo_roll 16 L st h := R_if_eq d_MTo_roll_13 (by decide)
theorem r_MTo_roll_16 {l0 l1 l2 l3 : Value} {x : Int32} : Rr X d MTo_roll 16 [l0, l1, l2, l3, .int x] st h = Rr X d MTo_roll 18 [l0, l1, l2, l3, .int x] (.int x :: st) h := Rr_nx d_MTo_roll_16 rfl
theorem r_MTo_roll_18 : Rr X d MTo_roll 18 L st h = Rr X d MTo_roll 19 L (.int (0) :: st) h := Rr_nx d_MTo_roll_18 rfl
theorem r_MTo_roll_19 : Rr X d MTo_roll 19 L st h = Rr X d MTo_roll 22 L (.int (400) :: st) h := Rr_nx d_MTo_roll_19 rfl
theorem r_MTo_roll_22 {y0 : Int32} {y1 : Int32} {y2 : Int32} (hc : ckS st = true) : Rr X (d + 1) MTo_roll 22 L (.int y2 :: .int y1 :: .int y0 :: st) h = (Rr X d MTo_isWithin 0 [.int y0, .int y1, .int y2] [] h).bind fun q => Rr X (d + 1) MTo_roll 25 L (psh q.1 st) q.2 := R_is (av := [.int y2, .int y1, .int y0]) d_MTo_roll_22 (Or.inl fc_9_72) (ckS_le hc) rfl (Nat.le_of_ble_eq_true rfl) (Nat.le_of_ble_eq_true rfl)
theorem r_MTo_roll_25 {x : Int32} : Rr X d MTo_roll 25 L (.int x :: st) h = if ¬ x = 0 then Rr X d MTo_roll 31 L st h else Rr X d MTo_roll 28 L st h := R_if_ne d_MTo_roll_25 (by decide)
theorem r_MTo_roll_28 : Rr X d MTo_roll 28 L st h = Rr X d MTo_roll 30 L (.int (-2000000000) :: st) h := Rr_nx d_MTo_roll_28 rfl
theorem r_MTo_roll_30 {x : Int32} : Rr X d MTo_roll 30 L [.int x] h = some (some (.int x), h) := R_ir d_MTo_roll_30 rfl
theorem r_MTo_roll_31 {l1 l2 l3 l4 : Value} {x : Nat} : Rr X d MTo_roll 31 [.ref x, l1, l2, l3, l4] st h = Rr X d MTo_roll 32 [.ref x, l1, l2, l3, l4] (.ref x :: st) h := Rr_nx d_MTo_roll_31 rfl
theorem r_MTo_roll_32 {l0 l2 l3 l4 : Value} {x : Int32} : Rr X d MTo_roll 32 [l0, .int x, l2, l3, l4] st h = Rr X d MTo_roll 33 [l0, .int x, l2, l3, l4] (.int x :: st) h := Rr_nx d_MTo_roll_32 rfl
theorem fc_9_142 : fC 9 142 = some (0, 9, 1, MTo_layOwn) := rfl
theorem r_MTo_roll_33 {y0 : Int32} {a : Nat} (hO : qO a 9 = true) (hc : ckS st = true) : Rr X (d + 1) MTo_roll 33 L (.int y0 :: .ref a :: st) (Wd mu la ro et) = (Rr X d MTo_layOwn 0 [.ref a, .int y0, mkU] [] (Wd mu la ro et)).bind fun q => Rr X (d + 1) MTo_roll 36 L (psh q.1 st) q.2 := R_iv (av := [.int y0]) d_MTo_roll_33 fc_9_142 hO (ckS_le hc) rfl (Nat.le_of_ble_eq_true rfl) (Nat.le_of_ble_eq_true rfl)
theorem r_MTo_roll_36 {l1 l2 l3 l4 : Value} {x : Nat} : Rr X d MTo_roll 36 [.ref x, l1, l2, l3, l4] st h = Rr X d MTo_roll 37 [.ref x, l1, l2, l3, l4] (.ref x :: st) h := Rr_nx d_MTo_roll_36 rfl
theorem r_MTo_roll_37 {l0 l1 l3 l4 : Value} {x : Int32} : Rr X d MTo_roll 37 [l0, l1, .int x, l3, l4] st h = Rr X d MTo_roll 38 [l0, l1, .int x, l3, l4] (.int x :: st) h := Rr_nx d_MTo_roll_37 rfl
theorem r_MTo_roll_38 {l0 l1 l2 l4 : Value} {x : Int32} : Rr X d MTo_roll 38 [l0, l1, l2, .int x, l4] st h = Rr X d MTo_roll 39 [l0, l1, l2, .int x, l4] (.int x :: st) h := Rr_nx d_MTo_roll_38 rfl
theorem fc_9_145 : fC 9 145 = some (0, 9, 2, MTo_start) := rfl
theorem r_MTo_roll_39 {y0 : Int32} {y1 : Int32} {a : Nat} (hO : qO a 9 = true) (hc : ckS st = true) : Rr X (d + 1) MTo_roll 39 L (.int y1 :: .int y0 :: .ref a :: st) (Wd mu la ro et) = (Rr X d MTo_start 0 [.ref a, .int y0, .int y1] [] (Wd mu la ro et)).bind fun q => Rr X (d + 1) MTo_roll 42 L (psh q.1 st) q.2 := R_iv (av := [.int y1, .int y0]) d_MTo_roll_39 fc_9_145 hO (ckS_le hc) rfl (Nat.le_of_ble_eq_true rfl) (Nat.le_of_ble_eq_true rfl)
theorem r_MTo_roll_42 {l1 l2 l3 l4 : Value} {x : Nat} : Rr X d MTo_roll 42 [.ref x, l1, l2, l3, l4] st h = Rr X d MTo_roll 43 [.ref x, l1, l2, l3, l4] (.ref x :: st) h := Rr_nx d_MTo_roll_42 rfl
theorem ff_9_44 : fF 9 44 = some (9, 5, 1, 1) := rfl
theorem r_MTo_roll_43 {a : Nat} (hq : (qR a 9 5).isSome = true) : Rr X d MTo_roll 43 L (.ref a :: st) (Wd mu la ro et) = Rr X d MTo_roll 46 L (.ref (qRd a 9 5) :: st) (Wd mu la ro et) := R_gfR d_MTo_roll_43 ff_9_44 hq
theorem r_MTo_roll_46 {l1 l2 l3 l4 : Value} {x : Nat} : Rr X d MTo_roll 46 [.ref x, l1, l2, l3, l4] st h = Rr X d MTo_roll 47 [.ref x, l1, l2, l3, l4] (.ref x :: st) h := Rr_nx d_MTo_roll_46 rfl
theorem ff_9_37 : fF 9 37 = some (9, 4, 1, 1) := rfl
theorem r_MTo_roll_47 {a : Nat} (hq : (qR a 9 4).isSome = true) : Rr X d MTo_roll 47 L (.ref a :: st) (Wd mu la ro et) = Rr X d MTo_roll 50 L (.ref (qRd a 9 4) :: st) (Wd mu la ro et) := R_gfR d_MTo_roll_47 ff_9_37 hq
theorem r_MTo_roll_50 {l0 l1 l2 l3 : Value} {x : Int32} : Rr X d MTo_roll 50 [l0, l1, l2, l3, .int x] st h = Rr X d MTo_roll 52 [l0, l1, l2, l3, .int x] (.int x :: st) h := Rr_nx d_MTo_roll_50 rfl
theorem fc_9_149 : fC 9 149 = some (0, 4, 2, MGo_record) := rfl
theorem r_MTo_roll_52 {y0 : Nat} {y1 : Int32} {a : Nat} (hO : qO a 4 = true) (hc : ckS st = true) : Rr X (d + 1) MTo_roll 52 L (.int y1 :: .ref y0 :: .ref a :: st) (Wd mu la ro et) = (Rr X d MGo_record 0 [.ref a, .ref y0, .int y1, mkU] [] (Wd mu la ro et)).bind fun q => Rr X (d + 1) MTo_roll 55 L (psh q.1 st) q.2 := R_iv (av := [.int y1, .ref y0]) d_MTo_roll_52 fc_9_149 hO (ckS_le hc) rfl (Nat.le_of_ble_eq_true rfl) (Nat.le_of_ble_eq_true rfl)
theorem r_MTo_roll_55 {l1 l2 l3 l4 : Value} {x : Nat} : Rr X d MTo_roll 55 [.ref x, l1, l2, l3, l4] st h = Rr X d MTo_roll 56 [.ref x, l1, l2, l3, l4] (.ref x :: st) h := Rr_nx d_MTo_roll_55 rfl
theorem r_MTo_roll_56 {a : Nat} (hq : (qR a 9 4).isSome = true) : Rr X d MTo_roll 56 L (.ref a :: st) (Wd mu la ro et) = Rr X d MTo_roll 59 L (.ref (qRd a 9 4) :: st) (Wd mu la ro et) := R_gfR d_MTo_roll_56 ff_9_37 hq
theorem ff_9_153 : fF 9 153 = some (5, 7, 0, 0) := rfl
theorem r_MTo_roll_59 {a : Nat} (hq : qI a 5 7 = true) : Rr X d MTo_roll 59 L (.ref a :: st) (Wd mu la ro et) = Rr X d MTo_roll 62 L (.int (mu a 7) :: st) (Wd mu la ro et) := R_gfI d_MTo_roll_59 ff_9_153 hq
theorem r_MTo_roll_62 {x : Int32} : Rr X d MTo_roll 62 L [.int x] h = some (some (.int x), h) := R_ir d_MTo_roll_62 rfl
theorem d_MTo_going_0 : decode MTo_going.2.2.1 0 = .ok (.iload_n 1, 1) := by decide +kernel
theorem d_MTo_going_1 : decode MTo_going.2.2.1 1 = .ok (.iconst (-1), 1) := by decide +kernel
theorem d_MTo_going_2 : decode MTo_going.2.2.1 2 = .ok (.if_icmp .ne 30, 3) := by decide +kernel
theorem d_MTo_going_5 : decode MTo_going.2.2.1 5 = .ok (.aload_n 0, 1) := by decide +kernel
theorem d_MTo_going_6 : decode MTo_going.2.2.1 6 = .ok (.getfield 44, 3) := by decide +kernel
theorem d_MTo_going_9 : decode MTo_going.2.2.1 9 = .ok (.invokevirtual 156, 3) := by decide +kernel
theorem d_MTo_going_12 : decode MTo_going.2.2.1 12 = .ok (.ifCond .eq 17, 3) := by decide +kernel
theorem d_MTo_going_15 : decode MTo_going.2.2.1 15 = .ok (.iload_n 2, 1) := by decide +kernel
theorem d_MTo_going_16 : decode MTo_going.2.2.1 16 = .ok (.ifCond .ne 13, 3) := by decide +kernel
theorem d_MTo_going_19 : decode MTo_going.2.2.1 19 = .ok (.aload_n 0, 1) := by decide +kernel
theorem d_MTo_going_20 : decode MTo_going.2.2.1 20 = .ok (.getfield 44, 3) := by decide +kernel
theorem d_MTo_going_23 : decode MTo_going.2.2.1 23 = .ok (.getfield 160, 3) := by decide +kernel
theorem d_MTo_going_26 : decode MTo_going.2.2.1 26 = .ok (.goto 5, 3) := by decide +kernel
theorem d_MTo_going_29 : decode MTo_going.2.2.1 29 = .ok (.ldc 104, 2) := by decide +kernel
theorem d_MTo_going_31 : decode MTo_going.2.2.1 31 = .ok (.ireturn, 1) := by decide +kernel
theorem d_MTo_going_32 : decode MTo_going.2.2.1 32 = .ok (.iload_n 1, 1) := by decide +kernel
theorem d_MTo_going_33 : decode MTo_going.2.2.1 33 = .ok (.iconst 0, 1) := by decide +kernel
theorem d_MTo_going_34 : decode MTo_going.2.2.1 34 = .ok (.aload_n 0, 1) := by decide +kernel
theorem d_MTo_going_35 : decode MTo_going.2.2.1 35 = .ok (.getfield 44, 3) := by decide +kernel
theorem d_MTo_going_38 : decode MTo_going.2.2.1 38 = .ok (.getfield 160, 3) := by decide +kernel
theorem d_MTo_going_41 : decode MTo_going.2.2.1 41 = .ok (.invokestatic 72, 3) := by decide +kernel
theorem d_MTo_going_44 : decode MTo_going.2.2.1 44 = .ok (.ifCond .eq 12, 3) := by decide +kernel
theorem d_MTo_going_47 : decode MTo_going.2.2.1 47 = .ok (.iload_n 2, 1) := by decide +kernel
theorem d_MTo_going_48 : decode MTo_going.2.2.1 48 = .ok (.iconst 0, 1) := by decide +kernel
theorem d_MTo_going_49 : decode MTo_going.2.2.1 49 = .ok (.iconst 2, 1) := by decide +kernel
theorem d_MTo_going_50 : decode MTo_going.2.2.1 50 = .ok (.invokestatic 72, 3) := by decide +kernel
theorem d_MTo_going_53 : decode MTo_going.2.2.1 53 = .ok (.ifCond .ne 6, 3) := by decide +kernel
theorem d_MTo_going_56 : decode MTo_going.2.2.1 56 = .ok (.ldc 104, 2) := by decide +kernel
theorem d_MTo_going_58 : decode MTo_going.2.2.1 58 = .ok (.ireturn, 1) := by decide +kernel
theorem d_MTo_going_59 : decode MTo_going.2.2.1 59 = .ok (.aload_n 0, 1) := by decide +kernel
theorem d_MTo_going_60 : decode MTo_going.2.2.1 60 = .ok (.getfield 44, 3) := by decide +kernel
theorem d_MTo_going_63 : decode MTo_going.2.2.1 63 = .ok (.iload_n 1, 1) := by decide +kernel
theorem d_MTo_going_64 : decode MTo_going.2.2.1 64 = .ok (.iload_n 2, 1) := by decide +kernel
theorem d_MTo_going_65 : decode MTo_going.2.2.1 65 = .ok (.invokevirtual 163, 3) := by decide +kernel
theorem d_MTo_going_68 : decode MTo_going.2.2.1 68 = .ok (.ireturn, 1) := by decide +kernel
theorem r_MTo_going_0 {l0 l2 : Value} {x : Int32} : Rr X d MTo_going 0 [l0, .int x, l2] st h = Rr X d MTo_going 1 [l0, .int x, l2] (.int x :: st) h := Rr_nx d_MTo_going_0 rfl
theorem r_MTo_going_1 : Rr X d MTo_going 1 L st h = Rr X d MTo_going 2 L (.int (-1) :: st) h := Rr_nx d_MTo_going_1 rfl
theorem r_MTo_going_2 {x y : Int32} : Rr X d MTo_going 2 L (.int y :: .int x :: st) h = if ¬ x = y then Rr X d MTo_going 32 L st h else Rr X d MTo_going 5 L st h := R_ic_ne d_MTo_going_2 (by decide)
theorem r_MTo_going_5 {l1 l2 : Value} {x : Nat} : Rr X d MTo_going 5 [.ref x, l1, l2] st h = Rr X d MTo_going 6 [.ref x, l1, l2] (.ref x :: st) h := Rr_nx d_MTo_going_5 rfl
theorem r_MTo_going_6 {a : Nat} (hq : (qR a 9 5).isSome = true) : Rr X d MTo_going 6 L (.ref a :: st) (Wd mu la ro et) = Rr X d MTo_going 9 L (.ref (qRd a 9 5) :: st) (Wd mu la ro et) := R_gfR d_MTo_going_6 ff_9_44 hq
theorem fc_9_156 : fC 9 156 = some (0, 4, 0, MGo_isThere) := rfl
theorem r_MTo_going_9 {a : Nat} (hO : qO a 4 = true) (hc : ckS st = true) : Rr X (d + 1) MTo_going 9 L (.ref a :: st) (Wd mu la ro et) = (Rr X d MGo_isThere 0 [.ref a] [] (Wd mu la ro et)).bind fun q => Rr X (d + 1) MTo_going 12 L (psh q.1 st) q.2 := R_iv (av := []) d_MTo_going_9 fc_9_156 hO (ckS_le hc) rfl (Nat.le_of_ble_eq_true rfl) (Nat.le_of_ble_eq_true rfl)
theorem r_MTo_going_12 {x : Int32} : Rr X d MTo_going 12 L (.int x :: st) h = if x = 0 then Rr X d MTo_going 29 L st h else Rr X d MTo_going 15 L st h := R_if_eq d_MTo_going_12 (by decide)
theorem r_MTo_going_15 {l0 l1 : Value} {x : Int32} : Rr X d MTo_going 15 [l0, l1, .int x] st h = Rr X d MTo_going 16 [l0, l1, .int x] (.int x :: st) h := Rr_nx d_MTo_going_15 rfl
theorem r_MTo_going_16 {x : Int32} : Rr X d MTo_going 16 L (.int x :: st) h = if ¬ x = 0 then Rr X d MTo_going 29 L st h else Rr X d MTo_going 19 L st h := R_if_ne d_MTo_going_16 (by decide)
theorem r_MTo_going_19 {l1 l2 : Value} {x : Nat} : Rr X d MTo_going 19 [.ref x, l1, l2] st h = Rr X d MTo_going 20 [.ref x, l1, l2] (.ref x :: st) h := Rr_nx d_MTo_going_19 rfl
theorem r_MTo_going_20 {a : Nat} (hq : (qR a 9 5).isSome = true) : Rr X d MTo_going 20 L (.ref a :: st) (Wd mu la ro et) = Rr X d MTo_going 23 L (.ref (qRd a 9 5) :: st) (Wd mu la ro et) := R_gfR d_MTo_going_20 ff_9_44 hq
theorem ff_9_160 : fF 9 160 = some (4, 3, 0, 0) := rfl
theorem r_MTo_going_23 {a : Nat} (hq : qI a 4 3 = true) : Rr X d MTo_going 23 L (.ref a :: st) (Wd mu la ro et) = Rr X d MTo_going 26 L (.int (mu a 3) :: st) (Wd mu la ro et) := R_gfI d_MTo_going_23 ff_9_160 hq
theorem r_MTo_going_26 : Rr X d MTo_going 26 L st h = Rr X d MTo_going 31 L st h := R_goto d_MTo_going_26 (by decide)
theorem r_MTo_going_29 : Rr X d MTo_going 29 L st h = Rr X d MTo_going 31 L (.int (-2000000000) :: st) h := Rr_nx d_MTo_going_29 rfl
theorem r_MTo_going_31 {x : Int32} : Rr X d MTo_going 31 L [.int x] h = some (some (.int x), h) := R_ir d_MTo_going_31 rfl
theorem r_MTo_going_32 {l0 l2 : Value} {x : Int32} : Rr X d MTo_going 32 [l0, .int x, l2] st h = Rr X d MTo_going 33 [l0, .int x, l2] (.int x :: st) h := Rr_nx d_MTo_going_32 rfl
theorem r_MTo_going_33 : Rr X d MTo_going 33 L st h = Rr X d MTo_going 34 L (.int (0) :: st) h := Rr_nx d_MTo_going_33 rfl
theorem r_MTo_going_34 {l1 l2 : Value} {x : Nat} : Rr X d MTo_going 34 [.ref x, l1, l2] st h = Rr X d MTo_going 35 [.ref x, l1, l2] (.ref x :: st) h := Rr_nx d_MTo_going_34 rfl
theorem r_MTo_going_35 {a : Nat} (hq : (qR a 9 5).isSome = true) : Rr X d MTo_going 35 L (.ref a :: st) (Wd mu la ro et) = Rr X d MTo_going 38 L (.ref (qRd a 9 5) :: st) (Wd mu la ro et) := R_gfR d_MTo_going_35 ff_9_44 hq
theorem r_MTo_going_38 {a : Nat} (hq : qI a 4 3 = true) : Rr X d MTo_going 38 L (.ref a :: st) (Wd mu la ro et) = Rr X d MTo_going 41 L (.int (mu a 3) :: st) (Wd mu la ro et) := R_gfI d_MTo_going_38 ff_9_160 hq
theorem r_MTo_going_41 {y0 : Int32} {y1 : Int32} {y2 : Int32} (hc : ckS st = true) : Rr X (d + 1) MTo_going 41 L (.int y2 :: .int y1 :: .int y0 :: st) h = (Rr X d MTo_isWithin 0 [.int y0, .int y1, .int y2] [] h).bind fun q => Rr X (d + 1) MTo_going 44 L (psh q.1 st) q.2 := R_is (av := [.int y2, .int y1, .int y0]) d_MTo_going_41 (Or.inl fc_9_72) (ckS_le hc) rfl (Nat.le_of_ble_eq_true rfl) (Nat.le_of_ble_eq_true rfl)
theorem r_MTo_going_44 {x : Int32} : Rr X d MTo_going 44 L (.int x :: st) h = if x = 0 then Rr X d MTo_going 56 L st h else Rr X d MTo_going 47 L st h := R_if_eq d_MTo_going_44 (by decide)
theorem r_MTo_going_47 {l0 l1 : Value} {x : Int32} : Rr X d MTo_going 47 [l0, l1, .int x] st h = Rr X d MTo_going 48 [l0, l1, .int x] (.int x :: st) h := Rr_nx d_MTo_going_47 rfl
theorem r_MTo_going_48 : Rr X d MTo_going 48 L st h = Rr X d MTo_going 49 L (.int (0) :: st) h := Rr_nx d_MTo_going_48 rfl
theorem r_MTo_going_49 : Rr X d MTo_going 49 L st h = Rr X d MTo_going 50 L (.int (2) :: st) h := Rr_nx d_MTo_going_49 rfl
theorem r_MTo_going_50 {y0 : Int32} {y1 : Int32} {y2 : Int32} (hc : ckS st = true) : Rr X (d + 1) MTo_going 50 L (.int y2 :: .int y1 :: .int y0 :: st) h = (Rr X d MTo_isWithin 0 [.int y0, .int y1, .int y2] [] h).bind fun q => Rr X (d + 1) MTo_going 53 L (psh q.1 st) q.2 := R_is (av := [.int y2, .int y1, .int y0]) d_MTo_going_50 (Or.inl fc_9_72) (ckS_le hc) rfl (Nat.le_of_ble_eq_true rfl) (Nat.le_of_ble_eq_true rfl)
theorem r_MTo_going_53 {x : Int32} : Rr X d MTo_going 53 L (.int x :: st) h = if ¬ x = 0 then Rr X d MTo_going 59 L st h else Rr X d MTo_going 56 L st h := R_if_ne d_MTo_going_53 (by decide)
theorem r_MTo_going_56 : Rr X d MTo_going 56 L st h = Rr X d MTo_going 58 L (.int (-2000000000) :: st) h := Rr_nx d_MTo_going_56 rfl
theorem r_MTo_going_58 {x : Int32} : Rr X d MTo_going 58 L [.int x] h = some (some (.int x), h) := R_ir d_MTo_going_58 rfl
theorem r_MTo_going_59 {l1 l2 : Value} {x : Nat} : Rr X d MTo_going 59 [.ref x, l1, l2] st h = Rr X d MTo_going 60 [.ref x, l1, l2] (.ref x :: st) h := Rr_nx d_MTo_going_59 rfl
theorem r_MTo_going_60 {a : Nat} (hq : (qR a 9 5).isSome = true) : Rr X d MTo_going 60 L (.ref a :: st) (Wd mu la ro et) = Rr X d MTo_going 63 L (.ref (qRd a 9 5) :: st) (Wd mu la ro et) := R_gfR d_MTo_going_60 ff_9_44 hq
theorem r_MTo_going_63 {l0 l2 : Value} {x : Int32} : Rr X d MTo_going 63 [l0, .int x, l2] st h = Rr X d MTo_going 64 [l0, .int x, l2] (.int x :: st) h := Rr_nx d_MTo_going_63 rfl
theorem r_MTo_going_64 {l0 l1 : Value} {x : Int32} : Rr X d MTo_going 64 [l0, l1, .int x] st h = Rr X d MTo_going 65 [l0, l1, .int x] (.int x :: st) h := Rr_nx d_MTo_going_64 rfl
theorem fc_9_163 : fC 9 163 = some (0, 4, 2, MGo_at) := rfl
theorem r_MTo_going_65 {y0 : Int32} {y1 : Int32} {a : Nat} (hO : qO a 4 = true) (hc : ckS st = true) : Rr X (d + 1) MTo_going 65 L (.int y1 :: .int y0 :: .ref a :: st) (Wd mu la ro et) = (Rr X d MGo_at 0 [.ref a, .int y0, .int y1] [] (Wd mu la ro et)).bind fun q => Rr X (d + 1) MTo_going 68 L (psh q.1 st) q.2 := R_iv (av := [.int y1, .int y0]) d_MTo_going_65 fc_9_163 hO (ckS_le hc) rfl (Nat.le_of_ble_eq_true rfl) (Nat.le_of_ble_eq_true rfl)
theorem r_MTo_going_68 {x : Int32} : Rr X d MTo_going 68 L [.int x] h = some (some (.int x), h) := R_ir d_MTo_going_68 rfl
theorem d_MTo_back_0 : decode MTo_back.2.2.1 0 = .ok (.iload_n 1, 1) := by decide +kernel
theorem d_MTo_back_1 : decode MTo_back.2.2.1 1 = .ok (.iconst (-1), 1) := by decide +kernel
theorem d_MTo_back_2 : decode MTo_back.2.2.1 2 = .ok (.if_icmp .ge 5, 3) := by decide +kernel
theorem d_MTo_back_5 : decode MTo_back.2.2.1 5 = .ok (.iconst (-1), 1) := by decide +kernel
theorem d_MTo_back_6 : decode MTo_back.2.2.1 6 = .ok (.ireturn, 1) := by decide +kernel
theorem d_MTo_back_7 : decode MTo_back.2.2.1 7 = .ok (.aload_n 0, 1) := by decide +kernel
theorem d_MTo_back_8 : decode MTo_back.2.2.1 8 = .ok (.getfield 44, 3) := by decide +kernel
theorem d_MTo_back_11 : decode MTo_back.2.2.1 11 = .ok (.invokevirtual 156, 3) := by decide +kernel
theorem d_MTo_back_14 : decode MTo_back.2.2.1 14 = .ok (.ifCond .ne 6, 3) := by decide +kernel
theorem d_MTo_back_17 : decode MTo_back.2.2.1 17 = .ok (.bipush (-5), 2) := by decide +kernel
theorem d_MTo_back_19 : decode MTo_back.2.2.1 19 = .ok (.ireturn, 1) := by decide +kernel
theorem d_MTo_back_20 : decode MTo_back.2.2.1 20 = .ok (.iload_n 1, 1) := by decide +kernel
theorem d_MTo_back_21 : decode MTo_back.2.2.1 21 = .ok (.iconst (-1), 1) := by decide +kernel
theorem d_MTo_back_22 : decode MTo_back.2.2.1 22 = .ok (.if_icmp .ne 13, 3) := by decide +kernel
theorem d_MTo_back_25 : decode MTo_back.2.2.1 25 = .ok (.aload_n 0, 1) := by decide +kernel
theorem d_MTo_back_26 : decode MTo_back.2.2.1 26 = .ok (.getfield 44, 3) := by decide +kernel
theorem d_MTo_back_29 : decode MTo_back.2.2.1 29 = .ok (.getfield 165, 3) := by decide +kernel
theorem d_MTo_back_32 : decode MTo_back.2.2.1 32 = .ok (.goto 11, 3) := by decide +kernel
theorem d_MTo_back_35 : decode MTo_back.2.2.1 35 = .ok (.aload_n 0, 1) := by decide +kernel
theorem d_MTo_back_36 : decode MTo_back.2.2.1 36 = .ok (.getfield 44, 3) := by decide +kernel
theorem d_MTo_back_39 : decode MTo_back.2.2.1 39 = .ok (.iload_n 1, 1) := by decide +kernel
theorem d_MTo_back_40 : decode MTo_back.2.2.1 40 = .ok (.invokevirtual 168, 3) := by decide +kernel
theorem d_MTo_back_43 : decode MTo_back.2.2.1 43 = .ok (.ireturn, 1) := by decide +kernel
theorem r_MTo_back_0 {l0 : Value} {x : Int32} : Rr X d MTo_back 0 [l0, .int x] st h = Rr X d MTo_back 1 [l0, .int x] (.int x :: st) h := Rr_nx d_MTo_back_0 rfl
theorem r_MTo_back_1 : Rr X d MTo_back 1 L st h = Rr X d MTo_back 2 L (.int (-1) :: st) h := Rr_nx d_MTo_back_1 rfl
theorem r_MTo_back_2 {x y : Int32} : Rr X d MTo_back 2 L (.int y :: .int x :: st) h = if y ≤ x then Rr X d MTo_back 7 L st h else Rr X d MTo_back 5 L st h := R_ic_ge d_MTo_back_2 (by decide)
theorem r_MTo_back_5 : Rr X d MTo_back 5 L st h = Rr X d MTo_back 6 L (.int (-1) :: st) h := Rr_nx d_MTo_back_5 rfl
theorem r_MTo_back_6 {x : Int32} : Rr X d MTo_back 6 L [.int x] h = some (some (.int x), h) := R_ir d_MTo_back_6 rfl
theorem r_MTo_back_7 {l1 : Value} {x : Nat} : Rr X d MTo_back 7 [.ref x, l1] st h = Rr X d MTo_back 8 [.ref x, l1] (.ref x :: st) h := Rr_nx d_MTo_back_7 rfl
theorem r_MTo_back_8 {a : Nat} (hq : (qR a 9 5).isSome = true) : Rr X d MTo_back 8 L (.ref a :: st) (Wd mu la ro et) = Rr X d MTo_back 11 L (.ref (qRd a 9 5) :: st) (Wd mu la ro et) := R_gfR d_MTo_back_8 ff_9_44 hq
theorem r_MTo_back_11 {a : Nat} (hO : qO a 4 = true) (hc : ckS st = true) : Rr X (d + 1) MTo_back 11 L (.ref a :: st) (Wd mu la ro et) = (Rr X d MGo_isThere 0 [.ref a] [] (Wd mu la ro et)).bind fun q => Rr X (d + 1) MTo_back 14 L (psh q.1 st) q.2 := R_iv (av := []) d_MTo_back_11 fc_9_156 hO (ckS_le hc) rfl (Nat.le_of_ble_eq_true rfl) (Nat.le_of_ble_eq_true rfl)
theorem r_MTo_back_14 {x : Int32} : Rr X d MTo_back 14 L (.int x :: st) h = if ¬ x = 0 then Rr X d MTo_back 20 L st h else Rr X d MTo_back 17 L st h := R_if_ne d_MTo_back_14 (by decide)
theorem r_MTo_back_17 : Rr X d MTo_back 17 L st h = Rr X d MTo_back 19 L (.int (-5) :: st) h := Rr_nx d_MTo_back_17 rfl
theorem r_MTo_back_19 {x : Int32} : Rr X d MTo_back 19 L [.int x] h = some (some (.int x), h) := R_ir d_MTo_back_19 rfl
theorem r_MTo_back_20 {l0 : Value} {x : Int32} : Rr X d MTo_back 20 [l0, .int x] st h = Rr X d MTo_back 21 [l0, .int x] (.int x :: st) h := Rr_nx d_MTo_back_20 rfl
theorem r_MTo_back_21 : Rr X d MTo_back 21 L st h = Rr X d MTo_back 22 L (.int (-1) :: st) h := Rr_nx d_MTo_back_21 rfl
theorem r_MTo_back_22 {x y : Int32} : Rr X d MTo_back 22 L (.int y :: .int x :: st) h = if ¬ x = y then Rr X d MTo_back 35 L st h else Rr X d MTo_back 25 L st h := R_ic_ne d_MTo_back_22 (by decide)
theorem r_MTo_back_25 {l1 : Value} {x : Nat} : Rr X d MTo_back 25 [.ref x, l1] st h = Rr X d MTo_back 26 [.ref x, l1] (.ref x :: st) h := Rr_nx d_MTo_back_25 rfl
theorem r_MTo_back_26 {a : Nat} (hq : (qR a 9 5).isSome = true) : Rr X d MTo_back 26 L (.ref a :: st) (Wd mu la ro et) = Rr X d MTo_back 29 L (.ref (qRd a 9 5) :: st) (Wd mu la ro et) := R_gfR d_MTo_back_26 ff_9_44 hq
theorem ff_9_165 : fF 9 165 = some (4, 4, 0, 0) := rfl
theorem r_MTo_back_29 {a : Nat} (hq : qI a 4 4 = true) : Rr X d MTo_back 29 L (.ref a :: st) (Wd mu la ro et) = Rr X d MTo_back 32 L (.int (mu a 4) :: st) (Wd mu la ro et) := R_gfI d_MTo_back_29 ff_9_165 hq
theorem r_MTo_back_32 : Rr X d MTo_back 32 L st h = Rr X d MTo_back 43 L st h := R_goto d_MTo_back_32 (by decide)
theorem r_MTo_back_35 {l1 : Value} {x : Nat} : Rr X d MTo_back 35 [.ref x, l1] st h = Rr X d MTo_back 36 [.ref x, l1] (.ref x :: st) h := Rr_nx d_MTo_back_35 rfl
theorem r_MTo_back_36 {a : Nat} (hq : (qR a 9 5).isSome = true) : Rr X d MTo_back 36 L (.ref a :: st) (Wd mu la ro et) = Rr X d MTo_back 39 L (.ref (qRd a 9 5) :: st) (Wd mu la ro et) := R_gfR d_MTo_back_36 ff_9_44 hq
theorem r_MTo_back_39 {l0 : Value} {x : Int32} : Rr X d MTo_back 39 [l0, .int x] st h = Rr X d MTo_back 40 [l0, .int x] (.int x :: st) h := Rr_nx d_MTo_back_39 rfl
theorem fc_9_168 : fC 9 168 = some (0, 4, 1, MGo_backTick) := rfl
theorem r_MTo_back_40 {y0 : Int32} {a : Nat} (hO : qO a 4 = true) (hc : ckS st = true) : Rr X (d + 1) MTo_back 40 L (.int y0 :: .ref a :: st) (Wd mu la ro et) = (Rr X d MGo_backTick 0 [.ref a, .int y0, mkU, mkU, mkU, mkU] [] (Wd mu la ro et)).bind fun q => Rr X (d + 1) MTo_back 43 L (psh q.1 st) q.2 := R_iv (av := [.int y0]) d_MTo_back_40 fc_9_168 hO (ckS_le hc) rfl (Nat.le_of_ble_eq_true rfl) (Nat.le_of_ble_eq_true rfl)
theorem r_MTo_back_43 {x : Int32} : Rr X d MTo_back 43 L [.int x] h = some (some (.int x), h) := R_ir d_MTo_back_43 rfl
theorem d_MTo_told_0 : decode MTo_told.2.2.1 0 = .ok (.aload_n 0, 1) := by decide +kernel
theorem d_MTo_told_1 : decode MTo_told.2.2.1 1 = .ok (.getfield 44, 3) := by decide +kernel
theorem d_MTo_told_4 : decode MTo_told.2.2.1 4 = .ok (.invokevirtual 156, 3) := by decide +kernel
theorem d_MTo_told_7 : decode MTo_told.2.2.1 7 = .ok (.ifCond .eq 12, 3) := by decide +kernel
theorem d_MTo_told_10 : decode MTo_told.2.2.1 10 = .ok (.iload_n 1, 1) := by decide +kernel
theorem d_MTo_told_11 : decode MTo_told.2.2.1 11 = .ok (.iconst 0, 1) := by decide +kernel
theorem d_MTo_told_12 : decode MTo_told.2.2.1 12 = .ok (.iconst 4, 1) := by decide +kernel
theorem d_MTo_told_13 : decode MTo_told.2.2.1 13 = .ok (.invokestatic 72, 3) := by decide +kernel
theorem d_MTo_told_16 : decode MTo_told.2.2.1 16 = .ok (.ifCond .ne 8, 3) := by decide +kernel
theorem d_MTo_told_19 : decode MTo_told.2.2.1 19 = .ok (.ldc 104, 2) := by decide +kernel
theorem d_MTo_told_21 : decode MTo_told.2.2.1 21 = .ok (.goto 11, 3) := by decide +kernel
theorem d_MTo_told_24 : decode MTo_told.2.2.1 24 = .ok (.aload_n 0, 1) := by decide +kernel
theorem d_MTo_told_25 : decode MTo_told.2.2.1 25 = .ok (.getfield 44, 3) := by decide +kernel
theorem d_MTo_told_28 : decode MTo_told.2.2.1 28 = .ok (.iload_n 1, 1) := by decide +kernel
theorem d_MTo_told_29 : decode MTo_told.2.2.1 29 = .ok (.invokevirtual 171, 3) := by decide +kernel
theorem d_MTo_told_32 : decode MTo_told.2.2.1 32 = .ok (.ireturn, 1) := by decide +kernel
theorem r_MTo_told_0 {l1 : Value} {x : Nat} : Rr X d MTo_told 0 [.ref x, l1] st h = Rr X d MTo_told 1 [.ref x, l1] (.ref x :: st) h := Rr_nx d_MTo_told_0 rfl
theorem r_MTo_told_1 {a : Nat} (hq : (qR a 9 5).isSome = true) : Rr X d MTo_told 1 L (.ref a :: st) (Wd mu la ro et) = Rr X d MTo_told 4 L (.ref (qRd a 9 5) :: st) (Wd mu la ro et) := R_gfR d_MTo_told_1 ff_9_44 hq
theorem r_MTo_told_4 {a : Nat} (hO : qO a 4 = true) (hc : ckS st = true) : Rr X (d + 1) MTo_told 4 L (.ref a :: st) (Wd mu la ro et) = (Rr X d MGo_isThere 0 [.ref a] [] (Wd mu la ro et)).bind fun q => Rr X (d + 1) MTo_told 7 L (psh q.1 st) q.2 := R_iv (av := []) d_MTo_told_4 fc_9_156 hO (ckS_le hc) rfl (Nat.le_of_ble_eq_true rfl) (Nat.le_of_ble_eq_true rfl)
theorem r_MTo_told_7 {x : Int32} : Rr X d MTo_told 7 L (.int x :: st) h = if x = 0 then Rr X d MTo_told 19 L st h else Rr X d MTo_told 10 L st h := R_if_eq d_MTo_told_7 (by decide)
theorem r_MTo_told_10 {l0 : Value} {x : Int32} : Rr X d MTo_told 10 [l0, .int x] st h = Rr X d MTo_told 11 [l0, .int x] (.int x :: st) h := Rr_nx d_MTo_told_10 rfl
theorem r_MTo_told_11 : Rr X d MTo_told 11 L st h = Rr X d MTo_told 12 L (.int (0) :: st) h := Rr_nx d_MTo_told_11 rfl
theorem r_MTo_told_12 : Rr X d MTo_told 12 L st h = Rr X d MTo_told 13 L (.int (4) :: st) h := Rr_nx d_MTo_told_12 rfl
theorem r_MTo_told_13 {y0 : Int32} {y1 : Int32} {y2 : Int32} (hc : ckS st = true) : Rr X (d + 1) MTo_told 13 L (.int y2 :: .int y1 :: .int y0 :: st) h = (Rr X d MTo_isWithin 0 [.int y0, .int y1, .int y2] [] h).bind fun q => Rr X (d + 1) MTo_told 16 L (psh q.1 st) q.2 := R_is (av := [.int y2, .int y1, .int y0]) d_MTo_told_13 (Or.inl fc_9_72) (ckS_le hc) rfl (Nat.le_of_ble_eq_true rfl) (Nat.le_of_ble_eq_true rfl)
theorem r_MTo_told_16 {x : Int32} : Rr X d MTo_told 16 L (.int x :: st) h = if ¬ x = 0 then Rr X d MTo_told 24 L st h else Rr X d MTo_told 19 L st h := R_if_ne d_MTo_told_16 (by decide)
theorem r_MTo_told_19 : Rr X d MTo_told 19 L st h = Rr X d MTo_told 21 L (.int (-2000000000) :: st) h := Rr_nx d_MTo_told_19 rfl
theorem r_MTo_told_21 : Rr X d MTo_told 21 L st h = Rr X d MTo_told 32 L st h := R_goto d_MTo_told_21 (by decide)
theorem r_MTo_told_24 {l1 : Value} {x : Nat} : Rr X d MTo_told 24 [.ref x, l1] st h = Rr X d MTo_told 25 [.ref x, l1] (.ref x :: st) h := Rr_nx d_MTo_told_24 rfl
theorem r_MTo_told_25 {a : Nat} (hq : (qR a 9 5).isSome = true) : Rr X d MTo_told 25 L (.ref a :: st) (Wd mu la ro et) = Rr X d MTo_told 28 L (.ref (qRd a 9 5) :: st) (Wd mu la ro et) := R_gfR d_MTo_told_25 ff_9_44 hq
theorem r_MTo_told_28 {l0 : Value} {x : Int32} : Rr X d MTo_told 28 [l0, .int x] st h = Rr X d MTo_told 29 [l0, .int x] (.int x :: st) h := Rr_nx d_MTo_told_28 rfl
theorem fc_9_171 : fC 9 171 = some (0, 4, 1, MGo_summary) := rfl
theorem r_MTo_told_29 {y0 : Int32} {a : Nat} (hO : qO a 4 = true) (hc : ckS st = true) : Rr X (d + 1) MTo_told 29 L (.int y0 :: .ref a :: st) (Wd mu la ro et) = (Rr X d MGo_summary 0 [.ref a, .int y0] [] (Wd mu la ro et)).bind fun q => Rr X (d + 1) MTo_told 32 L (psh q.1 st) q.2 := R_iv (av := [.int y0]) d_MTo_told_29 fc_9_171 hO (ckS_le hc) rfl (Nat.le_of_ble_eq_true rfl) (Nat.le_of_ble_eq_true rfl)
theorem r_MTo_told_32 {x : Int32} : Rr X d MTo_told 32 L [.int x] h = some (some (.int x), h) := R_ir d_MTo_told_32 rfl
theorem d_MTo_even_0 : decode MTo_even.2.2.1 0 = .ok (.aload_n 0, 1) := by decide +kernel
theorem d_MTo_even_1 : decode MTo_even.2.2.1 1 = .ok (.iload_n 1, 1) := by decide +kernel
theorem d_MTo_even_2 : decode MTo_even.2.2.1 2 = .ok (.invokevirtual 100, 3) := by decide +kernel
theorem d_MTo_even_5 : decode MTo_even.2.2.1 5 = .ok (.astore 5, 2) := by decide +kernel
theorem d_MTo_even_7 : decode MTo_even.2.2.1 7 = .ok (.aload 5, 2) := by decide +kernel
theorem d_MTo_even_9 : decode MTo_even.2.2.1 9 = .ok (.ifnull 22, 3) := by decide +kernel
theorem d_MTo_even_12 : decode MTo_even.2.2.1 12 = .ok (.iload_n 2, 1) := by decide +kernel
theorem d_MTo_even_13 : decode MTo_even.2.2.1 13 = .ok (.iload_n 3, 1) := by decide +kernel
theorem d_MTo_even_14 : decode MTo_even.2.2.1 14 = .ok (.invokestatic 139, 3) := by decide +kernel
theorem d_MTo_even_17 : decode MTo_even.2.2.1 17 = .ok (.ifCond .eq 14, 3) := by decide +kernel
theorem d_MTo_even_20 : decode MTo_even.2.2.1 20 = .ok (.iload 4, 2) := by decide +kernel
theorem d_MTo_even_22 : decode MTo_even.2.2.1 22 = .ok (.iconst 0, 1) := by decide +kernel
theorem d_MTo_even_23 : decode MTo_even.2.2.1 23 = .ok (.bipush 99, 2) := by decide +kernel
theorem d_MTo_even_25 : decode MTo_even.2.2.1 25 = .ok (.invokestatic 72, 3) := by decide +kernel
theorem d_MTo_even_28 : decode MTo_even.2.2.1 28 = .ok (.ifCond .ne 5, 3) := by decide +kernel
theorem d_MTo_even_31 : decode MTo_even.2.2.1 31 = .ok (.iconst (-1), 1) := by decide +kernel
theorem d_MTo_even_32 : decode MTo_even.2.2.1 32 = .ok (.ireturn, 1) := by decide +kernel
theorem d_MTo_even_33 : decode MTo_even.2.2.1 33 = .ok (.aload_n 0, 1) := by decide +kernel
theorem d_MTo_even_34 : decode MTo_even.2.2.1 34 = .ok (.getfield 37, 3) := by decide +kernel
theorem d_MTo_even_37 : decode MTo_even.2.2.1 37 = .ok (.aload 5, 2) := by decide +kernel
theorem d_MTo_even_39 : decode MTo_even.2.2.1 39 = .ok (.aload 5, 2) := by decide +kernel
theorem d_MTo_even_41 : decode MTo_even.2.2.1 41 = .ok (.invokevirtual 131, 3) := by decide +kernel
theorem d_MTo_even_44 : decode MTo_even.2.2.1 44 = .ok (.aconst_null, 1) := by decide +kernel
theorem d_MTo_even_45 : decode MTo_even.2.2.1 45 = .ok (.invokevirtual 174, 3) := by decide +kernel
theorem d_MTo_even_48 : decode MTo_even.2.2.1 48 = .ok (.aload_n 0, 1) := by decide +kernel
theorem d_MTo_even_49 : decode MTo_even.2.2.1 49 = .ok (.getfield 37, 3) := by decide +kernel
theorem d_MTo_even_52 : decode MTo_even.2.2.1 52 = .ok (.iload 4, 2) := by decide +kernel
theorem d_MTo_even_54 : decode MTo_even.2.2.1 54 = .ok (.putfield 178, 3) := by decide +kernel
theorem d_MTo_even_57 : decode MTo_even.2.2.1 57 = .ok (.aload_n 0, 1) := by decide +kernel
theorem d_MTo_even_58 : decode MTo_even.2.2.1 58 = .ok (.iload_n 2, 1) := by decide +kernel
theorem d_MTo_even_59 : decode MTo_even.2.2.1 59 = .ok (.iload_n 3, 1) := by decide +kernel
theorem d_MTo_even_60 : decode MTo_even.2.2.1 60 = .ok (.invokevirtual 145, 3) := by decide +kernel
theorem d_MTo_even_63 : decode MTo_even.2.2.1 63 = .ok (.aload_n 0, 1) := by decide +kernel
theorem d_MTo_even_64 : decode MTo_even.2.2.1 64 = .ok (.getfield 37, 3) := by decide +kernel
theorem d_MTo_even_67 : decode MTo_even.2.2.1 67 = .ok (.sipush 400, 3) := by decide +kernel
theorem d_MTo_even_70 : decode MTo_even.2.2.1 70 = .ok (.invokevirtual 181, 3) := by decide +kernel
theorem d_MTo_even_73 : decode MTo_even.2.2.1 73 = .ok (.aload_n 0, 1) := by decide +kernel
theorem d_MTo_even_74 : decode MTo_even.2.2.1 74 = .ok (.getfield 37, 3) := by decide +kernel
theorem d_MTo_even_77 : decode MTo_even.2.2.1 77 = .ok (.getfield 184, 3) := by decide +kernel
theorem d_MTo_even_80 : decode MTo_even.2.2.1 80 = .ok (.ireturn, 1) := by decide +kernel
theorem r_MTo_even_0 {l1 l2 l3 l4 l5 : Value} {x : Nat} : Rr X d MTo_even 0 [.ref x, l1, l2, l3, l4, l5] st h = Rr X d MTo_even 1 [.ref x, l1, l2, l3, l4, l5] (.ref x :: st) h := Rr_nx d_MTo_even_0 rfl
theorem r_MTo_even_1 {l0 l2 l3 l4 l5 : Value} {x : Int32} : Rr X d MTo_even 1 [l0, .int x, l2, l3, l4, l5] st h = Rr X d MTo_even 2 [l0, .int x, l2, l3, l4, l5] (.int x :: st) h := Rr_nx d_MTo_even_1 rfl
theorem r_MTo_even_2 {y0 : Int32} {a : Nat} (hO : qO a 9 = true) (hc : ckS st = true) : Rr X (d + 1) MTo_even 2 L (.int y0 :: .ref a :: st) (Wd mu la ro et) = (Rr X d MTo_stoneAt 0 [.ref a, .int y0] [] (Wd mu la ro et)).bind fun q => Rr X (d + 1) MTo_even 5 L (psh q.1 st) q.2 := R_iv (av := [.int y0]) d_MTo_even_2 fc_9_100 hO (ckS_le hc) rfl (Nat.le_of_ble_eq_true rfl) (Nat.le_of_ble_eq_true rfl)
theorem r_MTo_even_5 {l0 l1 l2 l3 l4 l5 : Value} {x : Nat} : Rr X d MTo_even 5 [l0, l1, l2, l3, l4, l5] (.ref x :: st) h = Rr X d MTo_even 7 (sL [l0, l1, l2, l3, l4, l5] 5 (.ref x)) st h := Rr_nx d_MTo_even_5 rfl
theorem r_MTo_even_5n {l0 l1 l2 l3 l4 l5 : Value} : Rr X d MTo_even 5 [l0, l1, l2, l3, l4, l5] (.null :: st) h = Rr X d MTo_even 7 (sL [l0, l1, l2, l3, l4, l5] 5 .null) st h := Rr_nx d_MTo_even_5 rfl
theorem r_MTo_even_7 {l0 l1 l2 l3 l4 : Value} {x : Nat} : Rr X d MTo_even 7 [l0, l1, l2, l3, l4, .ref x] st h = Rr X d MTo_even 9 [l0, l1, l2, l3, l4, .ref x] (.ref x :: st) h := Rr_nx d_MTo_even_7 rfl
theorem r_MTo_even_7n {l0 l1 l2 l3 l4 : Value} : Rr X d MTo_even 7 [l0, l1, l2, l3, l4, .null] st h = Rr X d MTo_even 9 [l0, l1, l2, l3, l4, .null] (.null :: st) h := Rr_nx d_MTo_even_7 rfl
theorem r_MTo_even_9 {x : Nat} : Rr X d MTo_even 9 L (.ref x :: st) h = Rr X d MTo_even 12 L st h := R_nul1 d_MTo_even_9
theorem r_MTo_even_9n : Rr X d MTo_even 9 L (.null :: st) h = Rr X d MTo_even 31 L st h := R_nul0 d_MTo_even_9 (by decide)
theorem r_MTo_even_12 {l0 l1 l3 l4 l5 : Value} {x : Int32} : Rr X d MTo_even 12 [l0, l1, .int x, l3, l4, l5] st h = Rr X d MTo_even 13 [l0, l1, .int x, l3, l4, l5] (.int x :: st) h := Rr_nx d_MTo_even_12 rfl
theorem r_MTo_even_13 {l0 l1 l2 l4 l5 : Value} {x : Int32} : Rr X d MTo_even 13 [l0, l1, l2, .int x, l4, l5] st h = Rr X d MTo_even 14 [l0, l1, l2, .int x, l4, l5] (.int x :: st) h := Rr_nx d_MTo_even_13 rfl
theorem r_MTo_even_14 {y0 : Int32} {y1 : Int32} (hc : ckS st = true) : Rr X (d + 1) MTo_even 14 L (.int y1 :: .int y0 :: st) h = (Rr X d MTo_isStart 0 [.int y0, .int y1] [] h).bind fun q => Rr X (d + 1) MTo_even 17 L (psh q.1 st) q.2 := R_is (av := [.int y1, .int y0]) d_MTo_even_14 (Or.inl fc_9_139) (ckS_le hc) rfl (Nat.le_of_ble_eq_true rfl) (Nat.le_of_ble_eq_true rfl)
theorem r_MTo_even_17 {x : Int32} : Rr X d MTo_even 17 L (.int x :: st) h = if x = 0 then Rr X d MTo_even 31 L st h else Rr X d MTo_even 20 L st h := R_if_eq d_MTo_even_17 (by decide)
theorem r_MTo_even_20 {l0 l1 l2 l3 l5 : Value} {x : Int32} : Rr X d MTo_even 20 [l0, l1, l2, l3, .int x, l5] st h = Rr X d MTo_even 22 [l0, l1, l2, l3, .int x, l5] (.int x :: st) h := Rr_nx d_MTo_even_20 rfl
theorem r_MTo_even_22 : Rr X d MTo_even 22 L st h = Rr X d MTo_even 23 L (.int (0) :: st) h := Rr_nx d_MTo_even_22 rfl
theorem r_MTo_even_23 : Rr X d MTo_even 23 L st h = Rr X d MTo_even 25 L (.int (99) :: st) h := Rr_nx d_MTo_even_23 rfl
theorem r_MTo_even_25 {y0 : Int32} {y1 : Int32} {y2 : Int32} (hc : ckS st = true) : Rr X (d + 1) MTo_even 25 L (.int y2 :: .int y1 :: .int y0 :: st) h = (Rr X d MTo_isWithin 0 [.int y0, .int y1, .int y2] [] h).bind fun q => Rr X (d + 1) MTo_even 28 L (psh q.1 st) q.2 := R_is (av := [.int y2, .int y1, .int y0]) d_MTo_even_25 (Or.inl fc_9_72) (ckS_le hc) rfl (Nat.le_of_ble_eq_true rfl) (Nat.le_of_ble_eq_true rfl)
theorem r_MTo_even_28 {x : Int32} : Rr X d MTo_even 28 L (.int x :: st) h = if ¬ x = 0 then Rr X d MTo_even 33 L st h else Rr X d MTo_even 31 L st h := R_if_ne d_MTo_even_28 (by decide)
theorem r_MTo_even_31 : Rr X d MTo_even 31 L st h = Rr X d MTo_even 32 L (.int (-1) :: st) h := Rr_nx d_MTo_even_31 rfl
theorem r_MTo_even_32 {x : Int32} : Rr X d MTo_even 32 L [.int x] h = some (some (.int x), h) := R_ir d_MTo_even_32 rfl
theorem r_MTo_even_33 {l1 l2 l3 l4 l5 : Value} {x : Nat} : Rr X d MTo_even 33 [.ref x, l1, l2, l3, l4, l5] st h = Rr X d MTo_even 34 [.ref x, l1, l2, l3, l4, l5] (.ref x :: st) h := Rr_nx d_MTo_even_33 rfl
theorem r_MTo_even_34 {a : Nat} (hq : (qR a 9 4).isSome = true) : Rr X d MTo_even 34 L (.ref a :: st) (Wd mu la ro et) = Rr X d MTo_even 37 L (.ref (qRd a 9 4) :: st) (Wd mu la ro et) := R_gfR d_MTo_even_34 ff_9_37 hq
theorem r_MTo_even_37 {l0 l1 l2 l3 l4 : Value} {x : Nat} : Rr X d MTo_even 37 [l0, l1, l2, l3, l4, .ref x] st h = Rr X d MTo_even 39 [l0, l1, l2, l3, l4, .ref x] (.ref x :: st) h := Rr_nx d_MTo_even_37 rfl
theorem r_MTo_even_37n {l0 l1 l2 l3 l4 : Value} : Rr X d MTo_even 37 [l0, l1, l2, l3, l4, .null] st h = Rr X d MTo_even 39 [l0, l1, l2, l3, l4, .null] (.null :: st) h := Rr_nx d_MTo_even_37 rfl
theorem r_MTo_even_39 {l0 l1 l2 l3 l4 : Value} {x : Nat} : Rr X d MTo_even 39 [l0, l1, l2, l3, l4, .ref x] st h = Rr X d MTo_even 41 [l0, l1, l2, l3, l4, .ref x] (.ref x :: st) h := Rr_nx d_MTo_even_39 rfl
theorem r_MTo_even_39n {l0 l1 l2 l3 l4 : Value} : Rr X d MTo_even 39 [l0, l1, l2, l3, l4, .null] st h = Rr X d MTo_even 41 [l0, l1, l2, l3, l4, .null] (.null :: st) h := Rr_nx d_MTo_even_39 rfl
theorem r_MTo_even_41 {a : Nat} (hO : qO a 7 = true) (hc : ckS st = true) : Rr X (d + 1) MTo_even 41 L (.ref a :: st) (Wd mu la ro et) = (Rr X d MSt_keen 0 [.ref a] [] (Wd mu la ro et)).bind fun q => Rr X (d + 1) MTo_even 44 L (psh q.1 st) q.2 := R_iv (av := []) d_MTo_even_41 fc_9_131 hO (ckS_le hc) rfl (Nat.le_of_ble_eq_true rfl) (Nat.le_of_ble_eq_true rfl)
theorem r_MTo_even_44 : Rr X d MTo_even 44 L st h = Rr X d MTo_even 45 L (.null :: st) h := Rr_nx d_MTo_even_44 rfl
theorem fc_9_174 : fC 9 174 = some (0, 5, 3, MMo_rule) := rfl
theorem r_MTo_even_45 {y0 : Nat} {y1 : Int32} {y2 : Nat} {a : Nat} (hO : qO a 5 = true) (hc : ckS st = true) : Rr X (d + 1) MTo_even 45 L (.ref y2 :: .int y1 :: .ref y0 :: .ref a :: st) (Wd mu la ro et) = (Rr X d MMo_rule 0 [.ref a, .ref y0, .int y1, .ref y2] [] (Wd mu la ro et)).bind fun q => Rr X (d + 1) MTo_even 48 L (psh q.1 st) q.2 := R_iv (av := [.ref y2, .int y1, .ref y0]) d_MTo_even_45 fc_9_174 hO (ckS_le hc) rfl (Nat.le_of_ble_eq_true rfl) (Nat.le_of_ble_eq_true rfl)
theorem r_MTo_even_48 {l1 l2 l3 l4 l5 : Value} {x : Nat} : Rr X d MTo_even 48 [.ref x, l1, l2, l3, l4, l5] st h = Rr X d MTo_even 49 [.ref x, l1, l2, l3, l4, l5] (.ref x :: st) h := Rr_nx d_MTo_even_48 rfl
theorem r_MTo_even_49 {a : Nat} (hq : (qR a 9 4).isSome = true) : Rr X d MTo_even 49 L (.ref a :: st) (Wd mu la ro et) = Rr X d MTo_even 52 L (.ref (qRd a 9 4) :: st) (Wd mu la ro et) := R_gfR d_MTo_even_49 ff_9_37 hq
theorem r_MTo_even_52 {l0 l1 l2 l3 l5 : Value} {x : Int32} : Rr X d MTo_even 52 [l0, l1, l2, l3, .int x, l5] st h = Rr X d MTo_even 54 [l0, l1, l2, l3, .int x, l5] (.int x :: st) h := Rr_nx d_MTo_even_52 rfl
theorem ff_9_178 : fF 9 178 = some (5, 6, 0, 0) := rfl
theorem r_MTo_even_54 {a : Nat} {x : Int32} (hq : qI a 5 6 = true) : Rr X d MTo_even 54 L (.int x :: .ref a :: st) (Wd mu la ro et) = Rr X d MTo_even 57 L st (Wd (up2 mu a 6 x) la ro et) := R_pfI d_MTo_even_54 ff_9_178 hq
theorem r_MTo_even_57 {l1 l2 l3 l4 l5 : Value} {x : Nat} : Rr X d MTo_even 57 [.ref x, l1, l2, l3, l4, l5] st h = Rr X d MTo_even 58 [.ref x, l1, l2, l3, l4, l5] (.ref x :: st) h := Rr_nx d_MTo_even_57 rfl
theorem r_MTo_even_58 {l0 l1 l3 l4 l5 : Value} {x : Int32} : Rr X d MTo_even 58 [l0, l1, .int x, l3, l4, l5] st h = Rr X d MTo_even 59 [l0, l1, .int x, l3, l4, l5] (.int x :: st) h := Rr_nx d_MTo_even_58 rfl
theorem r_MTo_even_59 {l0 l1 l2 l4 l5 : Value} {x : Int32} : Rr X d MTo_even 59 [l0, l1, l2, .int x, l4, l5] st h = Rr X d MTo_even 60 [l0, l1, l2, .int x, l4, l5] (.int x :: st) h := Rr_nx d_MTo_even_59 rfl
theorem r_MTo_even_60 {y0 : Int32} {y1 : Int32} {a : Nat} (hO : qO a 9 = true) (hc : ckS st = true) : Rr X (d + 1) MTo_even 60 L (.int y1 :: .int y0 :: .ref a :: st) (Wd mu la ro et) = (Rr X d MTo_start 0 [.ref a, .int y0, .int y1] [] (Wd mu la ro et)).bind fun q => Rr X (d + 1) MTo_even 63 L (psh q.1 st) q.2 := R_iv (av := [.int y1, .int y0]) d_MTo_even_60 fc_9_145 hO (ckS_le hc) rfl (Nat.le_of_ble_eq_true rfl) (Nat.le_of_ble_eq_true rfl)
theorem r_MTo_even_63 {l1 l2 l3 l4 l5 : Value} {x : Nat} : Rr X d MTo_even 63 [.ref x, l1, l2, l3, l4, l5] st h = Rr X d MTo_even 64 [.ref x, l1, l2, l3, l4, l5] (.ref x :: st) h := Rr_nx d_MTo_even_63 rfl
theorem r_MTo_even_64 {a : Nat} (hq : (qR a 9 4).isSome = true) : Rr X d MTo_even 64 L (.ref a :: st) (Wd mu la ro et) = Rr X d MTo_even 67 L (.ref (qRd a 9 4) :: st) (Wd mu la ro et) := R_gfR d_MTo_even_64 ff_9_37 hq
theorem r_MTo_even_67 : Rr X d MTo_even 67 L st h = Rr X d MTo_even 70 L (.int (400) :: st) h := Rr_nx d_MTo_even_67 rfl
theorem fc_9_181 : fC 9 181 = some (0, 5, 1, MMo_run) := rfl
theorem r_MTo_even_70 {y0 : Int32} {a : Nat} (hO : qO a 5 = true) (hc : ckS st = true) : Rr X (d + 1) MTo_even 70 L (.int y0 :: .ref a :: st) (Wd mu la ro et) = (Rr X d MMo_run 0 [.ref a, .int y0, mkU] [] (Wd mu la ro et)).bind fun q => Rr X (d + 1) MTo_even 73 L (psh q.1 st) q.2 := R_iv (av := [.int y0]) d_MTo_even_70 fc_9_181 hO (ckS_le hc) rfl (Nat.le_of_ble_eq_true rfl) (Nat.le_of_ble_eq_true rfl)
theorem r_MTo_even_73 {l1 l2 l3 l4 l5 : Value} {x : Nat} : Rr X d MTo_even 73 [.ref x, l1, l2, l3, l4, l5] st h = Rr X d MTo_even 74 [.ref x, l1, l2, l3, l4, l5] (.ref x :: st) h := Rr_nx d_MTo_even_73 rfl
theorem r_MTo_even_74 {a : Nat} (hq : (qR a 9 4).isSome = true) : Rr X d MTo_even 74 L (.ref a :: st) (Wd mu la ro et) = Rr X d MTo_even 77 L (.ref (qRd a 9 4) :: st) (Wd mu la ro et) := R_gfR d_MTo_even_74 ff_9_37 hq
theorem ff_9_184 : fF 9 184 = some (5, 12, 0, 0) := rfl
theorem r_MTo_even_77 {a : Nat} (hq : qI a 5 12 = true) : Rr X d MTo_even 77 L (.ref a :: st) (Wd mu la ro et) = Rr X d MTo_even 80 L (.int (mu a 12) :: st) (Wd mu la ro et) := R_gfI d_MTo_even_77 ff_9_184 hq
theorem r_MTo_even_80 {x : Int32} : Rr X d MTo_even 80 L [.int x] h = some (some (.int x), h) := R_ir d_MTo_even_80 rfl
theorem d_MTo_soonest_0 : decode MTo_soonest.2.2.1 0 = .ok (.aload_n 0, 1) := by decide +kernel
theorem d_MTo_soonest_1 : decode MTo_soonest.2.2.1 1 = .ok (.iload_n 1, 1) := by decide +kernel
theorem d_MTo_soonest_2 : decode MTo_soonest.2.2.1 2 = .ok (.invokevirtual 185, 3) := by decide +kernel
theorem d_MTo_soonest_5 : decode MTo_soonest.2.2.1 5 = .ok (.ifCond .eq 21, 3) := by decide +kernel
theorem d_MTo_soonest_8 : decode MTo_soonest.2.2.1 8 = .ok (.iload_n 2, 1) := by decide +kernel
theorem d_MTo_soonest_9 : decode MTo_soonest.2.2.1 9 = .ok (.iload_n 3, 1) := by decide +kernel
theorem d_MTo_soonest_10 : decode MTo_soonest.2.2.1 10 = .ok (.invokestatic 139, 3) := by decide +kernel
theorem d_MTo_soonest_13 : decode MTo_soonest.2.2.1 13 = .ok (.ifCond .eq 13, 3) := by decide +kernel
theorem d_MTo_soonest_16 : decode MTo_soonest.2.2.1 16 = .ok (.iload 4, 2) := by decide +kernel
theorem d_MTo_soonest_18 : decode MTo_soonest.2.2.1 18 = .ok (.iconst 0, 1) := by decide +kernel
theorem d_MTo_soonest_19 : decode MTo_soonest.2.2.1 19 = .ok (.iconst 1, 1) := by decide +kernel
theorem d_MTo_soonest_20 : decode MTo_soonest.2.2.1 20 = .ok (.invokestatic 72, 3) := by decide +kernel
theorem d_MTo_soonest_23 : decode MTo_soonest.2.2.1 23 = .ok (.ifCond .ne 5, 3) := by decide +kernel
theorem d_MTo_soonest_26 : decode MTo_soonest.2.2.1 26 = .ok (.iconst (-1), 1) := by decide +kernel
theorem d_MTo_soonest_27 : decode MTo_soonest.2.2.1 27 = .ok (.ireturn, 1) := by decide +kernel
theorem d_MTo_soonest_28 : decode MTo_soonest.2.2.1 28 = .ok (.bipush (-2), 2) := by decide +kernel
theorem d_MTo_soonest_30 : decode MTo_soonest.2.2.1 30 = .ok (.istore 5, 2) := by decide +kernel
theorem d_MTo_soonest_32 : decode MTo_soonest.2.2.1 32 = .ok (.bipush (-2), 2) := by decide +kernel
theorem d_MTo_soonest_34 : decode MTo_soonest.2.2.1 34 = .ok (.istore 6, 2) := by decide +kernel
theorem d_MTo_soonest_36 : decode MTo_soonest.2.2.1 36 = .ok (.iconst 0, 1) := by decide +kernel
theorem d_MTo_soonest_37 : decode MTo_soonest.2.2.1 37 = .ok (.istore 7, 2) := by decide +kernel
theorem d_MTo_soonest_39 : decode MTo_soonest.2.2.1 39 = .ok (.iload 7, 2) := by decide +kernel
theorem d_MTo_soonest_41 : decode MTo_soonest.2.2.1 41 = .ok (.aload_n 0, 1) := by decide +kernel
theorem d_MTo_soonest_42 : decode MTo_soonest.2.2.1 42 = .ok (.getfield 84, 3) := by decide +kernel
theorem d_MTo_soonest_45 : decode MTo_soonest.2.2.1 45 = .ok (.if_icmp .ge 53, 3) := by decide +kernel
theorem d_MTo_soonest_48 : decode MTo_soonest.2.2.1 48 = .ok (.aload_n 0, 1) := by decide +kernel
theorem d_MTo_soonest_49 : decode MTo_soonest.2.2.1 49 = .ok (.bipush 10, 2) := by decide +kernel
theorem d_MTo_soonest_51 : decode MTo_soonest.2.2.1 51 = .ok (.iload 7, 2) := by decide +kernel
theorem d_MTo_soonest_53 : decode MTo_soonest.2.2.1 53 = .ok (.imul, 1) := by decide +kernel
theorem d_MTo_soonest_54 : decode MTo_soonest.2.2.1 54 = .ok (.iload_n 1, 1) := by decide +kernel
theorem d_MTo_soonest_55 : decode MTo_soonest.2.2.1 55 = .ok (.iadd, 1) := by decide +kernel
theorem d_MTo_soonest_56 : decode MTo_soonest.2.2.1 56 = .ok (.invokevirtual 142, 3) := by decide +kernel
theorem d_MTo_soonest_59 : decode MTo_soonest.2.2.1 59 = .ok (.aload_n 0, 1) := by decide +kernel
theorem d_MTo_soonest_60 : decode MTo_soonest.2.2.1 60 = .ok (.iload_n 2, 1) := by decide +kernel
theorem d_MTo_soonest_61 : decode MTo_soonest.2.2.1 61 = .ok (.iload_n 3, 1) := by decide +kernel
theorem d_MTo_soonest_62 : decode MTo_soonest.2.2.1 62 = .ok (.invokevirtual 188, 3) := by decide +kernel
theorem d_MTo_soonest_65 : decode MTo_soonest.2.2.1 65 = .ok (.istore 8, 2) := by decide +kernel
theorem d_MTo_soonest_67 : decode MTo_soonest.2.2.1 67 = .ok (.iload 8, 2) := by decide +kernel
theorem d_MTo_soonest_69 : decode MTo_soonest.2.2.1 69 = .ok (.ifCond .le 23, 3) := by decide +kernel
theorem d_MTo_soonest_72 : decode MTo_soonest.2.2.1 72 = .ok (.iload 5, 2) := by decide +kernel
theorem d_MTo_soonest_74 : decode MTo_soonest.2.2.1 74 = .ok (.ifCond .lt 10, 3) := by decide +kernel
theorem d_MTo_soonest_77 : decode MTo_soonest.2.2.1 77 = .ok (.iload 8, 2) := by decide +kernel
theorem d_MTo_soonest_79 : decode MTo_soonest.2.2.1 79 = .ok (.iload 6, 2) := by decide +kernel
theorem d_MTo_soonest_81 : decode MTo_soonest.2.2.1 81 = .ok (.if_icmp .ge 11, 3) := by decide +kernel
theorem d_MTo_soonest_84 : decode MTo_soonest.2.2.1 84 = .ok (.iload 7, 2) := by decide +kernel
theorem d_MTo_soonest_86 : decode MTo_soonest.2.2.1 86 = .ok (.istore 5, 2) := by decide +kernel
theorem d_MTo_soonest_88 : decode MTo_soonest.2.2.1 88 = .ok (.iload 8, 2) := by decide +kernel
theorem d_MTo_soonest_90 : decode MTo_soonest.2.2.1 90 = .ok (.istore 6, 2) := by decide +kernel
theorem d_MTo_soonest_92 : decode MTo_soonest.2.2.1 92 = .ok (.iinc 7 1, 3) := by decide +kernel
theorem d_MTo_soonest_95 : decode MTo_soonest.2.2.1 95 = .ok (.goto (-56), 3) := by decide +kernel
theorem d_MTo_soonest_98 : decode MTo_soonest.2.2.1 98 = .ok (.iload 4, 2) := by decide +kernel
theorem d_MTo_soonest_100 : decode MTo_soonest.2.2.1 100 = .ok (.ifCond .ne 8, 3) := by decide +kernel
theorem d_MTo_soonest_103 : decode MTo_soonest.2.2.1 103 = .ok (.iload 5, 2) := by decide +kernel
theorem d_MTo_soonest_105 : decode MTo_soonest.2.2.1 105 = .ok (.goto 5, 3) := by decide +kernel
theorem d_MTo_soonest_108 : decode MTo_soonest.2.2.1 108 = .ok (.iload 6, 2) := by decide +kernel
theorem d_MTo_soonest_110 : decode MTo_soonest.2.2.1 110 = .ok (.ireturn, 1) := by decide +kernel
theorem r_MTo_soonest_0 {l1 l2 l3 l4 l5 l6 l7 l8 : Value} {x : Nat} : Rr X d MTo_soonest 0 [.ref x, l1, l2, l3, l4, l5, l6, l7, l8] st h = Rr X d MTo_soonest 1 [.ref x, l1, l2, l3, l4, l5, l6, l7, l8] (.ref x :: st) h := Rr_nx d_MTo_soonest_0 rfl
theorem r_MTo_soonest_1 {l0 l2 l3 l4 l5 l6 l7 l8 : Value} {x : Int32} : Rr X d MTo_soonest 1 [l0, .int x, l2, l3, l4, l5, l6, l7, l8] st h = Rr X d MTo_soonest 2 [l0, .int x, l2, l3, l4, l5, l6, l7, l8] (.int x :: st) h := Rr_nx d_MTo_soonest_1 rfl
theorem r_MTo_soonest_2 {y0 : Int32} {a : Nat} (hO : qO a 9 = true) (hc : ckS st = true) : Rr X (d + 1) MTo_soonest 2 L (.int y0 :: .ref a :: st) (Wd mu la ro et) = (Rr X d MTo_isFloorOrNone 0 [.ref a, .int y0] [] (Wd mu la ro et)).bind fun q => Rr X (d + 1) MTo_soonest 5 L (psh q.1 st) q.2 := R_iv (av := [.int y0]) d_MTo_soonest_2 fc_9_185 hO (ckS_le hc) rfl (Nat.le_of_ble_eq_true rfl) (Nat.le_of_ble_eq_true rfl)
theorem r_MTo_soonest_5 {x : Int32} : Rr X d MTo_soonest 5 L (.int x :: st) h = if x = 0 then Rr X d MTo_soonest 26 L st h else Rr X d MTo_soonest 8 L st h := R_if_eq d_MTo_soonest_5 (by decide)
theorem r_MTo_soonest_8 {l0 l1 l3 l4 l5 l6 l7 l8 : Value} {x : Int32} : Rr X d MTo_soonest 8 [l0, l1, .int x, l3, l4, l5, l6, l7, l8] st h = Rr X d MTo_soonest 9 [l0, l1, .int x, l3, l4, l5, l6, l7, l8] (.int x :: st) h := Rr_nx d_MTo_soonest_8 rfl
theorem r_MTo_soonest_9 {l0 l1 l2 l4 l5 l6 l7 l8 : Value} {x : Int32} : Rr X d MTo_soonest 9 [l0, l1, l2, .int x, l4, l5, l6, l7, l8] st h = Rr X d MTo_soonest 10 [l0, l1, l2, .int x, l4, l5, l6, l7, l8] (.int x :: st) h := Rr_nx d_MTo_soonest_9 rfl
theorem r_MTo_soonest_10 {y0 : Int32} {y1 : Int32} (hc : ckS st = true) : Rr X (d + 1) MTo_soonest 10 L (.int y1 :: .int y0 :: st) h = (Rr X d MTo_isStart 0 [.int y0, .int y1] [] h).bind fun q => Rr X (d + 1) MTo_soonest 13 L (psh q.1 st) q.2 := R_is (av := [.int y1, .int y0]) d_MTo_soonest_10 (Or.inl fc_9_139) (ckS_le hc) rfl (Nat.le_of_ble_eq_true rfl) (Nat.le_of_ble_eq_true rfl)
theorem r_MTo_soonest_13 {x : Int32} : Rr X d MTo_soonest 13 L (.int x :: st) h = if x = 0 then Rr X d MTo_soonest 26 L st h else Rr X d MTo_soonest 16 L st h := R_if_eq d_MTo_soonest_13 (by decide)
theorem r_MTo_soonest_16 {l0 l1 l2 l3 l5 l6 l7 l8 : Value} {x : Int32} : Rr X d MTo_soonest 16 [l0, l1, l2, l3, .int x, l5, l6, l7, l8] st h = Rr X d MTo_soonest 18 [l0, l1, l2, l3, .int x, l5, l6, l7, l8] (.int x :: st) h := Rr_nx d_MTo_soonest_16 rfl
theorem r_MTo_soonest_18 : Rr X d MTo_soonest 18 L st h = Rr X d MTo_soonest 19 L (.int (0) :: st) h := Rr_nx d_MTo_soonest_18 rfl
theorem r_MTo_soonest_19 : Rr X d MTo_soonest 19 L st h = Rr X d MTo_soonest 20 L (.int (1) :: st) h := Rr_nx d_MTo_soonest_19 rfl
theorem r_MTo_soonest_20 {y0 : Int32} {y1 : Int32} {y2 : Int32} (hc : ckS st = true) : Rr X (d + 1) MTo_soonest 20 L (.int y2 :: .int y1 :: .int y0 :: st) h = (Rr X d MTo_isWithin 0 [.int y0, .int y1, .int y2] [] h).bind fun q => Rr X (d + 1) MTo_soonest 23 L (psh q.1 st) q.2 := R_is (av := [.int y2, .int y1, .int y0]) d_MTo_soonest_20 (Or.inl fc_9_72) (ckS_le hc) rfl (Nat.le_of_ble_eq_true rfl) (Nat.le_of_ble_eq_true rfl)
theorem r_MTo_soonest_23 {x : Int32} : Rr X d MTo_soonest 23 L (.int x :: st) h = if ¬ x = 0 then Rr X d MTo_soonest 28 L st h else Rr X d MTo_soonest 26 L st h := R_if_ne d_MTo_soonest_23 (by decide)
theorem r_MTo_soonest_26 : Rr X d MTo_soonest 26 L st h = Rr X d MTo_soonest 27 L (.int (-1) :: st) h := Rr_nx d_MTo_soonest_26 rfl
theorem r_MTo_soonest_27 {x : Int32} : Rr X d MTo_soonest 27 L [.int x] h = some (some (.int x), h) := R_ir d_MTo_soonest_27 rfl
theorem r_MTo_soonest_28 : Rr X d MTo_soonest 28 L st h = Rr X d MTo_soonest 30 L (.int (-2) :: st) h := Rr_nx d_MTo_soonest_28 rfl
theorem r_MTo_soonest_30 {l0 l1 l2 l3 l4 l5 l6 l7 l8 : Value} {x : Int32} : Rr X d MTo_soonest 30 [l0, l1, l2, l3, l4, l5, l6, l7, l8] (.int x :: st) h = Rr X d MTo_soonest 32 (sL [l0, l1, l2, l3, l4, l5, l6, l7, l8] 5 (.int x)) st h := Rr_nx d_MTo_soonest_30 rfl
theorem r_MTo_soonest_32 : Rr X d MTo_soonest 32 L st h = Rr X d MTo_soonest 34 L (.int (-2) :: st) h := Rr_nx d_MTo_soonest_32 rfl
theorem r_MTo_soonest_34 {l0 l1 l2 l3 l4 l5 l6 l7 l8 : Value} {x : Int32} : Rr X d MTo_soonest 34 [l0, l1, l2, l3, l4, l5, l6, l7, l8] (.int x :: st) h = Rr X d MTo_soonest 36 (sL [l0, l1, l2, l3, l4, l5, l6, l7, l8] 6 (.int x)) st h := Rr_nx d_MTo_soonest_34 rfl
theorem r_MTo_soonest_36 : Rr X d MTo_soonest 36 L st h = Rr X d MTo_soonest 37 L (.int (0) :: st) h := Rr_nx d_MTo_soonest_36 rfl
theorem r_MTo_soonest_37 {l0 l1 l2 l3 l4 l5 l6 l7 l8 : Value} {x : Int32} : Rr X d MTo_soonest 37 [l0, l1, l2, l3, l4, l5, l6, l7, l8] (.int x :: st) h = Rr X d MTo_soonest 39 (sL [l0, l1, l2, l3, l4, l5, l6, l7, l8] 7 (.int x)) st h := Rr_nx d_MTo_soonest_37 rfl
theorem r_MTo_soonest_39 {l0 l1 l2 l3 l4 l5 l6 l8 : Value} {x : Int32} : Rr X d MTo_soonest 39 [l0, l1, l2, l3, l4, l5, l6, .int x, l8] st h = Rr X d MTo_soonest 41 [l0, l1, l2, l3, l4, l5, l6, .int x, l8] (.int x :: st) h := Rr_nx d_MTo_soonest_39 rfl
theorem r_MTo_soonest_41 {l1 l2 l3 l4 l5 l6 l7 l8 : Value} {x : Nat} : Rr X d MTo_soonest 41 [.ref x, l1, l2, l3, l4, l5, l6, l7, l8] st h = Rr X d MTo_soonest 42 [.ref x, l1, l2, l3, l4, l5, l6, l7, l8] (.ref x :: st) h := Rr_nx d_MTo_soonest_41 rfl
theorem r_MTo_soonest_42 {a : Nat} (hq : qI a 9 9 = true) : Rr X d MTo_soonest 42 L (.ref a :: st) (Wd mu la ro et) = Rr X d MTo_soonest 45 L (.int (mu a 9) :: st) (Wd mu la ro et) := R_gfI d_MTo_soonest_42 ff_9_84 hq
theorem r_MTo_soonest_45 {x y : Int32} : Rr X d MTo_soonest 45 L (.int y :: .int x :: st) h = if y ≤ x then Rr X d MTo_soonest 98 L st h else Rr X d MTo_soonest 48 L st h := R_ic_ge d_MTo_soonest_45 (by decide)
theorem r_MTo_soonest_48 {l1 l2 l3 l4 l5 l6 l7 l8 : Value} {x : Nat} : Rr X d MTo_soonest 48 [.ref x, l1, l2, l3, l4, l5, l6, l7, l8] st h = Rr X d MTo_soonest 49 [.ref x, l1, l2, l3, l4, l5, l6, l7, l8] (.ref x :: st) h := Rr_nx d_MTo_soonest_48 rfl
theorem r_MTo_soonest_49 : Rr X d MTo_soonest 49 L st h = Rr X d MTo_soonest 51 L (.int (10) :: st) h := Rr_nx d_MTo_soonest_49 rfl
theorem r_MTo_soonest_51 {l0 l1 l2 l3 l4 l5 l6 l8 : Value} {x : Int32} : Rr X d MTo_soonest 51 [l0, l1, l2, l3, l4, l5, l6, .int x, l8] st h = Rr X d MTo_soonest 53 [l0, l1, l2, l3, l4, l5, l6, .int x, l8] (.int x :: st) h := Rr_nx d_MTo_soonest_51 rfl
theorem r_MTo_soonest_53 {x y : Int32} : Rr X d MTo_soonest 53 L (.int y :: .int x :: st) h = Rr X d MTo_soonest 54 L (.int (x * y) :: st) h := Rr_nx d_MTo_soonest_53 rfl
theorem r_MTo_soonest_54 {l0 l2 l3 l4 l5 l6 l7 l8 : Value} {x : Int32} : Rr X d MTo_soonest 54 [l0, .int x, l2, l3, l4, l5, l6, l7, l8] st h = Rr X d MTo_soonest 55 [l0, .int x, l2, l3, l4, l5, l6, l7, l8] (.int x :: st) h := Rr_nx d_MTo_soonest_54 rfl
theorem r_MTo_soonest_55 {x y : Int32} : Rr X d MTo_soonest 55 L (.int y :: .int x :: st) h = Rr X d MTo_soonest 56 L (.int (x + y) :: st) h := Rr_nx d_MTo_soonest_55 rfl
theorem r_MTo_soonest_56 {y0 : Int32} {a : Nat} (hO : qO a 9 = true) (hc : ckS st = true) : Rr X (d + 1) MTo_soonest 56 L (.int y0 :: .ref a :: st) (Wd mu la ro et) = (Rr X d MTo_layOwn 0 [.ref a, .int y0, mkU] [] (Wd mu la ro et)).bind fun q => Rr X (d + 1) MTo_soonest 59 L (psh q.1 st) q.2 := R_iv (av := [.int y0]) d_MTo_soonest_56 fc_9_142 hO (ckS_le hc) rfl (Nat.le_of_ble_eq_true rfl) (Nat.le_of_ble_eq_true rfl)
theorem r_MTo_soonest_59 {l1 l2 l3 l4 l5 l6 l7 l8 : Value} {x : Nat} : Rr X d MTo_soonest 59 [.ref x, l1, l2, l3, l4, l5, l6, l7, l8] st h = Rr X d MTo_soonest 60 [.ref x, l1, l2, l3, l4, l5, l6, l7, l8] (.ref x :: st) h := Rr_nx d_MTo_soonest_59 rfl
theorem r_MTo_soonest_60 {l0 l1 l3 l4 l5 l6 l7 l8 : Value} {x : Int32} : Rr X d MTo_soonest 60 [l0, l1, .int x, l3, l4, l5, l6, l7, l8] st h = Rr X d MTo_soonest 61 [l0, l1, .int x, l3, l4, l5, l6, l7, l8] (.int x :: st) h := Rr_nx d_MTo_soonest_60 rfl
theorem r_MTo_soonest_61 {l0 l1 l2 l4 l5 l6 l7 l8 : Value} {x : Int32} : Rr X d MTo_soonest 61 [l0, l1, l2, .int x, l4, l5, l6, l7, l8] st h = Rr X d MTo_soonest 62 [l0, l1, l2, .int x, l4, l5, l6, l7, l8] (.int x :: st) h := Rr_nx d_MTo_soonest_61 rfl
theorem fc_9_188 : fC 9 188 = some (0, 9, 2, MTo_firstBack) := rfl
theorem r_MTo_soonest_62 {y0 : Int32} {y1 : Int32} {a : Nat} (hO : qO a 9 = true) (hc : ckS st = true) : Rr X (d + 1) MTo_soonest 62 L (.int y1 :: .int y0 :: .ref a :: st) (Wd mu la ro et) = (Rr X d MTo_firstBack 0 [.ref a, .int y0, .int y1, mkU] [] (Wd mu la ro et)).bind fun q => Rr X (d + 1) MTo_soonest 65 L (psh q.1 st) q.2 := R_iv (av := [.int y1, .int y0]) d_MTo_soonest_62 fc_9_188 hO (ckS_le hc) rfl (Nat.le_of_ble_eq_true rfl) (Nat.le_of_ble_eq_true rfl)
theorem r_MTo_soonest_65 {l0 l1 l2 l3 l4 l5 l6 l7 l8 : Value} {x : Int32} : Rr X d MTo_soonest 65 [l0, l1, l2, l3, l4, l5, l6, l7, l8] (.int x :: st) h = Rr X d MTo_soonest 67 (sL [l0, l1, l2, l3, l4, l5, l6, l7, l8] 8 (.int x)) st h := Rr_nx d_MTo_soonest_65 rfl
theorem r_MTo_soonest_67 {l0 l1 l2 l3 l4 l5 l6 l7 : Value} {x : Int32} : Rr X d MTo_soonest 67 [l0, l1, l2, l3, l4, l5, l6, l7, .int x] st h = Rr X d MTo_soonest 69 [l0, l1, l2, l3, l4, l5, l6, l7, .int x] (.int x :: st) h := Rr_nx d_MTo_soonest_67 rfl
theorem r_MTo_soonest_69 {x : Int32} : Rr X d MTo_soonest 69 L (.int x :: st) h = if x ≤ 0 then Rr X d MTo_soonest 92 L st h else Rr X d MTo_soonest 72 L st h := R_if_le d_MTo_soonest_69 (by decide)
theorem r_MTo_soonest_72 {l0 l1 l2 l3 l4 l6 l7 l8 : Value} {x : Int32} : Rr X d MTo_soonest 72 [l0, l1, l2, l3, l4, .int x, l6, l7, l8] st h = Rr X d MTo_soonest 74 [l0, l1, l2, l3, l4, .int x, l6, l7, l8] (.int x :: st) h := Rr_nx d_MTo_soonest_72 rfl
theorem r_MTo_soonest_74 {x : Int32} : Rr X d MTo_soonest 74 L (.int x :: st) h = if x < 0 then Rr X d MTo_soonest 84 L st h else Rr X d MTo_soonest 77 L st h := R_if_lt d_MTo_soonest_74 (by decide)
theorem r_MTo_soonest_77 {l0 l1 l2 l3 l4 l5 l6 l7 : Value} {x : Int32} : Rr X d MTo_soonest 77 [l0, l1, l2, l3, l4, l5, l6, l7, .int x] st h = Rr X d MTo_soonest 79 [l0, l1, l2, l3, l4, l5, l6, l7, .int x] (.int x :: st) h := Rr_nx d_MTo_soonest_77 rfl
theorem r_MTo_soonest_79 {l0 l1 l2 l3 l4 l5 l7 l8 : Value} {x : Int32} : Rr X d MTo_soonest 79 [l0, l1, l2, l3, l4, l5, .int x, l7, l8] st h = Rr X d MTo_soonest 81 [l0, l1, l2, l3, l4, l5, .int x, l7, l8] (.int x :: st) h := Rr_nx d_MTo_soonest_79 rfl
theorem r_MTo_soonest_81 {x y : Int32} : Rr X d MTo_soonest 81 L (.int y :: .int x :: st) h = if y ≤ x then Rr X d MTo_soonest 92 L st h else Rr X d MTo_soonest 84 L st h := R_ic_ge d_MTo_soonest_81 (by decide)
theorem r_MTo_soonest_84 {l0 l1 l2 l3 l4 l5 l6 l8 : Value} {x : Int32} : Rr X d MTo_soonest 84 [l0, l1, l2, l3, l4, l5, l6, .int x, l8] st h = Rr X d MTo_soonest 86 [l0, l1, l2, l3, l4, l5, l6, .int x, l8] (.int x :: st) h := Rr_nx d_MTo_soonest_84 rfl
theorem r_MTo_soonest_86 {l0 l1 l2 l3 l4 l5 l6 l7 l8 : Value} {x : Int32} : Rr X d MTo_soonest 86 [l0, l1, l2, l3, l4, l5, l6, l7, l8] (.int x :: st) h = Rr X d MTo_soonest 88 (sL [l0, l1, l2, l3, l4, l5, l6, l7, l8] 5 (.int x)) st h := Rr_nx d_MTo_soonest_86 rfl
theorem r_MTo_soonest_88 {l0 l1 l2 l3 l4 l5 l6 l7 : Value} {x : Int32} : Rr X d MTo_soonest 88 [l0, l1, l2, l3, l4, l5, l6, l7, .int x] st h = Rr X d MTo_soonest 90 [l0, l1, l2, l3, l4, l5, l6, l7, .int x] (.int x :: st) h := Rr_nx d_MTo_soonest_88 rfl
theorem r_MTo_soonest_90 {l0 l1 l2 l3 l4 l5 l6 l7 l8 : Value} {x : Int32} : Rr X d MTo_soonest 90 [l0, l1, l2, l3, l4, l5, l6, l7, l8] (.int x :: st) h = Rr X d MTo_soonest 92 (sL [l0, l1, l2, l3, l4, l5, l6, l7, l8] 6 (.int x)) st h := Rr_nx d_MTo_soonest_90 rfl
theorem r_MTo_soonest_92 {l0 l1 l2 l3 l4 l5 l6 l8 : Value} {x : Int32} : Rr X d MTo_soonest 92 [l0, l1, l2, l3, l4, l5, l6, .int x, l8] st h = Rr X d MTo_soonest 95 (sL [l0, l1, l2, l3, l4, l5, l6, .int x, l8] 7 (.int (x + (1)))) st h := Rr_nx d_MTo_soonest_92 rfl
theorem r_MTo_soonest_95 : Rr X d MTo_soonest 95 L st h = Rr X d MTo_soonest 39 L st h := R_goto d_MTo_soonest_95 (by decide)
theorem r_MTo_soonest_98 {l0 l1 l2 l3 l5 l6 l7 l8 : Value} {x : Int32} : Rr X d MTo_soonest 98 [l0, l1, l2, l3, .int x, l5, l6, l7, l8] st h = Rr X d MTo_soonest 100 [l0, l1, l2, l3, .int x, l5, l6, l7, l8] (.int x :: st) h := Rr_nx d_MTo_soonest_98 rfl
theorem r_MTo_soonest_100 {x : Int32} : Rr X d MTo_soonest 100 L (.int x :: st) h = if ¬ x = 0 then Rr X d MTo_soonest 108 L st h else Rr X d MTo_soonest 103 L st h := R_if_ne d_MTo_soonest_100 (by decide)
theorem r_MTo_soonest_103 {l0 l1 l2 l3 l4 l6 l7 l8 : Value} {x : Int32} : Rr X d MTo_soonest 103 [l0, l1, l2, l3, l4, .int x, l6, l7, l8] st h = Rr X d MTo_soonest 105 [l0, l1, l2, l3, l4, .int x, l6, l7, l8] (.int x :: st) h := Rr_nx d_MTo_soonest_103 rfl
theorem r_MTo_soonest_105 : Rr X d MTo_soonest 105 L st h = Rr X d MTo_soonest 110 L st h := R_goto d_MTo_soonest_105 (by decide)
theorem r_MTo_soonest_108 {l0 l1 l2 l3 l4 l5 l7 l8 : Value} {x : Int32} : Rr X d MTo_soonest 108 [l0, l1, l2, l3, l4, l5, .int x, l7, l8] st h = Rr X d MTo_soonest 110 [l0, l1, l2, l3, l4, l5, .int x, l7, l8] (.int x :: st) h := Rr_nx d_MTo_soonest_108 rfl
theorem r_MTo_soonest_110 {x : Int32} : Rr X d MTo_soonest 110 L [.int x] h = some (some (.int x), h) := R_ir d_MTo_soonest_110 rfl
theorem d_MTo_screws_0 : decode MTo_screws.2.2.1 0 = .ok (.aload_n 0, 1) := by decide +kernel
theorem d_MTo_screws_1 : decode MTo_screws.2.2.1 1 = .ok (.iload_n 1, 1) := by decide +kernel
theorem d_MTo_screws_2 : decode MTo_screws.2.2.1 2 = .ok (.invokevirtual 100, 3) := by decide +kernel
theorem d_MTo_screws_5 : decode MTo_screws.2.2.1 5 = .ok (.astore 4, 2) := by decide +kernel
theorem d_MTo_screws_7 : decode MTo_screws.2.2.1 7 = .ok (.aload 4, 2) := by decide +kernel
theorem d_MTo_screws_9 : decode MTo_screws.2.2.1 9 = .ok (.ifnull 20, 3) := by decide +kernel
theorem d_MTo_screws_12 : decode MTo_screws.2.2.1 12 = .ok (.iload_n 2, 1) := by decide +kernel
theorem d_MTo_screws_13 : decode MTo_screws.2.2.1 13 = .ok (.iconst 1, 1) := by decide +kernel
theorem d_MTo_screws_14 : decode MTo_screws.2.2.1 14 = .ok (.bipush 9, 2) := by decide +kernel
theorem d_MTo_screws_16 : decode MTo_screws.2.2.1 16 = .ok (.invokestatic 72, 3) := by decide +kernel
theorem d_MTo_screws_19 : decode MTo_screws.2.2.1 19 = .ok (.ifCond .eq 10, 3) := by decide +kernel
theorem d_MTo_screws_22 : decode MTo_screws.2.2.1 22 = .ok (.iload_n 3, 1) := by decide +kernel
theorem d_MTo_screws_23 : decode MTo_screws.2.2.1 23 = .ok (.invokestatic 191, 3) := by decide +kernel
theorem d_MTo_screws_26 : decode MTo_screws.2.2.1 26 = .ok (.ifCond .ne 5, 3) := by decide +kernel
theorem d_MTo_screws_29 : decode MTo_screws.2.2.1 29 = .ok (.iconst (-1), 1) := by decide +kernel
theorem d_MTo_screws_30 : decode MTo_screws.2.2.1 30 = .ok (.ireturn, 1) := by decide +kernel
theorem d_MTo_screws_31 : decode MTo_screws.2.2.1 31 = .ok (.aload 4, 2) := by decide +kernel
theorem d_MTo_screws_33 : decode MTo_screws.2.2.1 33 = .ok (.iload_n 2, 1) := by decide +kernel
theorem d_MTo_screws_34 : decode MTo_screws.2.2.1 34 = .ok (.iload_n 3, 1) := by decide +kernel
theorem d_MTo_screws_35 : decode MTo_screws.2.2.1 35 = .ok (.invokevirtual 194, 3) := by decide +kernel
theorem d_MTo_screws_38 : decode MTo_screws.2.2.1 38 = .ok (.ireturn, 1) := by decide +kernel
theorem r_MTo_screws_0 {l1 l2 l3 l4 : Value} {x : Nat} : Rr X d MTo_screws 0 [.ref x, l1, l2, l3, l4] st h = Rr X d MTo_screws 1 [.ref x, l1, l2, l3, l4] (.ref x :: st) h := Rr_nx d_MTo_screws_0 rfl
theorem r_MTo_screws_1 {l0 l2 l3 l4 : Value} {x : Int32} : Rr X d MTo_screws 1 [l0, .int x, l2, l3, l4] st h = Rr X d MTo_screws 2 [l0, .int x, l2, l3, l4] (.int x :: st) h := Rr_nx d_MTo_screws_1 rfl
theorem r_MTo_screws_2 {y0 : Int32} {a : Nat} (hO : qO a 9 = true) (hc : ckS st = true) : Rr X (d + 1) MTo_screws 2 L (.int y0 :: .ref a :: st) (Wd mu la ro et) = (Rr X d MTo_stoneAt 0 [.ref a, .int y0] [] (Wd mu la ro et)).bind fun q => Rr X (d + 1) MTo_screws 5 L (psh q.1 st) q.2 := R_iv (av := [.int y0]) d_MTo_screws_2 fc_9_100 hO (ckS_le hc) rfl (Nat.le_of_ble_eq_true rfl) (Nat.le_of_ble_eq_true rfl)
theorem r_MTo_screws_5 {l0 l1 l2 l3 l4 : Value} {x : Nat} : Rr X d MTo_screws 5 [l0, l1, l2, l3, l4] (.ref x :: st) h = Rr X d MTo_screws 7 (sL [l0, l1, l2, l3, l4] 4 (.ref x)) st h := Rr_nx d_MTo_screws_5 rfl
theorem r_MTo_screws_5n {l0 l1 l2 l3 l4 : Value} : Rr X d MTo_screws 5 [l0, l1, l2, l3, l4] (.null :: st) h = Rr X d MTo_screws 7 (sL [l0, l1, l2, l3, l4] 4 .null) st h := Rr_nx d_MTo_screws_5 rfl
theorem r_MTo_screws_7 {l0 l1 l2 l3 : Value} {x : Nat} : Rr X d MTo_screws 7 [l0, l1, l2, l3, .ref x] st h = Rr X d MTo_screws 9 [l0, l1, l2, l3, .ref x] (.ref x :: st) h := Rr_nx d_MTo_screws_7 rfl
theorem r_MTo_screws_7n {l0 l1 l2 l3 : Value} : Rr X d MTo_screws 7 [l0, l1, l2, l3, .null] st h = Rr X d MTo_screws 9 [l0, l1, l2, l3, .null] (.null :: st) h := Rr_nx d_MTo_screws_7 rfl
theorem r_MTo_screws_9 {x : Nat} : Rr X d MTo_screws 9 L (.ref x :: st) h = Rr X d MTo_screws 12 L st h := R_nul1 d_MTo_screws_9
theorem r_MTo_screws_9n : Rr X d MTo_screws 9 L (.null :: st) h = Rr X d MTo_screws 29 L st h := R_nul0 d_MTo_screws_9 (by decide)
theorem r_MTo_screws_12 {l0 l1 l3 l4 : Value} {x : Int32} : Rr X d MTo_screws 12 [l0, l1, .int x, l3, l4] st h = Rr X d MTo_screws 13 [l0, l1, .int x, l3, l4] (.int x :: st) h := Rr_nx d_MTo_screws_12 rfl
theorem r_MTo_screws_13 : Rr X d MTo_screws 13 L st h = Rr X d MTo_screws 14 L (.int (1) :: st) h := Rr_nx d_MTo_screws_13 rfl
theorem r_MTo_screws_14 : Rr X d MTo_screws 14 L st h = Rr X d MTo_screws 16 L (.int (9) :: st) h := Rr_nx d_MTo_screws_14 rfl
theorem r_MTo_screws_16 {y0 : Int32} {y1 : Int32} {y2 : Int32} (hc : ckS st = true) : Rr X (d + 1) MTo_screws 16 L (.int y2 :: .int y1 :: .int y0 :: st) h = (Rr X d MTo_isWithin 0 [.int y0, .int y1, .int y2] [] h).bind fun q => Rr X (d + 1) MTo_screws 19 L (psh q.1 st) q.2 := R_is (av := [.int y2, .int y1, .int y0]) d_MTo_screws_16 (Or.inl fc_9_72) (ckS_le hc) rfl (Nat.le_of_ble_eq_true rfl) (Nat.le_of_ble_eq_true rfl)
theorem r_MTo_screws_19 {x : Int32} : Rr X d MTo_screws 19 L (.int x :: st) h = if x = 0 then Rr X d MTo_screws 29 L st h else Rr X d MTo_screws 22 L st h := R_if_eq d_MTo_screws_19 (by decide)
theorem r_MTo_screws_22 {l0 l1 l2 l4 : Value} {x : Int32} : Rr X d MTo_screws 22 [l0, l1, l2, .int x, l4] st h = Rr X d MTo_screws 23 [l0, l1, l2, .int x, l4] (.int x :: st) h := Rr_nx d_MTo_screws_22 rfl
theorem fc_9_191 : fC 9 191 = some (1, 0, 1, MTo_isKeen) := rfl
theorem r_MTo_screws_23 {y0 : Int32} (hc : ckS st = true) : Rr X (d + 1) MTo_screws 23 L (.int y0 :: st) h = (Rr X d MTo_isKeen 0 [.int y0] [] h).bind fun q => Rr X (d + 1) MTo_screws 26 L (psh q.1 st) q.2 := R_is (av := [.int y0]) d_MTo_screws_23 (Or.inl fc_9_191) (ckS_le hc) rfl (Nat.le_of_ble_eq_true rfl) (Nat.le_of_ble_eq_true rfl)
theorem r_MTo_screws_26 {x : Int32} : Rr X d MTo_screws 26 L (.int x :: st) h = if ¬ x = 0 then Rr X d MTo_screws 31 L st h else Rr X d MTo_screws 29 L st h := R_if_ne d_MTo_screws_26 (by decide)
theorem r_MTo_screws_29 : Rr X d MTo_screws 29 L st h = Rr X d MTo_screws 30 L (.int (-1) :: st) h := Rr_nx d_MTo_screws_29 rfl
theorem r_MTo_screws_30 {x : Int32} : Rr X d MTo_screws 30 L [.int x] h = some (some (.int x), h) := R_ir d_MTo_screws_30 rfl
theorem r_MTo_screws_31 {l0 l1 l2 l3 : Value} {x : Nat} : Rr X d MTo_screws 31 [l0, l1, l2, l3, .ref x] st h = Rr X d MTo_screws 33 [l0, l1, l2, l3, .ref x] (.ref x :: st) h := Rr_nx d_MTo_screws_31 rfl
theorem r_MTo_screws_31n {l0 l1 l2 l3 : Value} : Rr X d MTo_screws 31 [l0, l1, l2, l3, .null] st h = Rr X d MTo_screws 33 [l0, l1, l2, l3, .null] (.null :: st) h := Rr_nx d_MTo_screws_31 rfl
theorem r_MTo_screws_33 {l0 l1 l3 l4 : Value} {x : Int32} : Rr X d MTo_screws 33 [l0, l1, .int x, l3, l4] st h = Rr X d MTo_screws 34 [l0, l1, .int x, l3, l4] (.int x :: st) h := Rr_nx d_MTo_screws_33 rfl
theorem r_MTo_screws_34 {l0 l1 l2 l4 : Value} {x : Int32} : Rr X d MTo_screws 34 [l0, l1, l2, .int x, l4] st h = Rr X d MTo_screws 35 [l0, l1, l2, .int x, l4] (.int x :: st) h := Rr_nx d_MTo_screws_34 rfl
theorem fc_9_194 : fC 9 194 = some (0, 7, 2, MSt_screwPlace) := rfl
theorem r_MTo_screws_35 {y0 : Int32} {y1 : Int32} {a : Nat} (hO : qO a 7 = true) (hc : ckS st = true) : Rr X (d + 1) MTo_screws 35 L (.int y1 :: .int y0 :: .ref a :: st) (Wd mu la ro et) = (Rr X d MSt_screwPlace 0 [.ref a, .int y0, .int y1, mkU, mkU] [] (Wd mu la ro et)).bind fun q => Rr X (d + 1) MTo_screws 38 L (psh q.1 st) q.2 := R_iv (av := [.int y1, .int y0]) d_MTo_screws_35 fc_9_194 hO (ckS_le hc) rfl (Nat.le_of_ble_eq_true rfl) (Nat.le_of_ble_eq_true rfl)
theorem r_MTo_screws_38 {x : Int32} : Rr X d MTo_screws 38 L [.int x] h = some (some (.int x), h) := R_ir d_MTo_screws_38 rfl
theorem d_MTo_lightest_0 : decode MTo_lightest.2.2.1 0 = .ok (.aload_n 0, 1) := by decide +kernel
theorem d_MTo_lightest_1 : decode MTo_lightest.2.2.1 1 = .ok (.iload_n 1, 1) := by decide +kernel
theorem d_MTo_lightest_2 : decode MTo_lightest.2.2.1 2 = .ok (.invokevirtual 100, 3) := by decide +kernel
theorem d_MTo_lightest_5 : decode MTo_lightest.2.2.1 5 = .ok (.astore_n 3, 1) := by decide +kernel
theorem d_MTo_lightest_6 : decode MTo_lightest.2.2.1 6 = .ok (.aload_n 3, 1) := by decide +kernel
theorem d_MTo_lightest_7 : decode MTo_lightest.2.2.1 7 = .ok (.ifnull 10, 3) := by decide +kernel
theorem d_MTo_lightest_10 : decode MTo_lightest.2.2.1 10 = .ok (.iload_n 2, 1) := by decide +kernel
theorem d_MTo_lightest_11 : decode MTo_lightest.2.2.1 11 = .ok (.invokestatic 191, 3) := by decide +kernel
theorem d_MTo_lightest_14 : decode MTo_lightest.2.2.1 14 = .ok (.ifCond .ne 5, 3) := by decide +kernel
theorem d_MTo_lightest_17 : decode MTo_lightest.2.2.1 17 = .ok (.iconst (-1), 1) := by decide +kernel
theorem d_MTo_lightest_18 : decode MTo_lightest.2.2.1 18 = .ok (.ireturn, 1) := by decide +kernel
theorem d_MTo_lightest_19 : decode MTo_lightest.2.2.1 19 = .ok (.iconst 1, 1) := by decide +kernel
theorem d_MTo_lightest_20 : decode MTo_lightest.2.2.1 20 = .ok (.istore 4, 2) := by decide +kernel
theorem d_MTo_lightest_22 : decode MTo_lightest.2.2.1 22 = .ok (.iload 4, 2) := by decide +kernel
theorem d_MTo_lightest_24 : decode MTo_lightest.2.2.1 24 = .ok (.bipush 9, 2) := by decide +kernel
theorem d_MTo_lightest_26 : decode MTo_lightest.2.2.1 26 = .ok (.if_icmp .gt 22, 3) := by decide +kernel
theorem d_MTo_lightest_29 : decode MTo_lightest.2.2.1 29 = .ok (.aload_n 3, 1) := by decide +kernel
theorem d_MTo_lightest_30 : decode MTo_lightest.2.2.1 30 = .ok (.iload 4, 2) := by decide +kernel
theorem d_MTo_lightest_32 : decode MTo_lightest.2.2.1 32 = .ok (.iload_n 2, 1) := by decide +kernel
theorem d_MTo_lightest_33 : decode MTo_lightest.2.2.1 33 = .ok (.invokevirtual 194, 3) := by decide +kernel
theorem d_MTo_lightest_36 : decode MTo_lightest.2.2.1 36 = .ok (.ifCond .lt 6, 3) := by decide +kernel
theorem d_MTo_lightest_39 : decode MTo_lightest.2.2.1 39 = .ok (.iload 4, 2) := by decide +kernel
theorem d_MTo_lightest_41 : decode MTo_lightest.2.2.1 41 = .ok (.ireturn, 1) := by decide +kernel
theorem d_MTo_lightest_42 : decode MTo_lightest.2.2.1 42 = .ok (.iinc 4 1, 3) := by decide +kernel
theorem d_MTo_lightest_45 : decode MTo_lightest.2.2.1 45 = .ok (.goto (-23), 3) := by decide +kernel
theorem d_MTo_lightest_48 : decode MTo_lightest.2.2.1 48 = .ok (.bipush (-2), 2) := by decide +kernel
theorem d_MTo_lightest_50 : decode MTo_lightest.2.2.1 50 = .ok (.ireturn, 1) := by decide +kernel
theorem r_MTo_lightest_0 {l1 l2 l3 l4 : Value} {x : Nat} : Rr X d MTo_lightest 0 [.ref x, l1, l2, l3, l4] st h = Rr X d MTo_lightest 1 [.ref x, l1, l2, l3, l4] (.ref x :: st) h := Rr_nx d_MTo_lightest_0 rfl
theorem r_MTo_lightest_1 {l0 l2 l3 l4 : Value} {x : Int32} : Rr X d MTo_lightest 1 [l0, .int x, l2, l3, l4] st h = Rr X d MTo_lightest 2 [l0, .int x, l2, l3, l4] (.int x :: st) h := Rr_nx d_MTo_lightest_1 rfl
theorem r_MTo_lightest_2 {y0 : Int32} {a : Nat} (hO : qO a 9 = true) (hc : ckS st = true) : Rr X (d + 1) MTo_lightest 2 L (.int y0 :: .ref a :: st) (Wd mu la ro et) = (Rr X d MTo_stoneAt 0 [.ref a, .int y0] [] (Wd mu la ro et)).bind fun q => Rr X (d + 1) MTo_lightest 5 L (psh q.1 st) q.2 := R_iv (av := [.int y0]) d_MTo_lightest_2 fc_9_100 hO (ckS_le hc) rfl (Nat.le_of_ble_eq_true rfl) (Nat.le_of_ble_eq_true rfl)
theorem r_MTo_lightest_5 {l0 l1 l2 l3 l4 : Value} {x : Nat} : Rr X d MTo_lightest 5 [l0, l1, l2, l3, l4] (.ref x :: st) h = Rr X d MTo_lightest 6 (sL [l0, l1, l2, l3, l4] 3 (.ref x)) st h := Rr_nx d_MTo_lightest_5 rfl
theorem r_MTo_lightest_5n {l0 l1 l2 l3 l4 : Value} : Rr X d MTo_lightest 5 [l0, l1, l2, l3, l4] (.null :: st) h = Rr X d MTo_lightest 6 (sL [l0, l1, l2, l3, l4] 3 .null) st h := Rr_nx d_MTo_lightest_5 rfl
theorem r_MTo_lightest_6 {l0 l1 l2 l4 : Value} {x : Nat} : Rr X d MTo_lightest 6 [l0, l1, l2, .ref x, l4] st h = Rr X d MTo_lightest 7 [l0, l1, l2, .ref x, l4] (.ref x :: st) h := Rr_nx d_MTo_lightest_6 rfl
theorem r_MTo_lightest_6n {l0 l1 l2 l4 : Value} : Rr X d MTo_lightest 6 [l0, l1, l2, .null, l4] st h = Rr X d MTo_lightest 7 [l0, l1, l2, .null, l4] (.null :: st) h := Rr_nx d_MTo_lightest_6 rfl
theorem r_MTo_lightest_7 {x : Nat} : Rr X d MTo_lightest 7 L (.ref x :: st) h = Rr X d MTo_lightest 10 L st h := R_nul1 d_MTo_lightest_7
theorem r_MTo_lightest_7n : Rr X d MTo_lightest 7 L (.null :: st) h = Rr X d MTo_lightest 17 L st h := R_nul0 d_MTo_lightest_7 (by decide)
theorem r_MTo_lightest_10 {l0 l1 l3 l4 : Value} {x : Int32} : Rr X d MTo_lightest 10 [l0, l1, .int x, l3, l4] st h = Rr X d MTo_lightest 11 [l0, l1, .int x, l3, l4] (.int x :: st) h := Rr_nx d_MTo_lightest_10 rfl
theorem r_MTo_lightest_11 {y0 : Int32} (hc : ckS st = true) : Rr X (d + 1) MTo_lightest 11 L (.int y0 :: st) h = (Rr X d MTo_isKeen 0 [.int y0] [] h).bind fun q => Rr X (d + 1) MTo_lightest 14 L (psh q.1 st) q.2 := R_is (av := [.int y0]) d_MTo_lightest_11 (Or.inl fc_9_191) (ckS_le hc) rfl (Nat.le_of_ble_eq_true rfl) (Nat.le_of_ble_eq_true rfl)
theorem r_MTo_lightest_14 {x : Int32} : Rr X d MTo_lightest 14 L (.int x :: st) h = if ¬ x = 0 then Rr X d MTo_lightest 19 L st h else Rr X d MTo_lightest 17 L st h := R_if_ne d_MTo_lightest_14 (by decide)
theorem r_MTo_lightest_17 : Rr X d MTo_lightest 17 L st h = Rr X d MTo_lightest 18 L (.int (-1) :: st) h := Rr_nx d_MTo_lightest_17 rfl
theorem r_MTo_lightest_18 {x : Int32} : Rr X d MTo_lightest 18 L [.int x] h = some (some (.int x), h) := R_ir d_MTo_lightest_18 rfl
theorem r_MTo_lightest_19 : Rr X d MTo_lightest 19 L st h = Rr X d MTo_lightest 20 L (.int (1) :: st) h := Rr_nx d_MTo_lightest_19 rfl
theorem r_MTo_lightest_20 {l0 l1 l2 l3 l4 : Value} {x : Int32} : Rr X d MTo_lightest 20 [l0, l1, l2, l3, l4] (.int x :: st) h = Rr X d MTo_lightest 22 (sL [l0, l1, l2, l3, l4] 4 (.int x)) st h := Rr_nx d_MTo_lightest_20 rfl
theorem r_MTo_lightest_22 {l0 l1 l2 l3 : Value} {x : Int32} : Rr X d MTo_lightest 22 [l0, l1, l2, l3, .int x] st h = Rr X d MTo_lightest 24 [l0, l1, l2, l3, .int x] (.int x :: st) h := Rr_nx d_MTo_lightest_22 rfl
theorem r_MTo_lightest_24 : Rr X d MTo_lightest 24 L st h = Rr X d MTo_lightest 26 L (.int (9) :: st) h := Rr_nx d_MTo_lightest_24 rfl
theorem r_MTo_lightest_26 {x y : Int32} : Rr X d MTo_lightest 26 L (.int y :: .int x :: st) h = if y < x then Rr X d MTo_lightest 48 L st h else Rr X d MTo_lightest 29 L st h := R_ic_gt d_MTo_lightest_26 (by decide)
theorem r_MTo_lightest_29 {l0 l1 l2 l4 : Value} {x : Nat} : Rr X d MTo_lightest 29 [l0, l1, l2, .ref x, l4] st h = Rr X d MTo_lightest 30 [l0, l1, l2, .ref x, l4] (.ref x :: st) h := Rr_nx d_MTo_lightest_29 rfl
theorem r_MTo_lightest_29n {l0 l1 l2 l4 : Value} : Rr X d MTo_lightest 29 [l0, l1, l2, .null, l4] st h = Rr X d MTo_lightest 30 [l0, l1, l2, .null, l4] (.null :: st) h := Rr_nx d_MTo_lightest_29 rfl
theorem r_MTo_lightest_30 {l0 l1 l2 l3 : Value} {x : Int32} : Rr X d MTo_lightest 30 [l0, l1, l2, l3, .int x] st h = Rr X d MTo_lightest 32 [l0, l1, l2, l3, .int x] (.int x :: st) h := Rr_nx d_MTo_lightest_30 rfl
theorem r_MTo_lightest_32 {l0 l1 l3 l4 : Value} {x : Int32} : Rr X d MTo_lightest 32 [l0, l1, .int x, l3, l4] st h = Rr X d MTo_lightest 33 [l0, l1, .int x, l3, l4] (.int x :: st) h := Rr_nx d_MTo_lightest_32 rfl
theorem r_MTo_lightest_33 {y0 : Int32} {y1 : Int32} {a : Nat} (hO : qO a 7 = true) (hc : ckS st = true) : Rr X (d + 1) MTo_lightest 33 L (.int y1 :: .int y0 :: .ref a :: st) (Wd mu la ro et) = (Rr X d MSt_screwPlace 0 [.ref a, .int y0, .int y1, mkU, mkU] [] (Wd mu la ro et)).bind fun q => Rr X (d + 1) MTo_lightest 36 L (psh q.1 st) q.2 := R_iv (av := [.int y1, .int y0]) d_MTo_lightest_33 fc_9_194 hO (ckS_le hc) rfl (Nat.le_of_ble_eq_true rfl) (Nat.le_of_ble_eq_true rfl)
theorem r_MTo_lightest_36 {x : Int32} : Rr X d MTo_lightest 36 L (.int x :: st) h = if x < 0 then Rr X d MTo_lightest 42 L st h else Rr X d MTo_lightest 39 L st h := R_if_lt d_MTo_lightest_36 (by decide)
theorem r_MTo_lightest_39 {l0 l1 l2 l3 : Value} {x : Int32} : Rr X d MTo_lightest 39 [l0, l1, l2, l3, .int x] st h = Rr X d MTo_lightest 41 [l0, l1, l2, l3, .int x] (.int x :: st) h := Rr_nx d_MTo_lightest_39 rfl
theorem r_MTo_lightest_41 {x : Int32} : Rr X d MTo_lightest 41 L [.int x] h = some (some (.int x), h) := R_ir d_MTo_lightest_41 rfl
theorem r_MTo_lightest_42 {l0 l1 l2 l3 : Value} {x : Int32} : Rr X d MTo_lightest 42 [l0, l1, l2, l3, .int x] st h = Rr X d MTo_lightest 45 (sL [l0, l1, l2, l3, .int x] 4 (.int (x + (1)))) st h := Rr_nx d_MTo_lightest_42 rfl
theorem r_MTo_lightest_45 : Rr X d MTo_lightest 45 L st h = Rr X d MTo_lightest 22 L st h := R_goto d_MTo_lightest_45 (by decide)
theorem r_MTo_lightest_48 : Rr X d MTo_lightest 48 L st h = Rr X d MTo_lightest 50 L (.int (-2) :: st) h := Rr_nx d_MTo_lightest_48 rfl
theorem r_MTo_lightest_50 {x : Int32} : Rr X d MTo_lightest 50 L [.int x] h = some (some (.int x), h) := R_ir d_MTo_lightest_50 rfl
theorem d_MTo_seen_0 : decode MTo_seen.2.2.1 0 = .ok (.aload_n 0, 1) := by decide +kernel
theorem d_MTo_seen_1 : decode MTo_seen.2.2.1 1 = .ok (.iload_n 1, 1) := by decide +kernel
theorem d_MTo_seen_2 : decode MTo_seen.2.2.1 2 = .ok (.invokevirtual 135, 3) := by decide +kernel
theorem d_MTo_seen_5 : decode MTo_seen.2.2.1 5 = .ok (.ifCond .eq 11, 3) := by decide +kernel
theorem d_MTo_seen_8 : decode MTo_seen.2.2.1 8 = .ok (.iload_n 2, 1) := by decide +kernel
theorem d_MTo_seen_9 : decode MTo_seen.2.2.1 9 = .ok (.iload_n 3, 1) := by decide +kernel
theorem d_MTo_seen_10 : decode MTo_seen.2.2.1 10 = .ok (.invokestatic 139, 3) := by decide +kernel
theorem d_MTo_seen_13 : decode MTo_seen.2.2.1 13 = .ok (.ifCond .ne 5, 3) := by decide +kernel
theorem d_MTo_seen_16 : decode MTo_seen.2.2.1 16 = .ok (.iconst (-1), 1) := by decide +kernel
theorem d_MTo_seen_17 : decode MTo_seen.2.2.1 17 = .ok (.ireturn, 1) := by decide +kernel
theorem d_MTo_seen_18 : decode MTo_seen.2.2.1 18 = .ok (.iconst 1, 1) := by decide +kernel
theorem d_MTo_seen_19 : decode MTo_seen.2.2.1 19 = .ok (.istore 4, 2) := by decide +kernel
theorem d_MTo_seen_21 : decode MTo_seen.2.2.1 21 = .ok (.iload 4, 2) := by decide +kernel
theorem d_MTo_seen_23 : decode MTo_seen.2.2.1 23 = .ok (.bipush 9, 2) := by decide +kernel
theorem d_MTo_seen_25 : decode MTo_seen.2.2.1 25 = .ok (.if_icmp .gt 28, 3) := by decide +kernel
theorem d_MTo_seen_28 : decode MTo_seen.2.2.1 28 = .ok (.aload_n 0, 1) := by decide +kernel
theorem d_MTo_seen_29 : decode MTo_seen.2.2.1 29 = .ok (.iload_n 1, 1) := by decide +kernel
theorem d_MTo_seen_30 : decode MTo_seen.2.2.1 30 = .ok (.iload 4, 2) := by decide +kernel
theorem d_MTo_seen_32 : decode MTo_seen.2.2.1 32 = .ok (.invokevirtual 197, 3) := by decide +kernel
theorem d_MTo_seen_35 : decode MTo_seen.2.2.1 35 = .ok (.aload_n 0, 1) := by decide +kernel
theorem d_MTo_seen_36 : decode MTo_seen.2.2.1 36 = .ok (.iload_n 2, 1) := by decide +kernel
theorem d_MTo_seen_37 : decode MTo_seen.2.2.1 37 = .ok (.iload_n 3, 1) := by decide +kernel
theorem d_MTo_seen_38 : decode MTo_seen.2.2.1 38 = .ok (.invokevirtual 188, 3) := by decide +kernel
theorem d_MTo_seen_41 : decode MTo_seen.2.2.1 41 = .ok (.ifCond .le 6, 3) := by decide +kernel
theorem d_MTo_seen_44 : decode MTo_seen.2.2.1 44 = .ok (.iload 4, 2) := by decide +kernel
theorem d_MTo_seen_46 : decode MTo_seen.2.2.1 46 = .ok (.ireturn, 1) := by decide +kernel
theorem d_MTo_seen_47 : decode MTo_seen.2.2.1 47 = .ok (.iinc 4 1, 3) := by decide +kernel
theorem d_MTo_seen_50 : decode MTo_seen.2.2.1 50 = .ok (.goto (-29), 3) := by decide +kernel
theorem d_MTo_seen_53 : decode MTo_seen.2.2.1 53 = .ok (.bipush (-2), 2) := by decide +kernel
theorem d_MTo_seen_55 : decode MTo_seen.2.2.1 55 = .ok (.ireturn, 1) := by decide +kernel
theorem r_MTo_seen_0 {l1 l2 l3 l4 : Value} {x : Nat} : Rr X d MTo_seen 0 [.ref x, l1, l2, l3, l4] st h = Rr X d MTo_seen 1 [.ref x, l1, l2, l3, l4] (.ref x :: st) h := Rr_nx d_MTo_seen_0 rfl
theorem r_MTo_seen_1 {l0 l2 l3 l4 : Value} {x : Int32} : Rr X d MTo_seen 1 [l0, .int x, l2, l3, l4] st h = Rr X d MTo_seen 2 [l0, .int x, l2, l3, l4] (.int x :: st) h := Rr_nx d_MTo_seen_1 rfl
theorem r_MTo_seen_2 {y0 : Int32} {a : Nat} (hO : qO a 9 = true) (hc : ckS st = true) : Rr X (d + 1) MTo_seen 2 L (.int y0 :: .ref a :: st) (Wd mu la ro et) = (Rr X d MTo_isGround 0 [.ref a, .int y0] [] (Wd mu la ro et)).bind fun q => Rr X (d + 1) MTo_seen 5 L (psh q.1 st) q.2 := R_iv (av := [.int y0]) d_MTo_seen_2 fc_9_135 hO (ckS_le hc) rfl (Nat.le_of_ble_eq_true rfl) (Nat.le_of_ble_eq_true rfl)
theorem r_MTo_seen_5 {x : Int32} : Rr X d MTo_seen 5 L (.int x :: st) h = if x = 0 then Rr X d MTo_seen 16 L st h else Rr X d MTo_seen 8 L st h := R_if_eq d_MTo_seen_5 (by decide)
theorem r_MTo_seen_8 {l0 l1 l3 l4 : Value} {x : Int32} : Rr X d MTo_seen 8 [l0, l1, .int x, l3, l4] st h = Rr X d MTo_seen 9 [l0, l1, .int x, l3, l4] (.int x :: st) h := Rr_nx d_MTo_seen_8 rfl
theorem r_MTo_seen_9 {l0 l1 l2 l4 : Value} {x : Int32} : Rr X d MTo_seen 9 [l0, l1, l2, .int x, l4] st h = Rr X d MTo_seen 10 [l0, l1, l2, .int x, l4] (.int x :: st) h := Rr_nx d_MTo_seen_9 rfl
theorem r_MTo_seen_10 {y0 : Int32} {y1 : Int32} (hc : ckS st = true) : Rr X (d + 1) MTo_seen 10 L (.int y1 :: .int y0 :: st) h = (Rr X d MTo_isStart 0 [.int y0, .int y1] [] h).bind fun q => Rr X (d + 1) MTo_seen 13 L (psh q.1 st) q.2 := R_is (av := [.int y1, .int y0]) d_MTo_seen_10 (Or.inl fc_9_139) (ckS_le hc) rfl (Nat.le_of_ble_eq_true rfl) (Nat.le_of_ble_eq_true rfl)
theorem r_MTo_seen_13 {x : Int32} : Rr X d MTo_seen 13 L (.int x :: st) h = if ¬ x = 0 then Rr X d MTo_seen 18 L st h else Rr X d MTo_seen 16 L st h := R_if_ne d_MTo_seen_13 (by decide)
theorem r_MTo_seen_16 : Rr X d MTo_seen 16 L st h = Rr X d MTo_seen 17 L (.int (-1) :: st) h := Rr_nx d_MTo_seen_16 rfl
theorem r_MTo_seen_17 {x : Int32} : Rr X d MTo_seen 17 L [.int x] h = some (some (.int x), h) := R_ir d_MTo_seen_17 rfl
theorem r_MTo_seen_18 : Rr X d MTo_seen 18 L st h = Rr X d MTo_seen 19 L (.int (1) :: st) h := Rr_nx d_MTo_seen_18 rfl
theorem r_MTo_seen_19 {l0 l1 l2 l3 l4 : Value} {x : Int32} : Rr X d MTo_seen 19 [l0, l1, l2, l3, l4] (.int x :: st) h = Rr X d MTo_seen 21 (sL [l0, l1, l2, l3, l4] 4 (.int x)) st h := Rr_nx d_MTo_seen_19 rfl
theorem r_MTo_seen_21 {l0 l1 l2 l3 : Value} {x : Int32} : Rr X d MTo_seen 21 [l0, l1, l2, l3, .int x] st h = Rr X d MTo_seen 23 [l0, l1, l2, l3, .int x] (.int x :: st) h := Rr_nx d_MTo_seen_21 rfl
theorem r_MTo_seen_23 : Rr X d MTo_seen 23 L st h = Rr X d MTo_seen 25 L (.int (9) :: st) h := Rr_nx d_MTo_seen_23 rfl
theorem r_MTo_seen_25 {x y : Int32} : Rr X d MTo_seen 25 L (.int y :: .int x :: st) h = if y < x then Rr X d MTo_seen 53 L st h else Rr X d MTo_seen 28 L st h := R_ic_gt d_MTo_seen_25 (by decide)
theorem r_MTo_seen_28 {l1 l2 l3 l4 : Value} {x : Nat} : Rr X d MTo_seen 28 [.ref x, l1, l2, l3, l4] st h = Rr X d MTo_seen 29 [.ref x, l1, l2, l3, l4] (.ref x :: st) h := Rr_nx d_MTo_seen_28 rfl
theorem r_MTo_seen_29 {l0 l2 l3 l4 : Value} {x : Int32} : Rr X d MTo_seen 29 [l0, .int x, l2, l3, l4] st h = Rr X d MTo_seen 30 [l0, .int x, l2, l3, l4] (.int x :: st) h := Rr_nx d_MTo_seen_29 rfl
theorem r_MTo_seen_30 {l0 l1 l2 l3 : Value} {x : Int32} : Rr X d MTo_seen 30 [l0, l1, l2, l3, .int x] st h = Rr X d MTo_seen 32 [l0, l1, l2, l3, .int x] (.int x :: st) h := Rr_nx d_MTo_seen_30 rfl
theorem fc_9_197 : fC 9 197 = some (0, 9, 2, MTo_lay) := rfl
theorem r_MTo_seen_32 {y0 : Int32} {y1 : Int32} {a : Nat} (hO : qO a 9 = true) (hc : ckS st = true) : Rr X (d + 1) MTo_seen 32 L (.int y1 :: .int y0 :: .ref a :: st) (Wd mu la ro et) = (Rr X d MTo_lay 0 [.ref a, .int y0, .int y1, mkU] [] (Wd mu la ro et)).bind fun q => Rr X (d + 1) MTo_seen 35 L (psh q.1 st) q.2 := R_iv (av := [.int y1, .int y0]) d_MTo_seen_32 fc_9_197 hO (ckS_le hc) rfl (Nat.le_of_ble_eq_true rfl) (Nat.le_of_ble_eq_true rfl)
theorem r_MTo_seen_35 {l1 l2 l3 l4 : Value} {x : Nat} : Rr X d MTo_seen 35 [.ref x, l1, l2, l3, l4] st h = Rr X d MTo_seen 36 [.ref x, l1, l2, l3, l4] (.ref x :: st) h := Rr_nx d_MTo_seen_35 rfl
theorem r_MTo_seen_36 {l0 l1 l3 l4 : Value} {x : Int32} : Rr X d MTo_seen 36 [l0, l1, .int x, l3, l4] st h = Rr X d MTo_seen 37 [l0, l1, .int x, l3, l4] (.int x :: st) h := Rr_nx d_MTo_seen_36 rfl
theorem r_MTo_seen_37 {l0 l1 l2 l4 : Value} {x : Int32} : Rr X d MTo_seen 37 [l0, l1, l2, .int x, l4] st h = Rr X d MTo_seen 38 [l0, l1, l2, .int x, l4] (.int x :: st) h := Rr_nx d_MTo_seen_37 rfl
theorem r_MTo_seen_38 {y0 : Int32} {y1 : Int32} {a : Nat} (hO : qO a 9 = true) (hc : ckS st = true) : Rr X (d + 1) MTo_seen 38 L (.int y1 :: .int y0 :: .ref a :: st) (Wd mu la ro et) = (Rr X d MTo_firstBack 0 [.ref a, .int y0, .int y1, mkU] [] (Wd mu la ro et)).bind fun q => Rr X (d + 1) MTo_seen 41 L (psh q.1 st) q.2 := R_iv (av := [.int y1, .int y0]) d_MTo_seen_38 fc_9_188 hO (ckS_le hc) rfl (Nat.le_of_ble_eq_true rfl) (Nat.le_of_ble_eq_true rfl)
theorem r_MTo_seen_41 {x : Int32} : Rr X d MTo_seen 41 L (.int x :: st) h = if x ≤ 0 then Rr X d MTo_seen 47 L st h else Rr X d MTo_seen 44 L st h := R_if_le d_MTo_seen_41 (by decide)
theorem r_MTo_seen_44 {l0 l1 l2 l3 : Value} {x : Int32} : Rr X d MTo_seen 44 [l0, l1, l2, l3, .int x] st h = Rr X d MTo_seen 46 [l0, l1, l2, l3, .int x] (.int x :: st) h := Rr_nx d_MTo_seen_44 rfl
theorem r_MTo_seen_46 {x : Int32} : Rr X d MTo_seen 46 L [.int x] h = some (some (.int x), h) := R_ir d_MTo_seen_46 rfl
theorem r_MTo_seen_47 {l0 l1 l2 l3 : Value} {x : Int32} : Rr X d MTo_seen 47 [l0, l1, l2, l3, .int x] st h = Rr X d MTo_seen 50 (sL [l0, l1, l2, l3, .int x] 4 (.int (x + (1)))) st h := Rr_nx d_MTo_seen_47 rfl
theorem r_MTo_seen_50 : Rr X d MTo_seen 50 L st h = Rr X d MTo_seen 21 L st h := R_goto d_MTo_seen_50 (by decide)
theorem r_MTo_seen_53 : Rr X d MTo_seen 53 L st h = Rr X d MTo_seen 55 L (.int (-2) :: st) h := Rr_nx d_MTo_seen_53 rfl
theorem r_MTo_seen_55 {x : Int32} : Rr X d MTo_seen 55 L [.int x] h = some (some (.int x), h) := R_ir d_MTo_seen_55 rfl
theorem d_MTo_pressed_0 : decode MTo_pressed.2.2.1 0 = .ok (.aload_n 0, 1) := by decide +kernel
theorem d_MTo_pressed_1 : decode MTo_pressed.2.2.1 1 = .ok (.iload_n 1, 1) := by decide +kernel
theorem d_MTo_pressed_2 : decode MTo_pressed.2.2.1 2 = .ok (.invokevirtual 135, 3) := by decide +kernel
theorem d_MTo_pressed_5 : decode MTo_pressed.2.2.1 5 = .ok (.ifCond .eq 11, 3) := by decide +kernel
theorem d_MTo_pressed_8 : decode MTo_pressed.2.2.1 8 = .ok (.iconst 0, 1) := by decide +kernel
theorem d_MTo_pressed_9 : decode MTo_pressed.2.2.1 9 = .ok (.iload_n 2, 1) := by decide +kernel
theorem d_MTo_pressed_10 : decode MTo_pressed.2.2.1 10 = .ok (.invokestatic 139, 3) := by decide +kernel
theorem d_MTo_pressed_13 : decode MTo_pressed.2.2.1 13 = .ok (.ifCond .ne 6, 3) := by decide +kernel
theorem d_MTo_pressed_16 : decode MTo_pressed.2.2.1 16 = .ok (.ldc 104, 2) := by decide +kernel
theorem d_MTo_pressed_18 : decode MTo_pressed.2.2.1 18 = .ok (.ireturn, 1) := by decide +kernel
theorem d_MTo_pressed_19 : decode MTo_pressed.2.2.1 19 = .ok (.aload_n 0, 1) := by decide +kernel
theorem d_MTo_pressed_20 : decode MTo_pressed.2.2.1 20 = .ok (.iload_n 1, 1) := by decide +kernel
theorem d_MTo_pressed_21 : decode MTo_pressed.2.2.1 21 = .ok (.invokevirtual 142, 3) := by decide +kernel
theorem d_MTo_pressed_24 : decode MTo_pressed.2.2.1 24 = .ok (.aload_n 0, 1) := by decide +kernel
theorem d_MTo_pressed_25 : decode MTo_pressed.2.2.1 25 = .ok (.iconst 0, 1) := by decide +kernel
theorem d_MTo_pressed_26 : decode MTo_pressed.2.2.1 26 = .ok (.iload_n 2, 1) := by decide +kernel
theorem d_MTo_pressed_27 : decode MTo_pressed.2.2.1 27 = .ok (.invokevirtual 145, 3) := by decide +kernel
theorem d_MTo_pressed_30 : decode MTo_pressed.2.2.1 30 = .ok (.aload_n 0, 1) := by decide +kernel
theorem d_MTo_pressed_31 : decode MTo_pressed.2.2.1 31 = .ok (.getfield 37, 3) := by decide +kernel
theorem d_MTo_pressed_34 : decode MTo_pressed.2.2.1 34 = .ok (.sipush 400, 3) := by decide +kernel
theorem d_MTo_pressed_37 : decode MTo_pressed.2.2.1 37 = .ok (.invokevirtual 181, 3) := by decide +kernel
theorem d_MTo_pressed_40 : decode MTo_pressed.2.2.1 40 = .ok (.aload_n 0, 1) := by decide +kernel
theorem d_MTo_pressed_41 : decode MTo_pressed.2.2.1 41 = .ok (.getfield 37, 3) := by decide +kernel
theorem d_MTo_pressed_44 : decode MTo_pressed.2.2.1 44 = .ok (.getfield 200, 3) := by decide +kernel
theorem d_MTo_pressed_47 : decode MTo_pressed.2.2.1 47 = .ok (.ireturn, 1) := by decide +kernel
theorem r_MTo_pressed_0 {l1 l2 : Value} {x : Nat} : Rr X d MTo_pressed 0 [.ref x, l1, l2] st h = Rr X d MTo_pressed 1 [.ref x, l1, l2] (.ref x :: st) h := Rr_nx d_MTo_pressed_0 rfl
theorem r_MTo_pressed_1 {l0 l2 : Value} {x : Int32} : Rr X d MTo_pressed 1 [l0, .int x, l2] st h = Rr X d MTo_pressed 2 [l0, .int x, l2] (.int x :: st) h := Rr_nx d_MTo_pressed_1 rfl
theorem r_MTo_pressed_2 {y0 : Int32} {a : Nat} (hO : qO a 9 = true) (hc : ckS st = true) : Rr X (d + 1) MTo_pressed 2 L (.int y0 :: .ref a :: st) (Wd mu la ro et) = (Rr X d MTo_isGround 0 [.ref a, .int y0] [] (Wd mu la ro et)).bind fun q => Rr X (d + 1) MTo_pressed 5 L (psh q.1 st) q.2 := R_iv (av := [.int y0]) d_MTo_pressed_2 fc_9_135 hO (ckS_le hc) rfl (Nat.le_of_ble_eq_true rfl) (Nat.le_of_ble_eq_true rfl)
theorem r_MTo_pressed_5 {x : Int32} : Rr X d MTo_pressed 5 L (.int x :: st) h = if x = 0 then Rr X d MTo_pressed 16 L st h else Rr X d MTo_pressed 8 L st h := R_if_eq d_MTo_pressed_5 (by decide)
theorem r_MTo_pressed_8 : Rr X d MTo_pressed 8 L st h = Rr X d MTo_pressed 9 L (.int (0) :: st) h := Rr_nx d_MTo_pressed_8 rfl
theorem r_MTo_pressed_9 {l0 l1 : Value} {x : Int32} : Rr X d MTo_pressed 9 [l0, l1, .int x] st h = Rr X d MTo_pressed 10 [l0, l1, .int x] (.int x :: st) h := Rr_nx d_MTo_pressed_9 rfl
theorem r_MTo_pressed_10 {y0 : Int32} {y1 : Int32} (hc : ckS st = true) : Rr X (d + 1) MTo_pressed 10 L (.int y1 :: .int y0 :: st) h = (Rr X d MTo_isStart 0 [.int y0, .int y1] [] h).bind fun q => Rr X (d + 1) MTo_pressed 13 L (psh q.1 st) q.2 := R_is (av := [.int y1, .int y0]) d_MTo_pressed_10 (Or.inl fc_9_139) (ckS_le hc) rfl (Nat.le_of_ble_eq_true rfl) (Nat.le_of_ble_eq_true rfl)
theorem r_MTo_pressed_13 {x : Int32} : Rr X d MTo_pressed 13 L (.int x :: st) h = if ¬ x = 0 then Rr X d MTo_pressed 19 L st h else Rr X d MTo_pressed 16 L st h := R_if_ne d_MTo_pressed_13 (by decide)
theorem r_MTo_pressed_16 : Rr X d MTo_pressed 16 L st h = Rr X d MTo_pressed 18 L (.int (-2000000000) :: st) h := Rr_nx d_MTo_pressed_16 rfl
theorem r_MTo_pressed_18 {x : Int32} : Rr X d MTo_pressed 18 L [.int x] h = some (some (.int x), h) := R_ir d_MTo_pressed_18 rfl
theorem r_MTo_pressed_19 {l1 l2 : Value} {x : Nat} : Rr X d MTo_pressed 19 [.ref x, l1, l2] st h = Rr X d MTo_pressed 20 [.ref x, l1, l2] (.ref x :: st) h := Rr_nx d_MTo_pressed_19 rfl
theorem r_MTo_pressed_20 {l0 l2 : Value} {x : Int32} : Rr X d MTo_pressed 20 [l0, .int x, l2] st h = Rr X d MTo_pressed 21 [l0, .int x, l2] (.int x :: st) h := Rr_nx d_MTo_pressed_20 rfl
theorem r_MTo_pressed_21 {y0 : Int32} {a : Nat} (hO : qO a 9 = true) (hc : ckS st = true) : Rr X (d + 1) MTo_pressed 21 L (.int y0 :: .ref a :: st) (Wd mu la ro et) = (Rr X d MTo_layOwn 0 [.ref a, .int y0, mkU] [] (Wd mu la ro et)).bind fun q => Rr X (d + 1) MTo_pressed 24 L (psh q.1 st) q.2 := R_iv (av := [.int y0]) d_MTo_pressed_21 fc_9_142 hO (ckS_le hc) rfl (Nat.le_of_ble_eq_true rfl) (Nat.le_of_ble_eq_true rfl)
theorem r_MTo_pressed_24 {l1 l2 : Value} {x : Nat} : Rr X d MTo_pressed 24 [.ref x, l1, l2] st h = Rr X d MTo_pressed 25 [.ref x, l1, l2] (.ref x :: st) h := Rr_nx d_MTo_pressed_24 rfl
theorem r_MTo_pressed_25 : Rr X d MTo_pressed 25 L st h = Rr X d MTo_pressed 26 L (.int (0) :: st) h := Rr_nx d_MTo_pressed_25 rfl
theorem r_MTo_pressed_26 {l0 l1 : Value} {x : Int32} : Rr X d MTo_pressed 26 [l0, l1, .int x] st h = Rr X d MTo_pressed 27 [l0, l1, .int x] (.int x :: st) h := Rr_nx d_MTo_pressed_26 rfl
theorem r_MTo_pressed_27 {y0 : Int32} {y1 : Int32} {a : Nat} (hO : qO a 9 = true) (hc : ckS st = true) : Rr X (d + 1) MTo_pressed 27 L (.int y1 :: .int y0 :: .ref a :: st) (Wd mu la ro et) = (Rr X d MTo_start 0 [.ref a, .int y0, .int y1] [] (Wd mu la ro et)).bind fun q => Rr X (d + 1) MTo_pressed 30 L (psh q.1 st) q.2 := R_iv (av := [.int y1, .int y0]) d_MTo_pressed_27 fc_9_145 hO (ckS_le hc) rfl (Nat.le_of_ble_eq_true rfl) (Nat.le_of_ble_eq_true rfl)
theorem r_MTo_pressed_30 {l1 l2 : Value} {x : Nat} : Rr X d MTo_pressed 30 [.ref x, l1, l2] st h = Rr X d MTo_pressed 31 [.ref x, l1, l2] (.ref x :: st) h := Rr_nx d_MTo_pressed_30 rfl
theorem r_MTo_pressed_31 {a : Nat} (hq : (qR a 9 4).isSome = true) : Rr X d MTo_pressed 31 L (.ref a :: st) (Wd mu la ro et) = Rr X d MTo_pressed 34 L (.ref (qRd a 9 4) :: st) (Wd mu la ro et) := R_gfR d_MTo_pressed_31 ff_9_37 hq
theorem r_MTo_pressed_34 : Rr X d MTo_pressed 34 L st h = Rr X d MTo_pressed 37 L (.int (400) :: st) h := Rr_nx d_MTo_pressed_34 rfl
theorem r_MTo_pressed_37 {y0 : Int32} {a : Nat} (hO : qO a 5 = true) (hc : ckS st = true) : Rr X (d + 1) MTo_pressed 37 L (.int y0 :: .ref a :: st) (Wd mu la ro et) = (Rr X d MMo_run 0 [.ref a, .int y0, mkU] [] (Wd mu la ro et)).bind fun q => Rr X (d + 1) MTo_pressed 40 L (psh q.1 st) q.2 := R_iv (av := [.int y0]) d_MTo_pressed_37 fc_9_181 hO (ckS_le hc) rfl (Nat.le_of_ble_eq_true rfl) (Nat.le_of_ble_eq_true rfl)
theorem r_MTo_pressed_40 {l1 l2 : Value} {x : Nat} : Rr X d MTo_pressed 40 [.ref x, l1, l2] st h = Rr X d MTo_pressed 41 [.ref x, l1, l2] (.ref x :: st) h := Rr_nx d_MTo_pressed_40 rfl
theorem r_MTo_pressed_41 {a : Nat} (hq : (qR a 9 4).isSome = true) : Rr X d MTo_pressed 41 L (.ref a :: st) (Wd mu la ro et) = Rr X d MTo_pressed 44 L (.ref (qRd a 9 4) :: st) (Wd mu la ro et) := R_gfR d_MTo_pressed_41 ff_9_37 hq
theorem ff_9_200 : fF 9 200 = some (5, 13, 0, 0) := rfl
theorem r_MTo_pressed_44 {a : Nat} (hq : qI a 5 13 = true) : Rr X d MTo_pressed 44 L (.ref a :: st) (Wd mu la ro et) = Rr X d MTo_pressed 47 L (.int (mu a 13) :: st) (Wd mu la ro et) := R_gfI d_MTo_pressed_44 ff_9_200 hq
theorem r_MTo_pressed_47 {x : Int32} : Rr X d MTo_pressed 47 L [.int x] h = some (some (.int x), h) := R_ir d_MTo_pressed_47 rfl
theorem d_MTo_hands_0 : decode MTo_hands.2.2.1 0 = .ok (.aload_n 0, 1) := by decide +kernel
theorem d_MTo_hands_1 : decode MTo_hands.2.2.1 1 = .ok (.iload_n 1, 1) := by decide +kernel
theorem d_MTo_hands_2 : decode MTo_hands.2.2.1 2 = .ok (.invokevirtual 135, 3) := by decide +kernel
theorem d_MTo_hands_5 : decode MTo_hands.2.2.1 5 = .ok (.ifCond .eq 13, 3) := by decide +kernel
theorem d_MTo_hands_8 : decode MTo_hands.2.2.1 8 = .ok (.iload_n 3, 1) := by decide +kernel
theorem d_MTo_hands_9 : decode MTo_hands.2.2.1 9 = .ok (.iconst 1, 1) := by decide +kernel
theorem d_MTo_hands_10 : decode MTo_hands.2.2.1 10 = .ok (.bipush 20, 2) := by decide +kernel
theorem d_MTo_hands_12 : decode MTo_hands.2.2.1 12 = .ok (.invokestatic 72, 3) := by decide +kernel
theorem d_MTo_hands_15 : decode MTo_hands.2.2.1 15 = .ok (.ifCond .ne 5, 3) := by decide +kernel
theorem d_MTo_hands_18 : decode MTo_hands.2.2.1 18 = .ok (.iconst (-1), 1) := by decide +kernel
theorem d_MTo_hands_19 : decode MTo_hands.2.2.1 19 = .ok (.ireturn, 1) := by decide +kernel
theorem d_MTo_hands_20 : decode MTo_hands.2.2.1 20 = .ok (.aload_n 0, 1) := by decide +kernel
theorem d_MTo_hands_21 : decode MTo_hands.2.2.1 21 = .ok (.iload_n 1, 1) := by decide +kernel
theorem d_MTo_hands_22 : decode MTo_hands.2.2.1 22 = .ok (.invokevirtual 142, 3) := by decide +kernel
theorem d_MTo_hands_25 : decode MTo_hands.2.2.1 25 = .ok (.iload_n 2, 1) := by decide +kernel
theorem d_MTo_hands_26 : decode MTo_hands.2.2.1 26 = .ok (.istore 4, 2) := by decide +kernel
theorem d_MTo_hands_28 : decode MTo_hands.2.2.1 28 = .ok (.iconst 0, 1) := by decide +kernel
theorem d_MTo_hands_29 : decode MTo_hands.2.2.1 29 = .ok (.istore 5, 2) := by decide +kernel
theorem d_MTo_hands_31 : decode MTo_hands.2.2.1 31 = .ok (.iconst 0, 1) := by decide +kernel
theorem d_MTo_hands_32 : decode MTo_hands.2.2.1 32 = .ok (.istore 6, 2) := by decide +kernel
theorem d_MTo_hands_34 : decode MTo_hands.2.2.1 34 = .ok (.iload 6, 2) := by decide +kernel
theorem d_MTo_hands_36 : decode MTo_hands.2.2.1 36 = .ok (.iload_n 3, 1) := by decide +kernel
theorem d_MTo_hands_37 : decode MTo_hands.2.2.1 37 = .ok (.if_icmp .ge 86, 3) := by decide +kernel
theorem d_MTo_hands_40 : decode MTo_hands.2.2.1 40 = .ok (.iload 4, 2) := by decide +kernel
theorem d_MTo_hands_42 : decode MTo_hands.2.2.1 42 = .ok (.invokestatic 203, 3) := by decide +kernel
theorem d_MTo_hands_45 : decode MTo_hands.2.2.1 45 = .ok (.istore 4, 2) := by decide +kernel
theorem d_MTo_hands_47 : decode MTo_hands.2.2.1 47 = .ok (.iload 4, 2) := by decide +kernel
theorem d_MTo_hands_49 : decode MTo_hands.2.2.1 49 = .ok (.bipush 8, 2) := by decide +kernel
theorem d_MTo_hands_51 : decode MTo_hands.2.2.1 51 = .ok (.iushr, 1) := by decide +kernel
theorem d_MTo_hands_52 : decode MTo_hands.2.2.1 52 = .ok (.sipush 1001, 3) := by decide +kernel
theorem d_MTo_hands_55 : decode MTo_hands.2.2.1 55 = .ok (.irem, 1) := by decide +kernel
theorem d_MTo_hands_56 : decode MTo_hands.2.2.1 56 = .ok (.sipush 500, 3) := by decide +kernel
theorem d_MTo_hands_59 : decode MTo_hands.2.2.1 59 = .ok (.isub, 1) := by decide +kernel
theorem d_MTo_hands_60 : decode MTo_hands.2.2.1 60 = .ok (.istore 7, 2) := by decide +kernel
theorem d_MTo_hands_62 : decode MTo_hands.2.2.1 62 = .ok (.iload 4, 2) := by decide +kernel
theorem d_MTo_hands_64 : decode MTo_hands.2.2.1 64 = .ok (.invokestatic 203, 3) := by decide +kernel
theorem d_MTo_hands_67 : decode MTo_hands.2.2.1 67 = .ok (.istore 4, 2) := by decide +kernel
theorem d_MTo_hands_69 : decode MTo_hands.2.2.1 69 = .ok (.iload 4, 2) := by decide +kernel
theorem d_MTo_hands_71 : decode MTo_hands.2.2.1 71 = .ok (.bipush 8, 2) := by decide +kernel
theorem d_MTo_hands_73 : decode MTo_hands.2.2.1 73 = .ok (.iushr, 1) := by decide +kernel
theorem d_MTo_hands_74 : decode MTo_hands.2.2.1 74 = .ok (.bipush 50, 2) := by decide +kernel
theorem d_MTo_hands_76 : decode MTo_hands.2.2.1 76 = .ok (.irem, 1) := by decide +kernel
theorem d_MTo_hands_77 : decode MTo_hands.2.2.1 77 = .ok (.istore 8, 2) := by decide +kernel
theorem d_MTo_hands_79 : decode MTo_hands.2.2.1 79 = .ok (.iload 4, 2) := by decide +kernel
theorem d_MTo_hands_81 : decode MTo_hands.2.2.1 81 = .ok (.invokestatic 203, 3) := by decide +kernel
theorem d_MTo_hands_84 : decode MTo_hands.2.2.1 84 = .ok (.istore 4, 2) := by decide +kernel
theorem d_MTo_hands_86 : decode MTo_hands.2.2.1 86 = .ok (.iload 4, 2) := by decide +kernel
theorem d_MTo_hands_88 : decode MTo_hands.2.2.1 88 = .ok (.bipush 8, 2) := by decide +kernel
theorem d_MTo_hands_90 : decode MTo_hands.2.2.1 90 = .ok (.iushr, 1) := by decide +kernel
theorem d_MTo_hands_91 : decode MTo_hands.2.2.1 91 = .ok (.bipush 50, 2) := by decide +kernel
theorem d_MTo_hands_93 : decode MTo_hands.2.2.1 93 = .ok (.irem, 1) := by decide +kernel
theorem d_MTo_hands_94 : decode MTo_hands.2.2.1 94 = .ok (.istore 9, 2) := by decide +kernel
theorem d_MTo_hands_96 : decode MTo_hands.2.2.1 96 = .ok (.aload_n 0, 1) := by decide +kernel
theorem d_MTo_hands_97 : decode MTo_hands.2.2.1 97 = .ok (.iload 7, 2) := by decide +kernel
theorem d_MTo_hands_99 : decode MTo_hands.2.2.1 99 = .ok (.sipush 1000, 3) := by decide +kernel
theorem d_MTo_hands_102 : decode MTo_hands.2.2.1 102 = .ok (.iload 8, 2) := by decide +kernel
theorem d_MTo_hands_104 : decode MTo_hands.2.2.1 104 = .ok (.imul, 1) := by decide +kernel
theorem d_MTo_hands_105 : decode MTo_hands.2.2.1 105 = .ok (.iload 9, 2) := by decide +kernel
theorem d_MTo_hands_107 : decode MTo_hands.2.2.1 107 = .ok (.iadd, 1) := by decide +kernel
theorem d_MTo_hands_108 : decode MTo_hands.2.2.1 108 = .ok (.invokevirtual 188, 3) := by decide +kernel
theorem d_MTo_hands_111 : decode MTo_hands.2.2.1 111 = .ok (.ifCond .le 6, 3) := by decide +kernel
theorem d_MTo_hands_114 : decode MTo_hands.2.2.1 114 = .ok (.iinc 5 1, 3) := by decide +kernel
theorem d_MTo_hands_117 : decode MTo_hands.2.2.1 117 = .ok (.iinc 6 1, 3) := by decide +kernel
theorem d_MTo_hands_120 : decode MTo_hands.2.2.1 120 = .ok (.goto (-86), 3) := by decide +kernel
theorem d_MTo_hands_123 : decode MTo_hands.2.2.1 123 = .ok (.iload 5, 2) := by decide +kernel
theorem d_MTo_hands_125 : decode MTo_hands.2.2.1 125 = .ok (.ireturn, 1) := by decide +kernel
theorem r_MTo_hands_0 {l1 l2 l3 l4 l5 l6 l7 l8 l9 : Value} {x : Nat} : Rr X d MTo_hands 0 [.ref x, l1, l2, l3, l4, l5, l6, l7, l8, l9] st h = Rr X d MTo_hands 1 [.ref x, l1, l2, l3, l4, l5, l6, l7, l8, l9] (.ref x :: st) h := Rr_nx d_MTo_hands_0 rfl
theorem r_MTo_hands_1 {l0 l2 l3 l4 l5 l6 l7 l8 l9 : Value} {x : Int32} : Rr X d MTo_hands 1 [l0, .int x, l2, l3, l4, l5, l6, l7, l8, l9] st h = Rr X d MTo_hands 2 [l0, .int x, l2, l3, l4, l5, l6, l7, l8, l9] (.int x :: st) h := Rr_nx d_MTo_hands_1 rfl
theorem r_MTo_hands_2 {y0 : Int32} {a : Nat} (hO : qO a 9 = true) (hc : ckS st = true) : Rr X (d + 1) MTo_hands 2 L (.int y0 :: .ref a :: st) (Wd mu la ro et) = (Rr X d MTo_isGround 0 [.ref a, .int y0] [] (Wd mu la ro et)).bind fun q => Rr X (d + 1) MTo_hands 5 L (psh q.1 st) q.2 := R_iv (av := [.int y0]) d_MTo_hands_2 fc_9_135 hO (ckS_le hc) rfl (Nat.le_of_ble_eq_true rfl) (Nat.le_of_ble_eq_true rfl)
theorem r_MTo_hands_5 {x : Int32} : Rr X d MTo_hands 5 L (.int x :: st) h = if x = 0 then Rr X d MTo_hands 18 L st h else Rr X d MTo_hands 8 L st h := R_if_eq d_MTo_hands_5 (by decide)
theorem r_MTo_hands_8 {l0 l1 l2 l4 l5 l6 l7 l8 l9 : Value} {x : Int32} : Rr X d MTo_hands 8 [l0, l1, l2, .int x, l4, l5, l6, l7, l8, l9] st h = Rr X d MTo_hands 9 [l0, l1, l2, .int x, l4, l5, l6, l7, l8, l9] (.int x :: st) h := Rr_nx d_MTo_hands_8 rfl
theorem r_MTo_hands_9 : Rr X d MTo_hands 9 L st h = Rr X d MTo_hands 10 L (.int (1) :: st) h := Rr_nx d_MTo_hands_9 rfl
theorem r_MTo_hands_10 : Rr X d MTo_hands 10 L st h = Rr X d MTo_hands 12 L (.int (20) :: st) h := Rr_nx d_MTo_hands_10 rfl
theorem r_MTo_hands_12 {y0 : Int32} {y1 : Int32} {y2 : Int32} (hc : ckS st = true) : Rr X (d + 1) MTo_hands 12 L (.int y2 :: .int y1 :: .int y0 :: st) h = (Rr X d MTo_isWithin 0 [.int y0, .int y1, .int y2] [] h).bind fun q => Rr X (d + 1) MTo_hands 15 L (psh q.1 st) q.2 := R_is (av := [.int y2, .int y1, .int y0]) d_MTo_hands_12 (Or.inl fc_9_72) (ckS_le hc) rfl (Nat.le_of_ble_eq_true rfl) (Nat.le_of_ble_eq_true rfl)
theorem r_MTo_hands_15 {x : Int32} : Rr X d MTo_hands 15 L (.int x :: st) h = if ¬ x = 0 then Rr X d MTo_hands 20 L st h else Rr X d MTo_hands 18 L st h := R_if_ne d_MTo_hands_15 (by decide)
theorem r_MTo_hands_18 : Rr X d MTo_hands 18 L st h = Rr X d MTo_hands 19 L (.int (-1) :: st) h := Rr_nx d_MTo_hands_18 rfl
theorem r_MTo_hands_19 {x : Int32} : Rr X d MTo_hands 19 L [.int x] h = some (some (.int x), h) := R_ir d_MTo_hands_19 rfl
theorem r_MTo_hands_20 {l1 l2 l3 l4 l5 l6 l7 l8 l9 : Value} {x : Nat} : Rr X d MTo_hands 20 [.ref x, l1, l2, l3, l4, l5, l6, l7, l8, l9] st h = Rr X d MTo_hands 21 [.ref x, l1, l2, l3, l4, l5, l6, l7, l8, l9] (.ref x :: st) h := Rr_nx d_MTo_hands_20 rfl
theorem r_MTo_hands_21 {l0 l2 l3 l4 l5 l6 l7 l8 l9 : Value} {x : Int32} : Rr X d MTo_hands 21 [l0, .int x, l2, l3, l4, l5, l6, l7, l8, l9] st h = Rr X d MTo_hands 22 [l0, .int x, l2, l3, l4, l5, l6, l7, l8, l9] (.int x :: st) h := Rr_nx d_MTo_hands_21 rfl
theorem r_MTo_hands_22 {y0 : Int32} {a : Nat} (hO : qO a 9 = true) (hc : ckS st = true) : Rr X (d + 1) MTo_hands 22 L (.int y0 :: .ref a :: st) (Wd mu la ro et) = (Rr X d MTo_layOwn 0 [.ref a, .int y0, mkU] [] (Wd mu la ro et)).bind fun q => Rr X (d + 1) MTo_hands 25 L (psh q.1 st) q.2 := R_iv (av := [.int y0]) d_MTo_hands_22 fc_9_142 hO (ckS_le hc) rfl (Nat.le_of_ble_eq_true rfl) (Nat.le_of_ble_eq_true rfl)
theorem r_MTo_hands_25 {l0 l1 l3 l4 l5 l6 l7 l8 l9 : Value} {x : Int32} : Rr X d MTo_hands 25 [l0, l1, .int x, l3, l4, l5, l6, l7, l8, l9] st h = Rr X d MTo_hands 26 [l0, l1, .int x, l3, l4, l5, l6, l7, l8, l9] (.int x :: st) h := Rr_nx d_MTo_hands_25 rfl
theorem r_MTo_hands_26 {l0 l1 l2 l3 l4 l5 l6 l7 l8 l9 : Value} {x : Int32} : Rr X d MTo_hands 26 [l0, l1, l2, l3, l4, l5, l6, l7, l8, l9] (.int x :: st) h = Rr X d MTo_hands 28 (sL [l0, l1, l2, l3, l4, l5, l6, l7, l8, l9] 4 (.int x)) st h := Rr_nx d_MTo_hands_26 rfl
theorem r_MTo_hands_28 : Rr X d MTo_hands 28 L st h = Rr X d MTo_hands 29 L (.int (0) :: st) h := Rr_nx d_MTo_hands_28 rfl
theorem r_MTo_hands_29 {l0 l1 l2 l3 l4 l5 l6 l7 l8 l9 : Value} {x : Int32} : Rr X d MTo_hands 29 [l0, l1, l2, l3, l4, l5, l6, l7, l8, l9] (.int x :: st) h = Rr X d MTo_hands 31 (sL [l0, l1, l2, l3, l4, l5, l6, l7, l8, l9] 5 (.int x)) st h := Rr_nx d_MTo_hands_29 rfl
theorem r_MTo_hands_31 : Rr X d MTo_hands 31 L st h = Rr X d MTo_hands 32 L (.int (0) :: st) h := Rr_nx d_MTo_hands_31 rfl
theorem r_MTo_hands_32 {l0 l1 l2 l3 l4 l5 l6 l7 l8 l9 : Value} {x : Int32} : Rr X d MTo_hands 32 [l0, l1, l2, l3, l4, l5, l6, l7, l8, l9] (.int x :: st) h = Rr X d MTo_hands 34 (sL [l0, l1, l2, l3, l4, l5, l6, l7, l8, l9] 6 (.int x)) st h := Rr_nx d_MTo_hands_32 rfl
theorem r_MTo_hands_34 {l0 l1 l2 l3 l4 l5 l7 l8 l9 : Value} {x : Int32} : Rr X d MTo_hands 34 [l0, l1, l2, l3, l4, l5, .int x, l7, l8, l9] st h = Rr X d MTo_hands 36 [l0, l1, l2, l3, l4, l5, .int x, l7, l8, l9] (.int x :: st) h := Rr_nx d_MTo_hands_34 rfl
theorem r_MTo_hands_36 {l0 l1 l2 l4 l5 l6 l7 l8 l9 : Value} {x : Int32} : Rr X d MTo_hands 36 [l0, l1, l2, .int x, l4, l5, l6, l7, l8, l9] st h = Rr X d MTo_hands 37 [l0, l1, l2, .int x, l4, l5, l6, l7, l8, l9] (.int x :: st) h := Rr_nx d_MTo_hands_36 rfl
theorem r_MTo_hands_37 {x y : Int32} : Rr X d MTo_hands 37 L (.int y :: .int x :: st) h = if y ≤ x then Rr X d MTo_hands 123 L st h else Rr X d MTo_hands 40 L st h := R_ic_ge d_MTo_hands_37 (by decide)
theorem r_MTo_hands_40 {l0 l1 l2 l3 l5 l6 l7 l8 l9 : Value} {x : Int32} : Rr X d MTo_hands 40 [l0, l1, l2, l3, .int x, l5, l6, l7, l8, l9] st h = Rr X d MTo_hands 42 [l0, l1, l2, l3, .int x, l5, l6, l7, l8, l9] (.int x :: st) h := Rr_nx d_MTo_hands_40 rfl
theorem fc_9_203 : fC 9 203 = some (1, 0, 1, MTo_drawn) := rfl
theorem r_MTo_hands_42 {y0 : Int32} (hc : ckS st = true) : Rr X (d + 1) MTo_hands 42 L (.int y0 :: st) h = (Rr X d MTo_drawn 0 [.int y0] [] h).bind fun q => Rr X (d + 1) MTo_hands 45 L (psh q.1 st) q.2 := R_is (av := [.int y0]) d_MTo_hands_42 (Or.inl fc_9_203) (ckS_le hc) rfl (Nat.le_of_ble_eq_true rfl) (Nat.le_of_ble_eq_true rfl)
theorem r_MTo_hands_45 {l0 l1 l2 l3 l4 l5 l6 l7 l8 l9 : Value} {x : Int32} : Rr X d MTo_hands 45 [l0, l1, l2, l3, l4, l5, l6, l7, l8, l9] (.int x :: st) h = Rr X d MTo_hands 47 (sL [l0, l1, l2, l3, l4, l5, l6, l7, l8, l9] 4 (.int x)) st h := Rr_nx d_MTo_hands_45 rfl
theorem r_MTo_hands_47 {l0 l1 l2 l3 l5 l6 l7 l8 l9 : Value} {x : Int32} : Rr X d MTo_hands 47 [l0, l1, l2, l3, .int x, l5, l6, l7, l8, l9] st h = Rr X d MTo_hands 49 [l0, l1, l2, l3, .int x, l5, l6, l7, l8, l9] (.int x :: st) h := Rr_nx d_MTo_hands_47 rfl
theorem r_MTo_hands_49 : Rr X d MTo_hands 49 L st h = Rr X d MTo_hands 51 L (.int (8) :: st) h := Rr_nx d_MTo_hands_49 rfl
theorem r_MTo_hands_51 {x y : Int32} : Rr X d MTo_hands 51 L (.int y :: .int x :: st) h = Rr X d MTo_hands 52 L (.int ((x.toUInt32 >>> (y.toUInt32 &&& Int32.toUInt32 31)).toInt32) :: st) h := Rr_nx d_MTo_hands_51 rfl
theorem r_MTo_hands_52 : Rr X d MTo_hands 52 L st h = Rr X d MTo_hands 55 L (.int (1001) :: st) h := Rr_nx d_MTo_hands_52 rfl
theorem r_MTo_hands_55 {x y : Int32} : Rr X d MTo_hands 55 L (.int y :: .int x :: st) h = if y = 0 then none else Rr X d MTo_hands 56 L (.int (x - x / y * y) :: st) h := R_rm d_MTo_hands_55
theorem r_MTo_hands_56 : Rr X d MTo_hands 56 L st h = Rr X d MTo_hands 59 L (.int (500) :: st) h := Rr_nx d_MTo_hands_56 rfl
theorem r_MTo_hands_59 {x y : Int32} : Rr X d MTo_hands 59 L (.int y :: .int x :: st) h = Rr X d MTo_hands 60 L (.int (x - y) :: st) h := Rr_nx d_MTo_hands_59 rfl
theorem r_MTo_hands_60 {l0 l1 l2 l3 l4 l5 l6 l7 l8 l9 : Value} {x : Int32} : Rr X d MTo_hands 60 [l0, l1, l2, l3, l4, l5, l6, l7, l8, l9] (.int x :: st) h = Rr X d MTo_hands 62 (sL [l0, l1, l2, l3, l4, l5, l6, l7, l8, l9] 7 (.int x)) st h := Rr_nx d_MTo_hands_60 rfl
theorem r_MTo_hands_62 {l0 l1 l2 l3 l5 l6 l7 l8 l9 : Value} {x : Int32} : Rr X d MTo_hands 62 [l0, l1, l2, l3, .int x, l5, l6, l7, l8, l9] st h = Rr X d MTo_hands 64 [l0, l1, l2, l3, .int x, l5, l6, l7, l8, l9] (.int x :: st) h := Rr_nx d_MTo_hands_62 rfl
theorem r_MTo_hands_64 {y0 : Int32} (hc : ckS st = true) : Rr X (d + 1) MTo_hands 64 L (.int y0 :: st) h = (Rr X d MTo_drawn 0 [.int y0] [] h).bind fun q => Rr X (d + 1) MTo_hands 67 L (psh q.1 st) q.2 := R_is (av := [.int y0]) d_MTo_hands_64 (Or.inl fc_9_203) (ckS_le hc) rfl (Nat.le_of_ble_eq_true rfl) (Nat.le_of_ble_eq_true rfl)
theorem r_MTo_hands_67 {l0 l1 l2 l3 l4 l5 l6 l7 l8 l9 : Value} {x : Int32} : Rr X d MTo_hands 67 [l0, l1, l2, l3, l4, l5, l6, l7, l8, l9] (.int x :: st) h = Rr X d MTo_hands 69 (sL [l0, l1, l2, l3, l4, l5, l6, l7, l8, l9] 4 (.int x)) st h := Rr_nx d_MTo_hands_67 rfl
theorem r_MTo_hands_69 {l0 l1 l2 l3 l5 l6 l7 l8 l9 : Value} {x : Int32} : Rr X d MTo_hands 69 [l0, l1, l2, l3, .int x, l5, l6, l7, l8, l9] st h = Rr X d MTo_hands 71 [l0, l1, l2, l3, .int x, l5, l6, l7, l8, l9] (.int x :: st) h := Rr_nx d_MTo_hands_69 rfl
theorem r_MTo_hands_71 : Rr X d MTo_hands 71 L st h = Rr X d MTo_hands 73 L (.int (8) :: st) h := Rr_nx d_MTo_hands_71 rfl
theorem r_MTo_hands_73 {x y : Int32} : Rr X d MTo_hands 73 L (.int y :: .int x :: st) h = Rr X d MTo_hands 74 L (.int ((x.toUInt32 >>> (y.toUInt32 &&& Int32.toUInt32 31)).toInt32) :: st) h := Rr_nx d_MTo_hands_73 rfl
theorem r_MTo_hands_74 : Rr X d MTo_hands 74 L st h = Rr X d MTo_hands 76 L (.int (50) :: st) h := Rr_nx d_MTo_hands_74 rfl
theorem r_MTo_hands_76 {x y : Int32} : Rr X d MTo_hands 76 L (.int y :: .int x :: st) h = if y = 0 then none else Rr X d MTo_hands 77 L (.int (x - x / y * y) :: st) h := R_rm d_MTo_hands_76
theorem r_MTo_hands_77 {l0 l1 l2 l3 l4 l5 l6 l7 l8 l9 : Value} {x : Int32} : Rr X d MTo_hands 77 [l0, l1, l2, l3, l4, l5, l6, l7, l8, l9] (.int x :: st) h = Rr X d MTo_hands 79 (sL [l0, l1, l2, l3, l4, l5, l6, l7, l8, l9] 8 (.int x)) st h := Rr_nx d_MTo_hands_77 rfl
theorem r_MTo_hands_79 {l0 l1 l2 l3 l5 l6 l7 l8 l9 : Value} {x : Int32} : Rr X d MTo_hands 79 [l0, l1, l2, l3, .int x, l5, l6, l7, l8, l9] st h = Rr X d MTo_hands 81 [l0, l1, l2, l3, .int x, l5, l6, l7, l8, l9] (.int x :: st) h := Rr_nx d_MTo_hands_79 rfl
theorem r_MTo_hands_81 {y0 : Int32} (hc : ckS st = true) : Rr X (d + 1) MTo_hands 81 L (.int y0 :: st) h = (Rr X d MTo_drawn 0 [.int y0] [] h).bind fun q => Rr X (d + 1) MTo_hands 84 L (psh q.1 st) q.2 := R_is (av := [.int y0]) d_MTo_hands_81 (Or.inl fc_9_203) (ckS_le hc) rfl (Nat.le_of_ble_eq_true rfl) (Nat.le_of_ble_eq_true rfl)
theorem r_MTo_hands_84 {l0 l1 l2 l3 l4 l5 l6 l7 l8 l9 : Value} {x : Int32} : Rr X d MTo_hands 84 [l0, l1, l2, l3, l4, l5, l6, l7, l8, l9] (.int x :: st) h = Rr X d MTo_hands 86 (sL [l0, l1, l2, l3, l4, l5, l6, l7, l8, l9] 4 (.int x)) st h := Rr_nx d_MTo_hands_84 rfl
theorem r_MTo_hands_86 {l0 l1 l2 l3 l5 l6 l7 l8 l9 : Value} {x : Int32} : Rr X d MTo_hands 86 [l0, l1, l2, l3, .int x, l5, l6, l7, l8, l9] st h = Rr X d MTo_hands 88 [l0, l1, l2, l3, .int x, l5, l6, l7, l8, l9] (.int x :: st) h := Rr_nx d_MTo_hands_86 rfl
theorem r_MTo_hands_88 : Rr X d MTo_hands 88 L st h = Rr X d MTo_hands 90 L (.int (8) :: st) h := Rr_nx d_MTo_hands_88 rfl
theorem r_MTo_hands_90 {x y : Int32} : Rr X d MTo_hands 90 L (.int y :: .int x :: st) h = Rr X d MTo_hands 91 L (.int ((x.toUInt32 >>> (y.toUInt32 &&& Int32.toUInt32 31)).toInt32) :: st) h := Rr_nx d_MTo_hands_90 rfl
theorem r_MTo_hands_91 : Rr X d MTo_hands 91 L st h = Rr X d MTo_hands 93 L (.int (50) :: st) h := Rr_nx d_MTo_hands_91 rfl
theorem r_MTo_hands_93 {x y : Int32} : Rr X d MTo_hands 93 L (.int y :: .int x :: st) h = if y = 0 then none else Rr X d MTo_hands 94 L (.int (x - x / y * y) :: st) h := R_rm d_MTo_hands_93
theorem r_MTo_hands_94 {l0 l1 l2 l3 l4 l5 l6 l7 l8 l9 : Value} {x : Int32} : Rr X d MTo_hands 94 [l0, l1, l2, l3, l4, l5, l6, l7, l8, l9] (.int x :: st) h = Rr X d MTo_hands 96 (sL [l0, l1, l2, l3, l4, l5, l6, l7, l8, l9] 9 (.int x)) st h := Rr_nx d_MTo_hands_94 rfl
theorem r_MTo_hands_96 {l1 l2 l3 l4 l5 l6 l7 l8 l9 : Value} {x : Nat} : Rr X d MTo_hands 96 [.ref x, l1, l2, l3, l4, l5, l6, l7, l8, l9] st h = Rr X d MTo_hands 97 [.ref x, l1, l2, l3, l4, l5, l6, l7, l8, l9] (.ref x :: st) h := Rr_nx d_MTo_hands_96 rfl
theorem r_MTo_hands_97 {l0 l1 l2 l3 l4 l5 l6 l8 l9 : Value} {x : Int32} : Rr X d MTo_hands 97 [l0, l1, l2, l3, l4, l5, l6, .int x, l8, l9] st h = Rr X d MTo_hands 99 [l0, l1, l2, l3, l4, l5, l6, .int x, l8, l9] (.int x :: st) h := Rr_nx d_MTo_hands_97 rfl
theorem r_MTo_hands_99 : Rr X d MTo_hands 99 L st h = Rr X d MTo_hands 102 L (.int (1000) :: st) h := Rr_nx d_MTo_hands_99 rfl
theorem r_MTo_hands_102 {l0 l1 l2 l3 l4 l5 l6 l7 l9 : Value} {x : Int32} : Rr X d MTo_hands 102 [l0, l1, l2, l3, l4, l5, l6, l7, .int x, l9] st h = Rr X d MTo_hands 104 [l0, l1, l2, l3, l4, l5, l6, l7, .int x, l9] (.int x :: st) h := Rr_nx d_MTo_hands_102 rfl
theorem r_MTo_hands_104 {x y : Int32} : Rr X d MTo_hands 104 L (.int y :: .int x :: st) h = Rr X d MTo_hands 105 L (.int (x * y) :: st) h := Rr_nx d_MTo_hands_104 rfl
theorem r_MTo_hands_105 {l0 l1 l2 l3 l4 l5 l6 l7 l8 : Value} {x : Int32} : Rr X d MTo_hands 105 [l0, l1, l2, l3, l4, l5, l6, l7, l8, .int x] st h = Rr X d MTo_hands 107 [l0, l1, l2, l3, l4, l5, l6, l7, l8, .int x] (.int x :: st) h := Rr_nx d_MTo_hands_105 rfl
theorem r_MTo_hands_107 {x y : Int32} : Rr X d MTo_hands 107 L (.int y :: .int x :: st) h = Rr X d MTo_hands 108 L (.int (x + y) :: st) h := Rr_nx d_MTo_hands_107 rfl
theorem r_MTo_hands_108 {y0 : Int32} {y1 : Int32} {a : Nat} (hO : qO a 9 = true) (hc : ckS st = true) : Rr X (d + 1) MTo_hands 108 L (.int y1 :: .int y0 :: .ref a :: st) (Wd mu la ro et) = (Rr X d MTo_firstBack 0 [.ref a, .int y0, .int y1, mkU] [] (Wd mu la ro et)).bind fun q => Rr X (d + 1) MTo_hands 111 L (psh q.1 st) q.2 := R_iv (av := [.int y1, .int y0]) d_MTo_hands_108 fc_9_188 hO (ckS_le hc) rfl (Nat.le_of_ble_eq_true rfl) (Nat.le_of_ble_eq_true rfl)
theorem r_MTo_hands_111 {x : Int32} : Rr X d MTo_hands 111 L (.int x :: st) h = if x ≤ 0 then Rr X d MTo_hands 117 L st h else Rr X d MTo_hands 114 L st h := R_if_le d_MTo_hands_111 (by decide)
theorem r_MTo_hands_114 {l0 l1 l2 l3 l4 l6 l7 l8 l9 : Value} {x : Int32} : Rr X d MTo_hands 114 [l0, l1, l2, l3, l4, .int x, l6, l7, l8, l9] st h = Rr X d MTo_hands 117 (sL [l0, l1, l2, l3, l4, .int x, l6, l7, l8, l9] 5 (.int (x + (1)))) st h := Rr_nx d_MTo_hands_114 rfl
theorem r_MTo_hands_117 {l0 l1 l2 l3 l4 l5 l7 l8 l9 : Value} {x : Int32} : Rr X d MTo_hands 117 [l0, l1, l2, l3, l4, l5, .int x, l7, l8, l9] st h = Rr X d MTo_hands 120 (sL [l0, l1, l2, l3, l4, l5, .int x, l7, l8, l9] 6 (.int (x + (1)))) st h := Rr_nx d_MTo_hands_117 rfl
theorem r_MTo_hands_120 : Rr X d MTo_hands 120 L st h = Rr X d MTo_hands 34 L st h := R_goto d_MTo_hands_120 (by decide)
theorem r_MTo_hands_123 {l0 l1 l2 l3 l4 l6 l7 l8 l9 : Value} {x : Int32} : Rr X d MTo_hands 123 [l0, l1, l2, l3, l4, .int x, l6, l7, l8, l9] st h = Rr X d MTo_hands 125 [l0, l1, l2, l3, l4, .int x, l6, l7, l8, l9] (.int x :: st) h := Rr_nx d_MTo_hands_123 rfl
theorem r_MTo_hands_125 {x : Int32} : Rr X d MTo_hands 125 L [.int x] h = some (some (.int x), h) := R_ir d_MTo_hands_125 rfl
theorem d_MTo_frame_0 : decode MTo_frame.2.2.1 0 = .ok (.aload_n 0, 1) := by decide +kernel
theorem d_MTo_frame_1 : decode MTo_frame.2.2.1 1 = .ok (.getfield 51, 3) := by decide +kernel
theorem d_MTo_frame_4 : decode MTo_frame.2.2.1 4 = .ok (.iload_n 1, 1) := by decide +kernel
theorem d_MTo_frame_5 : decode MTo_frame.2.2.1 5 = .ok (.iload_n 2, 1) := by decide +kernel
theorem d_MTo_frame_6 : decode MTo_frame.2.2.1 6 = .ok (.invokevirtual 206, 3) := by decide +kernel
theorem d_MTo_frame_9 : decode MTo_frame.2.2.1 9 = .ok (.ifCond .ne 5, 3) := by decide +kernel
theorem d_MTo_frame_12 : decode MTo_frame.2.2.1 12 = .ok (.iconst (-1), 1) := by decide +kernel
theorem d_MTo_frame_13 : decode MTo_frame.2.2.1 13 = .ok (.ireturn, 1) := by decide +kernel
theorem d_MTo_frame_14 : decode MTo_frame.2.2.1 14 = .ok (.aload_n 0, 1) := by decide +kernel
theorem d_MTo_frame_15 : decode MTo_frame.2.2.1 15 = .ok (.getfield 51, 3) := by decide +kernel
theorem d_MTo_frame_18 : decode MTo_frame.2.2.1 18 = .ok (.iload_n 1, 1) := by decide +kernel
theorem d_MTo_frame_19 : decode MTo_frame.2.2.1 19 = .ok (.iload_n 2, 1) := by decide +kernel
theorem d_MTo_frame_20 : decode MTo_frame.2.2.1 20 = .ok (.invokevirtual 209, 3) := by decide +kernel
theorem d_MTo_frame_23 : decode MTo_frame.2.2.1 23 = .ok (.ifCond .eq 15, 3) := by decide +kernel
theorem d_MTo_frame_26 : decode MTo_frame.2.2.1 26 = .ok (.aload_n 0, 1) := by decide +kernel
theorem d_MTo_frame_27 : decode MTo_frame.2.2.1 27 = .ok (.getfield 51, 3) := by decide +kernel
theorem d_MTo_frame_30 : decode MTo_frame.2.2.1 30 = .ok (.getfield 211, 3) := by decide +kernel
theorem d_MTo_frame_33 : decode MTo_frame.2.2.1 33 = .ok (.iconst 1, 1) := by decide +kernel
theorem d_MTo_frame_34 : decode MTo_frame.2.2.1 34 = .ok (.isub, 1) := by decide +kernel
theorem d_MTo_frame_35 : decode MTo_frame.2.2.1 35 = .ok (.goto 5, 3) := by decide +kernel
theorem d_MTo_frame_38 : decode MTo_frame.2.2.1 38 = .ok (.bipush (-3), 2) := by decide +kernel
theorem d_MTo_frame_40 : decode MTo_frame.2.2.1 40 = .ok (.ireturn, 1) := by decide +kernel
theorem r_MTo_frame_0 {l1 l2 : Value} {x : Nat} : Rr X d MTo_frame 0 [.ref x, l1, l2] st h = Rr X d MTo_frame 1 [.ref x, l1, l2] (.ref x :: st) h := Rr_nx d_MTo_frame_0 rfl
theorem ff_9_51 : fF 9 51 = some (9, 6, 1, 1) := rfl
theorem r_MTo_frame_1 {a : Nat} (hq : (qR a 9 6).isSome = true) : Rr X d MTo_frame 1 L (.ref a :: st) (Wd mu la ro et) = Rr X d MTo_frame 4 L (.ref (qRd a 9 6) :: st) (Wd mu la ro et) := R_gfR d_MTo_frame_1 ff_9_51 hq
theorem r_MTo_frame_4 {l0 l2 : Value} {x : Int32} : Rr X d MTo_frame 4 [l0, .int x, l2] st h = Rr X d MTo_frame 5 [l0, .int x, l2] (.int x :: st) h := Rr_nx d_MTo_frame_4 rfl
theorem r_MTo_frame_5 {l0 l1 : Value} {x : Int32} : Rr X d MTo_frame 5 [l0, l1, .int x] st h = Rr X d MTo_frame 6 [l0, l1, .int x] (.int x :: st) h := Rr_nx d_MTo_frame_5 rfl
theorem fc_9_206 : fC 9 206 = some (0, 2, 2, MFi_mayCome) := rfl
theorem r_MTo_frame_6 {y0 : Int32} {y1 : Int32} {a : Nat} (hO : qO a 2 = true) (hc : ckS st = true) : Rr X (d + 1) MTo_frame 6 L (.int y1 :: .int y0 :: .ref a :: st) (Wd mu la ro et) = (Rr X d MFi_mayCome 0 [.ref a, .int y0, .int y1, mkU] [] (Wd mu la ro et)).bind fun q => Rr X (d + 1) MTo_frame 9 L (psh q.1 st) q.2 := R_iv (av := [.int y1, .int y0]) d_MTo_frame_6 fc_9_206 hO (ckS_le hc) rfl (Nat.le_of_ble_eq_true rfl) (Nat.le_of_ble_eq_true rfl)
theorem r_MTo_frame_9 {x : Int32} : Rr X d MTo_frame 9 L (.int x :: st) h = if ¬ x = 0 then Rr X d MTo_frame 14 L st h else Rr X d MTo_frame 12 L st h := R_if_ne d_MTo_frame_9 (by decide)
theorem r_MTo_frame_12 : Rr X d MTo_frame 12 L st h = Rr X d MTo_frame 13 L (.int (-1) :: st) h := Rr_nx d_MTo_frame_12 rfl
theorem r_MTo_frame_13 {x : Int32} : Rr X d MTo_frame 13 L [.int x] h = some (some (.int x), h) := R_ir d_MTo_frame_13 rfl
theorem r_MTo_frame_14 {l1 l2 : Value} {x : Nat} : Rr X d MTo_frame 14 [.ref x, l1, l2] st h = Rr X d MTo_frame 15 [.ref x, l1, l2] (.ref x :: st) h := Rr_nx d_MTo_frame_14 rfl
theorem r_MTo_frame_15 {a : Nat} (hq : (qR a 9 6).isSome = true) : Rr X d MTo_frame 15 L (.ref a :: st) (Wd mu la ro et) = Rr X d MTo_frame 18 L (.ref (qRd a 9 6) :: st) (Wd mu la ro et) := R_gfR d_MTo_frame_15 ff_9_51 hq
theorem r_MTo_frame_18 {l0 l2 : Value} {x : Int32} : Rr X d MTo_frame 18 [l0, .int x, l2] st h = Rr X d MTo_frame 19 [l0, .int x, l2] (.int x :: st) h := Rr_nx d_MTo_frame_18 rfl
theorem r_MTo_frame_19 {l0 l1 : Value} {x : Int32} : Rr X d MTo_frame 19 [l0, l1, .int x] st h = Rr X d MTo_frame 20 [l0, l1, .int x] (.int x :: st) h := Rr_nx d_MTo_frame_19 rfl
theorem fc_9_209 : fC 9 209 = some (0, 2, 2, MFi_append) := rfl
theorem r_MTo_frame_20 {y0 : Int32} {y1 : Int32} {a : Nat} (hO : qO a 2 = true) (hc : ckS st = true) : Rr X (d + 1) MTo_frame 20 L (.int y1 :: .int y0 :: .ref a :: st) (Wd mu la ro et) = (Rr X d MFi_append 0 [.ref a, .int y0, .int y1] [] (Wd mu la ro et)).bind fun q => Rr X (d + 1) MTo_frame 23 L (psh q.1 st) q.2 := R_iv (av := [.int y1, .int y0]) d_MTo_frame_20 fc_9_209 hO (ckS_le hc) rfl (Nat.le_of_ble_eq_true rfl) (Nat.le_of_ble_eq_true rfl)
theorem r_MTo_frame_23 {x : Int32} : Rr X d MTo_frame 23 L (.int x :: st) h = if x = 0 then Rr X d MTo_frame 38 L st h else Rr X d MTo_frame 26 L st h := R_if_eq d_MTo_frame_23 (by decide)
theorem r_MTo_frame_26 {l1 l2 : Value} {x : Nat} : Rr X d MTo_frame 26 [.ref x, l1, l2] st h = Rr X d MTo_frame 27 [.ref x, l1, l2] (.ref x :: st) h := Rr_nx d_MTo_frame_26 rfl
theorem r_MTo_frame_27 {a : Nat} (hq : (qR a 9 6).isSome = true) : Rr X d MTo_frame 27 L (.ref a :: st) (Wd mu la ro et) = Rr X d MTo_frame 30 L (.ref (qRd a 9 6) :: st) (Wd mu la ro et) := R_gfR d_MTo_frame_27 ff_9_51 hq
theorem ff_9_211 : fF 9 211 = some (2, 2, 0, 0) := rfl
theorem r_MTo_frame_30 {a : Nat} (hq : qI a 2 2 = true) : Rr X d MTo_frame 30 L (.ref a :: st) (Wd mu la ro et) = Rr X d MTo_frame 33 L (.int (mu a 2) :: st) (Wd mu la ro et) := R_gfI d_MTo_frame_30 ff_9_211 hq
theorem r_MTo_frame_33 : Rr X d MTo_frame 33 L st h = Rr X d MTo_frame 34 L (.int (1) :: st) h := Rr_nx d_MTo_frame_33 rfl
theorem r_MTo_frame_34 {x y : Int32} : Rr X d MTo_frame 34 L (.int y :: .int x :: st) h = Rr X d MTo_frame 35 L (.int (x - y) :: st) h := Rr_nx d_MTo_frame_34 rfl
theorem r_MTo_frame_35 : Rr X d MTo_frame 35 L st h = Rr X d MTo_frame 40 L st h := R_goto d_MTo_frame_35 (by decide)
theorem r_MTo_frame_38 : Rr X d MTo_frame 38 L st h = Rr X d MTo_frame 40 L (.int (-3) :: st) h := Rr_nx d_MTo_frame_38 rfl
theorem r_MTo_frame_40 {x : Int32} : Rr X d MTo_frame 40 L [.int x] h = some (some (.int x), h) := R_ir d_MTo_frame_40 rfl
theorem d_MTo_frames_0 : decode MTo_frames.2.2.1 0 = .ok (.aload_n 0, 1) := by decide +kernel
theorem d_MTo_frames_1 : decode MTo_frames.2.2.1 1 = .ok (.iload_n 1, 1) := by decide +kernel
theorem d_MTo_frames_2 : decode MTo_frames.2.2.1 2 = .ok (.invokevirtual 212, 3) := by decide +kernel
theorem d_MTo_frames_5 : decode MTo_frames.2.2.1 5 = .ok (.astore 4, 2) := by decide +kernel
theorem d_MTo_frames_7 : decode MTo_frames.2.2.1 7 = .ok (.aload 4, 2) := by decide +kernel
theorem d_MTo_frames_9 : decode MTo_frames.2.2.1 9 = .ok (.ifnull 13, 3) := by decide +kernel
theorem d_MTo_frames_12 : decode MTo_frames.2.2.1 12 = .ok (.iload_n 3, 1) := by decide +kernel
theorem d_MTo_frames_13 : decode MTo_frames.2.2.1 13 = .ok (.iconst 1, 1) := by decide +kernel
theorem d_MTo_frames_14 : decode MTo_frames.2.2.1 14 = .ok (.bipush 30, 2) := by decide +kernel
theorem d_MTo_frames_16 : decode MTo_frames.2.2.1 16 = .ok (.invokestatic 72, 3) := by decide +kernel
theorem d_MTo_frames_19 : decode MTo_frames.2.2.1 19 = .ok (.ifCond .ne 5, 3) := by decide +kernel
theorem d_MTo_frames_22 : decode MTo_frames.2.2.1 22 = .ok (.iconst (-1), 1) := by decide +kernel
theorem d_MTo_frames_23 : decode MTo_frames.2.2.1 23 = .ok (.ireturn, 1) := by decide +kernel
theorem d_MTo_frames_24 : decode MTo_frames.2.2.1 24 = .ok (.aload 4, 2) := by decide +kernel
theorem d_MTo_frames_26 : decode MTo_frames.2.2.1 26 = .ok (.invokevirtual 216, 3) := by decide +kernel
theorem d_MTo_frames_29 : decode MTo_frames.2.2.1 29 = .ok (.ifCond .ne 15, 3) := by decide +kernel
theorem d_MTo_frames_32 : decode MTo_frames.2.2.1 32 = .ok (.aload 4, 2) := by decide +kernel
theorem d_MTo_frames_34 : decode MTo_frames.2.2.1 34 = .ok (.iconst 1, 1) := by decide +kernel
theorem d_MTo_frames_35 : decode MTo_frames.2.2.1 35 = .ok (.invokevirtual 219, 3) := by decide +kernel
theorem d_MTo_frames_38 : decode MTo_frames.2.2.1 38 = .ok (.ifCond .ne 6, 3) := by decide +kernel
theorem d_MTo_frames_41 : decode MTo_frames.2.2.1 41 = .ok (.bipush (-12), 2) := by decide +kernel
theorem d_MTo_frames_43 : decode MTo_frames.2.2.1 43 = .ok (.ireturn, 1) := by decide +kernel
theorem d_MTo_frames_44 : decode MTo_frames.2.2.1 44 = .ok (.aload 4, 2) := by decide +kernel
theorem d_MTo_frames_46 : decode MTo_frames.2.2.1 46 = .ok (.invokevirtual 216, 3) := by decide +kernel
theorem d_MTo_frames_49 : decode MTo_frames.2.2.1 49 = .ok (.ifCond .ne 7, 3) := by decide +kernel
theorem d_MTo_frames_52 : decode MTo_frames.2.2.1 52 = .ok (.iload_n 2, 1) := by decide +kernel
theorem d_MTo_frames_53 : decode MTo_frames.2.2.1 53 = .ok (.ifCond .ge 7, 3) := by decide +kernel
theorem d_MTo_frames_56 : decode MTo_frames.2.2.1 56 = .ok (.iconst 0, 1) := by decide +kernel
theorem d_MTo_frames_57 : decode MTo_frames.2.2.1 57 = .ok (.goto 14, 3) := by decide +kernel
theorem d_MTo_frames_60 : decode MTo_frames.2.2.1 60 = .ok (.aload_n 0, 1) := by decide +kernel
theorem d_MTo_frames_61 : decode MTo_frames.2.2.1 61 = .ok (.getfield 51, 3) := by decide +kernel
theorem d_MTo_frames_64 : decode MTo_frames.2.2.1 64 = .ok (.aload 4, 2) := by decide +kernel
theorem d_MTo_frames_66 : decode MTo_frames.2.2.1 66 = .ok (.iload_n 2, 1) := by decide +kernel
theorem d_MTo_frames_67 : decode MTo_frames.2.2.1 67 = .ok (.iload_n 3, 1) := by decide +kernel
theorem d_MTo_frames_68 : decode MTo_frames.2.2.1 68 = .ok (.invokevirtual 222, 3) := by decide +kernel
theorem d_MTo_frames_71 : decode MTo_frames.2.2.1 71 = .ok (.ireturn, 1) := by decide +kernel
theorem r_MTo_frames_0 {l1 l2 l3 l4 : Value} {x : Nat} : Rr X d MTo_frames 0 [.ref x, l1, l2, l3, l4] st h = Rr X d MTo_frames 1 [.ref x, l1, l2, l3, l4] (.ref x :: st) h := Rr_nx d_MTo_frames_0 rfl
theorem r_MTo_frames_1 {l0 l2 l3 l4 : Value} {x : Int32} : Rr X d MTo_frames 1 [l0, .int x, l2, l3, l4] st h = Rr X d MTo_frames 2 [l0, .int x, l2, l3, l4] (.int x :: st) h := Rr_nx d_MTo_frames_1 rfl
theorem fc_9_212 : fC 9 212 = some (0, 9, 1, MTo_shelfAt) := rfl
theorem r_MTo_frames_2 {y0 : Int32} {a : Nat} (hO : qO a 9 = true) (hc : ckS st = true) : Rr X (d + 1) MTo_frames 2 L (.int y0 :: .ref a :: st) (Wd mu la ro et) = (Rr X d MTo_shelfAt 0 [.ref a, .int y0] [] (Wd mu la ro et)).bind fun q => Rr X (d + 1) MTo_frames 5 L (psh q.1 st) q.2 := R_iv (av := [.int y0]) d_MTo_frames_2 fc_9_212 hO (ckS_le hc) rfl (Nat.le_of_ble_eq_true rfl) (Nat.le_of_ble_eq_true rfl)
theorem r_MTo_frames_5 {l0 l1 l2 l3 l4 : Value} {x : Nat} : Rr X d MTo_frames 5 [l0, l1, l2, l3, l4] (.ref x :: st) h = Rr X d MTo_frames 7 (sL [l0, l1, l2, l3, l4] 4 (.ref x)) st h := Rr_nx d_MTo_frames_5 rfl
theorem r_MTo_frames_5n {l0 l1 l2 l3 l4 : Value} : Rr X d MTo_frames 5 [l0, l1, l2, l3, l4] (.null :: st) h = Rr X d MTo_frames 7 (sL [l0, l1, l2, l3, l4] 4 .null) st h := Rr_nx d_MTo_frames_5 rfl
theorem r_MTo_frames_7 {l0 l1 l2 l3 : Value} {x : Nat} : Rr X d MTo_frames 7 [l0, l1, l2, l3, .ref x] st h = Rr X d MTo_frames 9 [l0, l1, l2, l3, .ref x] (.ref x :: st) h := Rr_nx d_MTo_frames_7 rfl
theorem r_MTo_frames_7n {l0 l1 l2 l3 : Value} : Rr X d MTo_frames 7 [l0, l1, l2, l3, .null] st h = Rr X d MTo_frames 9 [l0, l1, l2, l3, .null] (.null :: st) h := Rr_nx d_MTo_frames_7 rfl
theorem r_MTo_frames_9 {x : Nat} : Rr X d MTo_frames 9 L (.ref x :: st) h = Rr X d MTo_frames 12 L st h := R_nul1 d_MTo_frames_9
theorem r_MTo_frames_9n : Rr X d MTo_frames 9 L (.null :: st) h = Rr X d MTo_frames 22 L st h := R_nul0 d_MTo_frames_9 (by decide)
theorem r_MTo_frames_12 {l0 l1 l2 l4 : Value} {x : Int32} : Rr X d MTo_frames 12 [l0, l1, l2, .int x, l4] st h = Rr X d MTo_frames 13 [l0, l1, l2, .int x, l4] (.int x :: st) h := Rr_nx d_MTo_frames_12 rfl
theorem r_MTo_frames_13 : Rr X d MTo_frames 13 L st h = Rr X d MTo_frames 14 L (.int (1) :: st) h := Rr_nx d_MTo_frames_13 rfl
theorem r_MTo_frames_14 : Rr X d MTo_frames 14 L st h = Rr X d MTo_frames 16 L (.int (30) :: st) h := Rr_nx d_MTo_frames_14 rfl
theorem r_MTo_frames_16 {y0 : Int32} {y1 : Int32} {y2 : Int32} (hc : ckS st = true) : Rr X (d + 1) MTo_frames 16 L (.int y2 :: .int y1 :: .int y0 :: st) h = (Rr X d MTo_isWithin 0 [.int y0, .int y1, .int y2] [] h).bind fun q => Rr X (d + 1) MTo_frames 19 L (psh q.1 st) q.2 := R_is (av := [.int y2, .int y1, .int y0]) d_MTo_frames_16 (Or.inl fc_9_72) (ckS_le hc) rfl (Nat.le_of_ble_eq_true rfl) (Nat.le_of_ble_eq_true rfl)
theorem r_MTo_frames_19 {x : Int32} : Rr X d MTo_frames 19 L (.int x :: st) h = if ¬ x = 0 then Rr X d MTo_frames 24 L st h else Rr X d MTo_frames 22 L st h := R_if_ne d_MTo_frames_19 (by decide)
theorem r_MTo_frames_22 : Rr X d MTo_frames 22 L st h = Rr X d MTo_frames 23 L (.int (-1) :: st) h := Rr_nx d_MTo_frames_22 rfl
theorem r_MTo_frames_23 {x : Int32} : Rr X d MTo_frames 23 L [.int x] h = some (some (.int x), h) := R_ir d_MTo_frames_23 rfl
theorem r_MTo_frames_24 {l0 l1 l2 l3 : Value} {x : Nat} : Rr X d MTo_frames 24 [l0, l1, l2, l3, .ref x] st h = Rr X d MTo_frames 26 [l0, l1, l2, l3, .ref x] (.ref x :: st) h := Rr_nx d_MTo_frames_24 rfl
theorem r_MTo_frames_24n {l0 l1 l2 l3 : Value} : Rr X d MTo_frames 24 [l0, l1, l2, l3, .null] st h = Rr X d MTo_frames 26 [l0, l1, l2, l3, .null] (.null :: st) h := Rr_nx d_MTo_frames_24 rfl
theorem fc_9_216 : fC 9 216 = some (0, 6, 0, MSh_isEmpty) := rfl
theorem r_MTo_frames_26 {a : Nat} (hO : qO a 6 = true) (hc : ckS st = true) : Rr X (d + 1) MTo_frames 26 L (.ref a :: st) (Wd mu la ro et) = (Rr X d MSh_isEmpty 0 [.ref a] [] (Wd mu la ro et)).bind fun q => Rr X (d + 1) MTo_frames 29 L (psh q.1 st) q.2 := R_iv (av := []) d_MTo_frames_26 fc_9_216 hO (ckS_le hc) rfl (Nat.le_of_ble_eq_true rfl) (Nat.le_of_ble_eq_true rfl)
theorem r_MTo_frames_29 {x : Int32} : Rr X d MTo_frames 29 L (.int x :: st) h = if ¬ x = 0 then Rr X d MTo_frames 44 L st h else Rr X d MTo_frames 32 L st h := R_if_ne d_MTo_frames_29 (by decide)
theorem r_MTo_frames_32 {l0 l1 l2 l3 : Value} {x : Nat} : Rr X d MTo_frames 32 [l0, l1, l2, l3, .ref x] st h = Rr X d MTo_frames 34 [l0, l1, l2, l3, .ref x] (.ref x :: st) h := Rr_nx d_MTo_frames_32 rfl
theorem r_MTo_frames_32n {l0 l1 l2 l3 : Value} : Rr X d MTo_frames 32 [l0, l1, l2, l3, .null] st h = Rr X d MTo_frames 34 [l0, l1, l2, l3, .null] (.null :: st) h := Rr_nx d_MTo_frames_32 rfl
theorem r_MTo_frames_34 : Rr X d MTo_frames 34 L st h = Rr X d MTo_frames 35 L (.int (1) :: st) h := Rr_nx d_MTo_frames_34 rfl
theorem fc_9_219 : fC 9 219 = some (0, 6, 1, MSh_isRowOf) := rfl
theorem r_MTo_frames_35 {y0 : Int32} {a : Nat} (hO : qO a 6 = true) (hc : ckS st = true) : Rr X (d + 1) MTo_frames 35 L (.int y0 :: .ref a :: st) (Wd mu la ro et) = (Rr X d MSh_isRowOf 0 [.ref a, .int y0] [] (Wd mu la ro et)).bind fun q => Rr X (d + 1) MTo_frames 38 L (psh q.1 st) q.2 := R_iv (av := [.int y0]) d_MTo_frames_35 fc_9_219 hO (ckS_le hc) rfl (Nat.le_of_ble_eq_true rfl) (Nat.le_of_ble_eq_true rfl)
theorem r_MTo_frames_38 {x : Int32} : Rr X d MTo_frames 38 L (.int x :: st) h = if ¬ x = 0 then Rr X d MTo_frames 44 L st h else Rr X d MTo_frames 41 L st h := R_if_ne d_MTo_frames_38 (by decide)
theorem r_MTo_frames_41 : Rr X d MTo_frames 41 L st h = Rr X d MTo_frames 43 L (.int (-12) :: st) h := Rr_nx d_MTo_frames_41 rfl
theorem r_MTo_frames_43 {x : Int32} : Rr X d MTo_frames 43 L [.int x] h = some (some (.int x), h) := R_ir d_MTo_frames_43 rfl
theorem r_MTo_frames_44 {l0 l1 l2 l3 : Value} {x : Nat} : Rr X d MTo_frames 44 [l0, l1, l2, l3, .ref x] st h = Rr X d MTo_frames 46 [l0, l1, l2, l3, .ref x] (.ref x :: st) h := Rr_nx d_MTo_frames_44 rfl
theorem r_MTo_frames_44n {l0 l1 l2 l3 : Value} : Rr X d MTo_frames 44 [l0, l1, l2, l3, .null] st h = Rr X d MTo_frames 46 [l0, l1, l2, l3, .null] (.null :: st) h := Rr_nx d_MTo_frames_44 rfl
theorem r_MTo_frames_46 {a : Nat} (hO : qO a 6 = true) (hc : ckS st = true) : Rr X (d + 1) MTo_frames 46 L (.ref a :: st) (Wd mu la ro et) = (Rr X d MSh_isEmpty 0 [.ref a] [] (Wd mu la ro et)).bind fun q => Rr X (d + 1) MTo_frames 49 L (psh q.1 st) q.2 := R_iv (av := []) d_MTo_frames_46 fc_9_216 hO (ckS_le hc) rfl (Nat.le_of_ble_eq_true rfl) (Nat.le_of_ble_eq_true rfl)
theorem r_MTo_frames_49 {x : Int32} : Rr X d MTo_frames 49 L (.int x :: st) h = if ¬ x = 0 then Rr X d MTo_frames 56 L st h else Rr X d MTo_frames 52 L st h := R_if_ne d_MTo_frames_49 (by decide)
theorem r_MTo_frames_52 {l0 l1 l3 l4 : Value} {x : Int32} : Rr X d MTo_frames 52 [l0, l1, .int x, l3, l4] st h = Rr X d MTo_frames 53 [l0, l1, .int x, l3, l4] (.int x :: st) h := Rr_nx d_MTo_frames_52 rfl
theorem r_MTo_frames_53 {x : Int32} : Rr X d MTo_frames 53 L (.int x :: st) h = if 0 ≤ x then Rr X d MTo_frames 60 L st h else Rr X d MTo_frames 56 L st h := R_if_ge d_MTo_frames_53 (by decide)
theorem r_MTo_frames_56 : Rr X d MTo_frames 56 L st h = Rr X d MTo_frames 57 L (.int (0) :: st) h := Rr_nx d_MTo_frames_56 rfl
theorem r_MTo_frames_57 : Rr X d MTo_frames 57 L st h = Rr X d MTo_frames 71 L st h := R_goto d_MTo_frames_57 (by decide)
theorem r_MTo_frames_60 {l1 l2 l3 l4 : Value} {x : Nat} : Rr X d MTo_frames 60 [.ref x, l1, l2, l3, l4] st h = Rr X d MTo_frames 61 [.ref x, l1, l2, l3, l4] (.ref x :: st) h := Rr_nx d_MTo_frames_60 rfl
theorem r_MTo_frames_61 {a : Nat} (hq : (qR a 9 6).isSome = true) : Rr X d MTo_frames 61 L (.ref a :: st) (Wd mu la ro et) = Rr X d MTo_frames 64 L (.ref (qRd a 9 6) :: st) (Wd mu la ro et) := R_gfR d_MTo_frames_61 ff_9_51 hq
theorem r_MTo_frames_64 {l0 l1 l2 l3 : Value} {x : Nat} : Rr X d MTo_frames 64 [l0, l1, l2, l3, .ref x] st h = Rr X d MTo_frames 66 [l0, l1, l2, l3, .ref x] (.ref x :: st) h := Rr_nx d_MTo_frames_64 rfl
theorem r_MTo_frames_64n {l0 l1 l2 l3 : Value} : Rr X d MTo_frames 64 [l0, l1, l2, l3, .null] st h = Rr X d MTo_frames 66 [l0, l1, l2, l3, .null] (.null :: st) h := Rr_nx d_MTo_frames_64 rfl
theorem r_MTo_frames_66 {l0 l1 l3 l4 : Value} {x : Int32} : Rr X d MTo_frames 66 [l0, l1, .int x, l3, l4] st h = Rr X d MTo_frames 67 [l0, l1, .int x, l3, l4] (.int x :: st) h := Rr_nx d_MTo_frames_66 rfl
theorem r_MTo_frames_67 {l0 l1 l2 l4 : Value} {x : Int32} : Rr X d MTo_frames 67 [l0, l1, l2, .int x, l4] st h = Rr X d MTo_frames 68 [l0, l1, l2, .int x, l4] (.int x :: st) h := Rr_nx d_MTo_frames_67 rfl
theorem fc_9_222 : fC 9 222 = some (0, 2, 3, MFi_takeFrom) := rfl
theorem r_MTo_frames_68 {y0 : Nat} {y1 : Int32} {y2 : Int32} {a : Nat} (hO : qO a 2 = true) (hc : ckS st = true) : Rr X (d + 1) MTo_frames 68 L (.int y2 :: .int y1 :: .ref y0 :: .ref a :: st) (Wd mu la ro et) = (Rr X d MFi_takeFrom 0 [.ref a, .ref y0, .int y1, .int y2, mkU, mkU, mkU, mkU, mkU] [] (Wd mu la ro et)).bind fun q => Rr X (d + 1) MTo_frames 71 L (psh q.1 st) q.2 := R_iv (av := [.int y2, .int y1, .ref y0]) d_MTo_frames_68 fc_9_222 hO (ckS_le hc) rfl (Nat.le_of_ble_eq_true rfl) (Nat.le_of_ble_eq_true rfl)
theorem r_MTo_frames_71 {x : Int32} : Rr X d MTo_frames 71 L [.int x] h = some (some (.int x), h) := R_ir d_MTo_frames_71 rfl
theorem d_MTo_cut_0 : decode MTo_cut.2.2.1 0 = .ok (.aload_n 0, 1) := by decide +kernel
theorem d_MTo_cut_1 : decode MTo_cut.2.2.1 1 = .ok (.getfield 51, 3) := by decide +kernel
theorem d_MTo_cut_4 : decode MTo_cut.2.2.1 4 = .ok (.getfield 211, 3) := by decide +kernel
theorem d_MTo_cut_7 : decode MTo_cut.2.2.1 7 = .ok (.istore_n 1, 1) := by decide +kernel
theorem d_MTo_cut_8 : decode MTo_cut.2.2.1 8 = .ok (.aload_n 0, 1) := by decide +kernel
theorem d_MTo_cut_9 : decode MTo_cut.2.2.1 9 = .ok (.getfield 51, 3) := by decide +kernel
theorem d_MTo_cut_12 : decode MTo_cut.2.2.1 12 = .ok (.iconst 0, 1) := by decide +kernel
theorem d_MTo_cut_13 : decode MTo_cut.2.2.1 13 = .ok (.putfield 211, 3) := by decide +kernel
theorem d_MTo_cut_16 : decode MTo_cut.2.2.1 16 = .ok (.iload_n 1, 1) := by decide +kernel
theorem d_MTo_cut_17 : decode MTo_cut.2.2.1 17 = .ok (.ireturn, 1) := by decide +kernel
theorem r_MTo_cut_0 {l1 : Value} {x : Nat} : Rr X d MTo_cut 0 [.ref x, l1] st h = Rr X d MTo_cut 1 [.ref x, l1] (.ref x :: st) h := Rr_nx d_MTo_cut_0 rfl
theorem r_MTo_cut_1 {a : Nat} (hq : (qR a 9 6).isSome = true) : Rr X d MTo_cut 1 L (.ref a :: st) (Wd mu la ro et) = Rr X d MTo_cut 4 L (.ref (qRd a 9 6) :: st) (Wd mu la ro et) := R_gfR d_MTo_cut_1 ff_9_51 hq
theorem r_MTo_cut_4 {a : Nat} (hq : qI a 2 2 = true) : Rr X d MTo_cut 4 L (.ref a :: st) (Wd mu la ro et) = Rr X d MTo_cut 7 L (.int (mu a 2) :: st) (Wd mu la ro et) := R_gfI d_MTo_cut_4 ff_9_211 hq
theorem r_MTo_cut_7 {l0 l1 : Value} {x : Int32} : Rr X d MTo_cut 7 [l0, l1] (.int x :: st) h = Rr X d MTo_cut 8 (sL [l0, l1] 1 (.int x)) st h := Rr_nx d_MTo_cut_7 rfl
theorem r_MTo_cut_8 {l1 : Value} {x : Nat} : Rr X d MTo_cut 8 [.ref x, l1] st h = Rr X d MTo_cut 9 [.ref x, l1] (.ref x :: st) h := Rr_nx d_MTo_cut_8 rfl
theorem r_MTo_cut_9 {a : Nat} (hq : (qR a 9 6).isSome = true) : Rr X d MTo_cut 9 L (.ref a :: st) (Wd mu la ro et) = Rr X d MTo_cut 12 L (.ref (qRd a 9 6) :: st) (Wd mu la ro et) := R_gfR d_MTo_cut_9 ff_9_51 hq
theorem r_MTo_cut_12 : Rr X d MTo_cut 12 L st h = Rr X d MTo_cut 13 L (.int (0) :: st) h := Rr_nx d_MTo_cut_12 rfl
theorem r_MTo_cut_13 {a : Nat} {x : Int32} (hq : qI a 2 2 = true) : Rr X d MTo_cut 13 L (.int x :: .ref a :: st) (Wd mu la ro et) = Rr X d MTo_cut 16 L st (Wd (up2 mu a 2 x) la ro et) := R_pfI d_MTo_cut_13 ff_9_211 hq
theorem r_MTo_cut_16 {l0 : Value} {x : Int32} : Rr X d MTo_cut 16 [l0, .int x] st h = Rr X d MTo_cut 17 [l0, .int x] (.int x :: st) h := Rr_nx d_MTo_cut_16 rfl
theorem r_MTo_cut_17 {x : Int32} : Rr X d MTo_cut 17 L [.int x] h = some (some (.int x), h) := R_ir d_MTo_cut_17 rfl
theorem d_MTo_off_0 : decode MTo_off.2.2.1 0 = .ok (.aload_n 0, 1) := by decide +kernel
theorem d_MTo_off_1 : decode MTo_off.2.2.1 1 = .ok (.iload_n 1, 1) := by decide +kernel
theorem d_MTo_off_2 : decode MTo_off.2.2.1 2 = .ok (.invokevirtual 135, 3) := by decide +kernel
theorem d_MTo_off_5 : decode MTo_off.2.2.1 5 = .ok (.ifCond .eq 18, 3) := by decide +kernel
theorem d_MTo_off_8 : decode MTo_off.2.2.1 8 = .ok (.iconst 0, 1) := by decide +kernel
theorem d_MTo_off_9 : decode MTo_off.2.2.1 9 = .ok (.iload_n 2, 1) := by decide +kernel
theorem d_MTo_off_10 : decode MTo_off.2.2.1 10 = .ok (.invokestatic 139, 3) := by decide +kernel
theorem d_MTo_off_13 : decode MTo_off.2.2.1 13 = .ok (.ifCond .eq 10, 3) := by decide +kernel
theorem d_MTo_off_16 : decode MTo_off.2.2.1 16 = .ok (.iload_n 3, 1) := by decide +kernel
theorem d_MTo_off_17 : decode MTo_off.2.2.1 17 = .ok (.invokestatic 191, 3) := by decide +kernel
theorem d_MTo_off_20 : decode MTo_off.2.2.1 20 = .ok (.ifCond .ne 5, 3) := by decide +kernel
theorem d_MTo_off_23 : decode MTo_off.2.2.1 23 = .ok (.iconst (-1), 1) := by decide +kernel
theorem d_MTo_off_24 : decode MTo_off.2.2.1 24 = .ok (.ireturn, 1) := by decide +kernel
theorem d_MTo_off_25 : decode MTo_off.2.2.1 25 = .ok (.aload_n 0, 1) := by decide +kernel
theorem d_MTo_off_26 : decode MTo_off.2.2.1 26 = .ok (.getfield 51, 3) := by decide +kernel
theorem d_MTo_off_29 : decode MTo_off.2.2.1 29 = .ok (.getfield 211, 3) := by decide +kernel
theorem d_MTo_off_32 : decode MTo_off.2.2.1 32 = .ok (.ifCond .ne 8, 3) := by decide +kernel
theorem d_MTo_off_35 : decode MTo_off.2.2.1 35 = .ok (.bipush (-5), 2) := by decide +kernel
theorem d_MTo_off_37 : decode MTo_off.2.2.1 37 = .ok (.goto 10, 3) := by decide +kernel
theorem d_MTo_off_40 : decode MTo_off.2.2.1 40 = .ok (.aload_n 0, 1) := by decide +kernel
theorem d_MTo_off_41 : decode MTo_off.2.2.1 41 = .ok (.iload_n 1, 1) := by decide +kernel
theorem d_MTo_off_42 : decode MTo_off.2.2.1 42 = .ok (.iload_n 2, 1) := by decide +kernel
theorem d_MTo_off_43 : decode MTo_off.2.2.1 43 = .ok (.iload_n 3, 1) := by decide +kernel
theorem d_MTo_off_44 : decode MTo_off.2.2.1 44 = .ok (.invokevirtual 226, 3) := by decide +kernel
theorem d_MTo_off_47 : decode MTo_off.2.2.1 47 = .ok (.ireturn, 1) := by decide +kernel
theorem r_MTo_off_0 {l1 l2 l3 : Value} {x : Nat} : Rr X d MTo_off 0 [.ref x, l1, l2, l3] st h = Rr X d MTo_off 1 [.ref x, l1, l2, l3] (.ref x :: st) h := Rr_nx d_MTo_off_0 rfl
theorem r_MTo_off_1 {l0 l2 l3 : Value} {x : Int32} : Rr X d MTo_off 1 [l0, .int x, l2, l3] st h = Rr X d MTo_off 2 [l0, .int x, l2, l3] (.int x :: st) h := Rr_nx d_MTo_off_1 rfl
theorem r_MTo_off_2 {y0 : Int32} {a : Nat} (hO : qO a 9 = true) (hc : ckS st = true) : Rr X (d + 1) MTo_off 2 L (.int y0 :: .ref a :: st) (Wd mu la ro et) = (Rr X d MTo_isGround 0 [.ref a, .int y0] [] (Wd mu la ro et)).bind fun q => Rr X (d + 1) MTo_off 5 L (psh q.1 st) q.2 := R_iv (av := [.int y0]) d_MTo_off_2 fc_9_135 hO (ckS_le hc) rfl (Nat.le_of_ble_eq_true rfl) (Nat.le_of_ble_eq_true rfl)
theorem r_MTo_off_5 {x : Int32} : Rr X d MTo_off 5 L (.int x :: st) h = if x = 0 then Rr X d MTo_off 23 L st h else Rr X d MTo_off 8 L st h := R_if_eq d_MTo_off_5 (by decide)
theorem r_MTo_off_8 : Rr X d MTo_off 8 L st h = Rr X d MTo_off 9 L (.int (0) :: st) h := Rr_nx d_MTo_off_8 rfl
theorem r_MTo_off_9 {l0 l1 l3 : Value} {x : Int32} : Rr X d MTo_off 9 [l0, l1, .int x, l3] st h = Rr X d MTo_off 10 [l0, l1, .int x, l3] (.int x :: st) h := Rr_nx d_MTo_off_9 rfl
theorem r_MTo_off_10 {y0 : Int32} {y1 : Int32} (hc : ckS st = true) : Rr X (d + 1) MTo_off 10 L (.int y1 :: .int y0 :: st) h = (Rr X d MTo_isStart 0 [.int y0, .int y1] [] h).bind fun q => Rr X (d + 1) MTo_off 13 L (psh q.1 st) q.2 := R_is (av := [.int y1, .int y0]) d_MTo_off_10 (Or.inl fc_9_139) (ckS_le hc) rfl (Nat.le_of_ble_eq_true rfl) (Nat.le_of_ble_eq_true rfl)
theorem r_MTo_off_13 {x : Int32} : Rr X d MTo_off 13 L (.int x :: st) h = if x = 0 then Rr X d MTo_off 23 L st h else Rr X d MTo_off 16 L st h := R_if_eq d_MTo_off_13 (by decide)
theorem r_MTo_off_16 {l0 l1 l2 : Value} {x : Int32} : Rr X d MTo_off 16 [l0, l1, l2, .int x] st h = Rr X d MTo_off 17 [l0, l1, l2, .int x] (.int x :: st) h := Rr_nx d_MTo_off_16 rfl
theorem r_MTo_off_17 {y0 : Int32} (hc : ckS st = true) : Rr X (d + 1) MTo_off 17 L (.int y0 :: st) h = (Rr X d MTo_isKeen 0 [.int y0] [] h).bind fun q => Rr X (d + 1) MTo_off 20 L (psh q.1 st) q.2 := R_is (av := [.int y0]) d_MTo_off_17 (Or.inl fc_9_191) (ckS_le hc) rfl (Nat.le_of_ble_eq_true rfl) (Nat.le_of_ble_eq_true rfl)
theorem r_MTo_off_20 {x : Int32} : Rr X d MTo_off 20 L (.int x :: st) h = if ¬ x = 0 then Rr X d MTo_off 25 L st h else Rr X d MTo_off 23 L st h := R_if_ne d_MTo_off_20 (by decide)
theorem r_MTo_off_23 : Rr X d MTo_off 23 L st h = Rr X d MTo_off 24 L (.int (-1) :: st) h := Rr_nx d_MTo_off_23 rfl
theorem r_MTo_off_24 {x : Int32} : Rr X d MTo_off 24 L [.int x] h = some (some (.int x), h) := R_ir d_MTo_off_24 rfl
theorem r_MTo_off_25 {l1 l2 l3 : Value} {x : Nat} : Rr X d MTo_off 25 [.ref x, l1, l2, l3] st h = Rr X d MTo_off 26 [.ref x, l1, l2, l3] (.ref x :: st) h := Rr_nx d_MTo_off_25 rfl
theorem r_MTo_off_26 {a : Nat} (hq : (qR a 9 6).isSome = true) : Rr X d MTo_off 26 L (.ref a :: st) (Wd mu la ro et) = Rr X d MTo_off 29 L (.ref (qRd a 9 6) :: st) (Wd mu la ro et) := R_gfR d_MTo_off_26 ff_9_51 hq
theorem r_MTo_off_29 {a : Nat} (hq : qI a 2 2 = true) : Rr X d MTo_off 29 L (.ref a :: st) (Wd mu la ro et) = Rr X d MTo_off 32 L (.int (mu a 2) :: st) (Wd mu la ro et) := R_gfI d_MTo_off_29 ff_9_211 hq
theorem r_MTo_off_32 {x : Int32} : Rr X d MTo_off 32 L (.int x :: st) h = if ¬ x = 0 then Rr X d MTo_off 40 L st h else Rr X d MTo_off 35 L st h := R_if_ne d_MTo_off_32 (by decide)
theorem r_MTo_off_35 : Rr X d MTo_off 35 L st h = Rr X d MTo_off 37 L (.int (-5) :: st) h := Rr_nx d_MTo_off_35 rfl
theorem r_MTo_off_37 : Rr X d MTo_off 37 L st h = Rr X d MTo_off 47 L st h := R_goto d_MTo_off_37 (by decide)
theorem r_MTo_off_40 {l1 l2 l3 : Value} {x : Nat} : Rr X d MTo_off 40 [.ref x, l1, l2, l3] st h = Rr X d MTo_off 41 [.ref x, l1, l2, l3] (.ref x :: st) h := Rr_nx d_MTo_off_40 rfl
theorem r_MTo_off_41 {l0 l2 l3 : Value} {x : Int32} : Rr X d MTo_off 41 [l0, .int x, l2, l3] st h = Rr X d MTo_off 42 [l0, .int x, l2, l3] (.int x :: st) h := Rr_nx d_MTo_off_41 rfl
theorem r_MTo_off_42 {l0 l1 l3 : Value} {x : Int32} : Rr X d MTo_off 42 [l0, l1, .int x, l3] st h = Rr X d MTo_off 43 [l0, l1, .int x, l3] (.int x :: st) h := Rr_nx d_MTo_off_42 rfl
theorem r_MTo_off_43 {l0 l1 l2 : Value} {x : Int32} : Rr X d MTo_off 43 [l0, l1, l2, .int x] st h = Rr X d MTo_off 44 [l0, l1, l2, .int x] (.int x :: st) h := Rr_nx d_MTo_off_43 rfl
theorem fc_9_226 : fC 9 226 = some (0, 9, 3, MTo_offBy) := rfl
theorem r_MTo_off_44 {y0 : Int32} {y1 : Int32} {y2 : Int32} {a : Nat} (hO : qO a 9 = true) (hc : ckS st = true) : Rr X (d + 1) MTo_off 44 L (.int y2 :: .int y1 :: .int y0 :: .ref a :: st) (Wd mu la ro et) = (Rr X d MTo_offBy 0 [.ref a, .int y0, .int y1, .int y2, mkU, mkU, mkU] [] (Wd mu la ro et)).bind fun q => Rr X (d + 1) MTo_off 47 L (psh q.1 st) q.2 := R_iv (av := [.int y2, .int y1, .int y0]) d_MTo_off_44 fc_9_226 hO (ckS_le hc) rfl (Nat.le_of_ble_eq_true rfl) (Nat.le_of_ble_eq_true rfl)
theorem r_MTo_off_47 {x : Int32} : Rr X d MTo_off 47 L [.int x] h = some (some (.int x), h) := R_ir d_MTo_off_47 rfl
theorem d_MTo_shape_0 : decode MTo_shape.2.2.1 0 = .ok (.aload_n 0, 1) := by decide +kernel
theorem d_MTo_shape_1 : decode MTo_shape.2.2.1 1 = .ok (.iload_n 1, 1) := by decide +kernel
theorem d_MTo_shape_2 : decode MTo_shape.2.2.1 2 = .ok (.invokevirtual 135, 3) := by decide +kernel
theorem d_MTo_shape_5 : decode MTo_shape.2.2.1 5 = .ok (.ifCond .eq 20, 3) := by decide +kernel
theorem d_MTo_shape_8 : decode MTo_shape.2.2.1 8 = .ok (.iconst 0, 1) := by decide +kernel
theorem d_MTo_shape_9 : decode MTo_shape.2.2.1 9 = .ok (.iload_n 2, 1) := by decide +kernel
theorem d_MTo_shape_10 : decode MTo_shape.2.2.1 10 = .ok (.invokestatic 139, 3) := by decide +kernel
theorem d_MTo_shape_13 : decode MTo_shape.2.2.1 13 = .ok (.ifCond .eq 12, 3) := by decide +kernel
theorem d_MTo_shape_16 : decode MTo_shape.2.2.1 16 = .ok (.iload_n 3, 1) := by decide +kernel
theorem d_MTo_shape_17 : decode MTo_shape.2.2.1 17 = .ok (.iconst 0, 1) := by decide +kernel
theorem d_MTo_shape_18 : decode MTo_shape.2.2.1 18 = .ok (.iconst 1, 1) := by decide +kernel
theorem d_MTo_shape_19 : decode MTo_shape.2.2.1 19 = .ok (.invokestatic 72, 3) := by decide +kernel
theorem d_MTo_shape_22 : decode MTo_shape.2.2.1 22 = .ok (.ifCond .ne 6, 3) := by decide +kernel
theorem d_MTo_shape_25 : decode MTo_shape.2.2.1 25 = .ok (.ldc 104, 2) := by decide +kernel
theorem d_MTo_shape_27 : decode MTo_shape.2.2.1 27 = .ok (.ireturn, 1) := by decide +kernel
theorem d_MTo_shape_28 : decode MTo_shape.2.2.1 28 = .ok (.aload_n 0, 1) := by decide +kernel
theorem d_MTo_shape_29 : decode MTo_shape.2.2.1 29 = .ok (.getfield 51, 3) := by decide +kernel
theorem d_MTo_shape_32 : decode MTo_shape.2.2.1 32 = .ok (.getfield 211, 3) := by decide +kernel
theorem d_MTo_shape_35 : decode MTo_shape.2.2.1 35 = .ok (.ifCond .ne 6, 3) := by decide +kernel
theorem d_MTo_shape_38 : decode MTo_shape.2.2.1 38 = .ok (.bipush (-5), 2) := by decide +kernel
theorem d_MTo_shape_40 : decode MTo_shape.2.2.1 40 = .ok (.ireturn, 1) := by decide +kernel
theorem d_MTo_shape_41 : decode MTo_shape.2.2.1 41 = .ok (.bipush (-9), 2) := by decide +kernel
theorem d_MTo_shape_43 : decode MTo_shape.2.2.1 43 = .ok (.istore 4, 2) := by decide +kernel
theorem d_MTo_shape_45 : decode MTo_shape.2.2.1 45 = .ok (.aload_n 0, 1) := by decide +kernel
theorem d_MTo_shape_46 : decode MTo_shape.2.2.1 46 = .ok (.iload_n 1, 1) := by decide +kernel
theorem d_MTo_shape_47 : decode MTo_shape.2.2.1 47 = .ok (.iload_n 2, 1) := by decide +kernel
theorem d_MTo_shape_48 : decode MTo_shape.2.2.1 48 = .ok (.iload 4, 2) := by decide +kernel
theorem d_MTo_shape_50 : decode MTo_shape.2.2.1 50 = .ok (.invokevirtual 226, 3) := by decide +kernel
theorem d_MTo_shape_53 : decode MTo_shape.2.2.1 53 = .ok (.istore 5, 2) := by decide +kernel
theorem d_MTo_shape_55 : decode MTo_shape.2.2.1 55 = .ok (.iload 4, 2) := by decide +kernel
theorem d_MTo_shape_57 : decode MTo_shape.2.2.1 57 = .ok (.iconst 1, 1) := by decide +kernel
theorem d_MTo_shape_58 : decode MTo_shape.2.2.1 58 = .ok (.iadd, 1) := by decide +kernel
theorem d_MTo_shape_59 : decode MTo_shape.2.2.1 59 = .ok (.istore 6, 2) := by decide +kernel
theorem d_MTo_shape_61 : decode MTo_shape.2.2.1 61 = .ok (.iload 6, 2) := by decide +kernel
theorem d_MTo_shape_63 : decode MTo_shape.2.2.1 63 = .ok (.bipush 9, 2) := by decide +kernel
theorem d_MTo_shape_65 : decode MTo_shape.2.2.1 65 = .ok (.if_icmp .gt 34, 3) := by decide +kernel
theorem d_MTo_shape_68 : decode MTo_shape.2.2.1 68 = .ok (.aload_n 0, 1) := by decide +kernel
theorem d_MTo_shape_69 : decode MTo_shape.2.2.1 69 = .ok (.iload_n 1, 1) := by decide +kernel
theorem d_MTo_shape_70 : decode MTo_shape.2.2.1 70 = .ok (.iload_n 2, 1) := by decide +kernel
theorem d_MTo_shape_71 : decode MTo_shape.2.2.1 71 = .ok (.iload 6, 2) := by decide +kernel
theorem d_MTo_shape_73 : decode MTo_shape.2.2.1 73 = .ok (.invokevirtual 226, 3) := by decide +kernel
theorem d_MTo_shape_76 : decode MTo_shape.2.2.1 76 = .ok (.istore 7, 2) := by decide +kernel
theorem d_MTo_shape_78 : decode MTo_shape.2.2.1 78 = .ok (.iload 7, 2) := by decide +kernel
theorem d_MTo_shape_80 : decode MTo_shape.2.2.1 80 = .ok (.iload 5, 2) := by decide +kernel
theorem d_MTo_shape_82 : decode MTo_shape.2.2.1 82 = .ok (.if_icmp .ge 11, 3) := by decide +kernel
theorem d_MTo_shape_85 : decode MTo_shape.2.2.1 85 = .ok (.iload 6, 2) := by decide +kernel
theorem d_MTo_shape_87 : decode MTo_shape.2.2.1 87 = .ok (.istore 4, 2) := by decide +kernel
theorem d_MTo_shape_89 : decode MTo_shape.2.2.1 89 = .ok (.iload 7, 2) := by decide +kernel
theorem d_MTo_shape_91 : decode MTo_shape.2.2.1 91 = .ok (.istore 5, 2) := by decide +kernel
theorem d_MTo_shape_93 : decode MTo_shape.2.2.1 93 = .ok (.iinc 6 1, 3) := by decide +kernel
theorem d_MTo_shape_96 : decode MTo_shape.2.2.1 96 = .ok (.goto (-35), 3) := by decide +kernel
theorem d_MTo_shape_99 : decode MTo_shape.2.2.1 99 = .ok (.iload_n 3, 1) := by decide +kernel
theorem d_MTo_shape_100 : decode MTo_shape.2.2.1 100 = .ok (.ifCond .ne 8, 3) := by decide +kernel
theorem d_MTo_shape_103 : decode MTo_shape.2.2.1 103 = .ok (.iload 4, 2) := by decide +kernel
theorem d_MTo_shape_105 : decode MTo_shape.2.2.1 105 = .ok (.goto 5, 3) := by decide +kernel
theorem d_MTo_shape_108 : decode MTo_shape.2.2.1 108 = .ok (.iload 5, 2) := by decide +kernel
theorem d_MTo_shape_110 : decode MTo_shape.2.2.1 110 = .ok (.ireturn, 1) := by decide +kernel
theorem r_MTo_shape_0 {l1 l2 l3 l4 l5 l6 l7 : Value} {x : Nat} : Rr X d MTo_shape 0 [.ref x, l1, l2, l3, l4, l5, l6, l7] st h = Rr X d MTo_shape 1 [.ref x, l1, l2, l3, l4, l5, l6, l7] (.ref x :: st) h := Rr_nx d_MTo_shape_0 rfl
theorem r_MTo_shape_1 {l0 l2 l3 l4 l5 l6 l7 : Value} {x : Int32} : Rr X d MTo_shape 1 [l0, .int x, l2, l3, l4, l5, l6, l7] st h = Rr X d MTo_shape 2 [l0, .int x, l2, l3, l4, l5, l6, l7] (.int x :: st) h := Rr_nx d_MTo_shape_1 rfl
theorem r_MTo_shape_2 {y0 : Int32} {a : Nat} (hO : qO a 9 = true) (hc : ckS st = true) : Rr X (d + 1) MTo_shape 2 L (.int y0 :: .ref a :: st) (Wd mu la ro et) = (Rr X d MTo_isGround 0 [.ref a, .int y0] [] (Wd mu la ro et)).bind fun q => Rr X (d + 1) MTo_shape 5 L (psh q.1 st) q.2 := R_iv (av := [.int y0]) d_MTo_shape_2 fc_9_135 hO (ckS_le hc) rfl (Nat.le_of_ble_eq_true rfl) (Nat.le_of_ble_eq_true rfl)
theorem r_MTo_shape_5 {x : Int32} : Rr X d MTo_shape 5 L (.int x :: st) h = if x = 0 then Rr X d MTo_shape 25 L st h else Rr X d MTo_shape 8 L st h := R_if_eq d_MTo_shape_5 (by decide)
theorem r_MTo_shape_8 : Rr X d MTo_shape 8 L st h = Rr X d MTo_shape 9 L (.int (0) :: st) h := Rr_nx d_MTo_shape_8 rfl
theorem r_MTo_shape_9 {l0 l1 l3 l4 l5 l6 l7 : Value} {x : Int32} : Rr X d MTo_shape 9 [l0, l1, .int x, l3, l4, l5, l6, l7] st h = Rr X d MTo_shape 10 [l0, l1, .int x, l3, l4, l5, l6, l7] (.int x :: st) h := Rr_nx d_MTo_shape_9 rfl
theorem r_MTo_shape_10 {y0 : Int32} {y1 : Int32} (hc : ckS st = true) : Rr X (d + 1) MTo_shape 10 L (.int y1 :: .int y0 :: st) h = (Rr X d MTo_isStart 0 [.int y0, .int y1] [] h).bind fun q => Rr X (d + 1) MTo_shape 13 L (psh q.1 st) q.2 := R_is (av := [.int y1, .int y0]) d_MTo_shape_10 (Or.inl fc_9_139) (ckS_le hc) rfl (Nat.le_of_ble_eq_true rfl) (Nat.le_of_ble_eq_true rfl)
theorem r_MTo_shape_13 {x : Int32} : Rr X d MTo_shape 13 L (.int x :: st) h = if x = 0 then Rr X d MTo_shape 25 L st h else Rr X d MTo_shape 16 L st h := R_if_eq d_MTo_shape_13 (by decide)
theorem r_MTo_shape_16 {l0 l1 l2 l4 l5 l6 l7 : Value} {x : Int32} : Rr X d MTo_shape 16 [l0, l1, l2, .int x, l4, l5, l6, l7] st h = Rr X d MTo_shape 17 [l0, l1, l2, .int x, l4, l5, l6, l7] (.int x :: st) h := Rr_nx d_MTo_shape_16 rfl
theorem r_MTo_shape_17 : Rr X d MTo_shape 17 L st h = Rr X d MTo_shape 18 L (.int (0) :: st) h := Rr_nx d_MTo_shape_17 rfl
theorem r_MTo_shape_18 : Rr X d MTo_shape 18 L st h = Rr X d MTo_shape 19 L (.int (1) :: st) h := Rr_nx d_MTo_shape_18 rfl
theorem r_MTo_shape_19 {y0 : Int32} {y1 : Int32} {y2 : Int32} (hc : ckS st = true) : Rr X (d + 1) MTo_shape 19 L (.int y2 :: .int y1 :: .int y0 :: st) h = (Rr X d MTo_isWithin 0 [.int y0, .int y1, .int y2] [] h).bind fun q => Rr X (d + 1) MTo_shape 22 L (psh q.1 st) q.2 := R_is (av := [.int y2, .int y1, .int y0]) d_MTo_shape_19 (Or.inl fc_9_72) (ckS_le hc) rfl (Nat.le_of_ble_eq_true rfl) (Nat.le_of_ble_eq_true rfl)
theorem r_MTo_shape_22 {x : Int32} : Rr X d MTo_shape 22 L (.int x :: st) h = if ¬ x = 0 then Rr X d MTo_shape 28 L st h else Rr X d MTo_shape 25 L st h := R_if_ne d_MTo_shape_22 (by decide)
theorem r_MTo_shape_25 : Rr X d MTo_shape 25 L st h = Rr X d MTo_shape 27 L (.int (-2000000000) :: st) h := Rr_nx d_MTo_shape_25 rfl
theorem r_MTo_shape_27 {x : Int32} : Rr X d MTo_shape 27 L [.int x] h = some (some (.int x), h) := R_ir d_MTo_shape_27 rfl
theorem r_MTo_shape_28 {l1 l2 l3 l4 l5 l6 l7 : Value} {x : Nat} : Rr X d MTo_shape 28 [.ref x, l1, l2, l3, l4, l5, l6, l7] st h = Rr X d MTo_shape 29 [.ref x, l1, l2, l3, l4, l5, l6, l7] (.ref x :: st) h := Rr_nx d_MTo_shape_28 rfl
theorem r_MTo_shape_29 {a : Nat} (hq : (qR a 9 6).isSome = true) : Rr X d MTo_shape 29 L (.ref a :: st) (Wd mu la ro et) = Rr X d MTo_shape 32 L (.ref (qRd a 9 6) :: st) (Wd mu la ro et) := R_gfR d_MTo_shape_29 ff_9_51 hq
theorem r_MTo_shape_32 {a : Nat} (hq : qI a 2 2 = true) : Rr X d MTo_shape 32 L (.ref a :: st) (Wd mu la ro et) = Rr X d MTo_shape 35 L (.int (mu a 2) :: st) (Wd mu la ro et) := R_gfI d_MTo_shape_32 ff_9_211 hq
theorem r_MTo_shape_35 {x : Int32} : Rr X d MTo_shape 35 L (.int x :: st) h = if ¬ x = 0 then Rr X d MTo_shape 41 L st h else Rr X d MTo_shape 38 L st h := R_if_ne d_MTo_shape_35 (by decide)
theorem r_MTo_shape_38 : Rr X d MTo_shape 38 L st h = Rr X d MTo_shape 40 L (.int (-5) :: st) h := Rr_nx d_MTo_shape_38 rfl
theorem r_MTo_shape_40 {x : Int32} : Rr X d MTo_shape 40 L [.int x] h = some (some (.int x), h) := R_ir d_MTo_shape_40 rfl
theorem r_MTo_shape_41 : Rr X d MTo_shape 41 L st h = Rr X d MTo_shape 43 L (.int (-9) :: st) h := Rr_nx d_MTo_shape_41 rfl
theorem r_MTo_shape_43 {l0 l1 l2 l3 l4 l5 l6 l7 : Value} {x : Int32} : Rr X d MTo_shape 43 [l0, l1, l2, l3, l4, l5, l6, l7] (.int x :: st) h = Rr X d MTo_shape 45 (sL [l0, l1, l2, l3, l4, l5, l6, l7] 4 (.int x)) st h := Rr_nx d_MTo_shape_43 rfl
theorem r_MTo_shape_45 {l1 l2 l3 l4 l5 l6 l7 : Value} {x : Nat} : Rr X d MTo_shape 45 [.ref x, l1, l2, l3, l4, l5, l6, l7] st h = Rr X d MTo_shape 46 [.ref x, l1, l2, l3, l4, l5, l6, l7] (.ref x :: st) h := Rr_nx d_MTo_shape_45 rfl
theorem r_MTo_shape_46 {l0 l2 l3 l4 l5 l6 l7 : Value} {x : Int32} : Rr X d MTo_shape 46 [l0, .int x, l2, l3, l4, l5, l6, l7] st h = Rr X d MTo_shape 47 [l0, .int x, l2, l3, l4, l5, l6, l7] (.int x :: st) h := Rr_nx d_MTo_shape_46 rfl
theorem r_MTo_shape_47 {l0 l1 l3 l4 l5 l6 l7 : Value} {x : Int32} : Rr X d MTo_shape 47 [l0, l1, .int x, l3, l4, l5, l6, l7] st h = Rr X d MTo_shape 48 [l0, l1, .int x, l3, l4, l5, l6, l7] (.int x :: st) h := Rr_nx d_MTo_shape_47 rfl
theorem r_MTo_shape_48 {l0 l1 l2 l3 l5 l6 l7 : Value} {x : Int32} : Rr X d MTo_shape 48 [l0, l1, l2, l3, .int x, l5, l6, l7] st h = Rr X d MTo_shape 50 [l0, l1, l2, l3, .int x, l5, l6, l7] (.int x :: st) h := Rr_nx d_MTo_shape_48 rfl
theorem r_MTo_shape_50 {y0 : Int32} {y1 : Int32} {y2 : Int32} {a : Nat} (hO : qO a 9 = true) (hc : ckS st = true) : Rr X (d + 1) MTo_shape 50 L (.int y2 :: .int y1 :: .int y0 :: .ref a :: st) (Wd mu la ro et) = (Rr X d MTo_offBy 0 [.ref a, .int y0, .int y1, .int y2, mkU, mkU, mkU] [] (Wd mu la ro et)).bind fun q => Rr X (d + 1) MTo_shape 53 L (psh q.1 st) q.2 := R_iv (av := [.int y2, .int y1, .int y0]) d_MTo_shape_50 fc_9_226 hO (ckS_le hc) rfl (Nat.le_of_ble_eq_true rfl) (Nat.le_of_ble_eq_true rfl)
theorem r_MTo_shape_53 {l0 l1 l2 l3 l4 l5 l6 l7 : Value} {x : Int32} : Rr X d MTo_shape 53 [l0, l1, l2, l3, l4, l5, l6, l7] (.int x :: st) h = Rr X d MTo_shape 55 (sL [l0, l1, l2, l3, l4, l5, l6, l7] 5 (.int x)) st h := Rr_nx d_MTo_shape_53 rfl
theorem r_MTo_shape_55 {l0 l1 l2 l3 l5 l6 l7 : Value} {x : Int32} : Rr X d MTo_shape 55 [l0, l1, l2, l3, .int x, l5, l6, l7] st h = Rr X d MTo_shape 57 [l0, l1, l2, l3, .int x, l5, l6, l7] (.int x :: st) h := Rr_nx d_MTo_shape_55 rfl
theorem r_MTo_shape_57 : Rr X d MTo_shape 57 L st h = Rr X d MTo_shape 58 L (.int (1) :: st) h := Rr_nx d_MTo_shape_57 rfl
theorem r_MTo_shape_58 {x y : Int32} : Rr X d MTo_shape 58 L (.int y :: .int x :: st) h = Rr X d MTo_shape 59 L (.int (x + y) :: st) h := Rr_nx d_MTo_shape_58 rfl
theorem r_MTo_shape_59 {l0 l1 l2 l3 l4 l5 l6 l7 : Value} {x : Int32} : Rr X d MTo_shape 59 [l0, l1, l2, l3, l4, l5, l6, l7] (.int x :: st) h = Rr X d MTo_shape 61 (sL [l0, l1, l2, l3, l4, l5, l6, l7] 6 (.int x)) st h := Rr_nx d_MTo_shape_59 rfl
theorem r_MTo_shape_61 {l0 l1 l2 l3 l4 l5 l7 : Value} {x : Int32} : Rr X d MTo_shape 61 [l0, l1, l2, l3, l4, l5, .int x, l7] st h = Rr X d MTo_shape 63 [l0, l1, l2, l3, l4, l5, .int x, l7] (.int x :: st) h := Rr_nx d_MTo_shape_61 rfl
theorem r_MTo_shape_63 : Rr X d MTo_shape 63 L st h = Rr X d MTo_shape 65 L (.int (9) :: st) h := Rr_nx d_MTo_shape_63 rfl
theorem r_MTo_shape_65 {x y : Int32} : Rr X d MTo_shape 65 L (.int y :: .int x :: st) h = if y < x then Rr X d MTo_shape 99 L st h else Rr X d MTo_shape 68 L st h := R_ic_gt d_MTo_shape_65 (by decide)
theorem r_MTo_shape_68 {l1 l2 l3 l4 l5 l6 l7 : Value} {x : Nat} : Rr X d MTo_shape 68 [.ref x, l1, l2, l3, l4, l5, l6, l7] st h = Rr X d MTo_shape 69 [.ref x, l1, l2, l3, l4, l5, l6, l7] (.ref x :: st) h := Rr_nx d_MTo_shape_68 rfl
theorem r_MTo_shape_69 {l0 l2 l3 l4 l5 l6 l7 : Value} {x : Int32} : Rr X d MTo_shape 69 [l0, .int x, l2, l3, l4, l5, l6, l7] st h = Rr X d MTo_shape 70 [l0, .int x, l2, l3, l4, l5, l6, l7] (.int x :: st) h := Rr_nx d_MTo_shape_69 rfl
theorem r_MTo_shape_70 {l0 l1 l3 l4 l5 l6 l7 : Value} {x : Int32} : Rr X d MTo_shape 70 [l0, l1, .int x, l3, l4, l5, l6, l7] st h = Rr X d MTo_shape 71 [l0, l1, .int x, l3, l4, l5, l6, l7] (.int x :: st) h := Rr_nx d_MTo_shape_70 rfl
theorem r_MTo_shape_71 {l0 l1 l2 l3 l4 l5 l7 : Value} {x : Int32} : Rr X d MTo_shape 71 [l0, l1, l2, l3, l4, l5, .int x, l7] st h = Rr X d MTo_shape 73 [l0, l1, l2, l3, l4, l5, .int x, l7] (.int x :: st) h := Rr_nx d_MTo_shape_71 rfl
theorem r_MTo_shape_73 {y0 : Int32} {y1 : Int32} {y2 : Int32} {a : Nat} (hO : qO a 9 = true) (hc : ckS st = true) : Rr X (d + 1) MTo_shape 73 L (.int y2 :: .int y1 :: .int y0 :: .ref a :: st) (Wd mu la ro et) = (Rr X d MTo_offBy 0 [.ref a, .int y0, .int y1, .int y2, mkU, mkU, mkU] [] (Wd mu la ro et)).bind fun q => Rr X (d + 1) MTo_shape 76 L (psh q.1 st) q.2 := R_iv (av := [.int y2, .int y1, .int y0]) d_MTo_shape_73 fc_9_226 hO (ckS_le hc) rfl (Nat.le_of_ble_eq_true rfl) (Nat.le_of_ble_eq_true rfl)
theorem r_MTo_shape_76 {l0 l1 l2 l3 l4 l5 l6 l7 : Value} {x : Int32} : Rr X d MTo_shape 76 [l0, l1, l2, l3, l4, l5, l6, l7] (.int x :: st) h = Rr X d MTo_shape 78 (sL [l0, l1, l2, l3, l4, l5, l6, l7] 7 (.int x)) st h := Rr_nx d_MTo_shape_76 rfl
theorem r_MTo_shape_78 {l0 l1 l2 l3 l4 l5 l6 : Value} {x : Int32} : Rr X d MTo_shape 78 [l0, l1, l2, l3, l4, l5, l6, .int x] st h = Rr X d MTo_shape 80 [l0, l1, l2, l3, l4, l5, l6, .int x] (.int x :: st) h := Rr_nx d_MTo_shape_78 rfl
theorem r_MTo_shape_80 {l0 l1 l2 l3 l4 l6 l7 : Value} {x : Int32} : Rr X d MTo_shape 80 [l0, l1, l2, l3, l4, .int x, l6, l7] st h = Rr X d MTo_shape 82 [l0, l1, l2, l3, l4, .int x, l6, l7] (.int x :: st) h := Rr_nx d_MTo_shape_80 rfl
theorem r_MTo_shape_82 {x y : Int32} : Rr X d MTo_shape 82 L (.int y :: .int x :: st) h = if y ≤ x then Rr X d MTo_shape 93 L st h else Rr X d MTo_shape 85 L st h := R_ic_ge d_MTo_shape_82 (by decide)
theorem r_MTo_shape_85 {l0 l1 l2 l3 l4 l5 l7 : Value} {x : Int32} : Rr X d MTo_shape 85 [l0, l1, l2, l3, l4, l5, .int x, l7] st h = Rr X d MTo_shape 87 [l0, l1, l2, l3, l4, l5, .int x, l7] (.int x :: st) h := Rr_nx d_MTo_shape_85 rfl
theorem r_MTo_shape_87 {l0 l1 l2 l3 l4 l5 l6 l7 : Value} {x : Int32} : Rr X d MTo_shape 87 [l0, l1, l2, l3, l4, l5, l6, l7] (.int x :: st) h = Rr X d MTo_shape 89 (sL [l0, l1, l2, l3, l4, l5, l6, l7] 4 (.int x)) st h := Rr_nx d_MTo_shape_87 rfl
theorem r_MTo_shape_89 {l0 l1 l2 l3 l4 l5 l6 : Value} {x : Int32} : Rr X d MTo_shape 89 [l0, l1, l2, l3, l4, l5, l6, .int x] st h = Rr X d MTo_shape 91 [l0, l1, l2, l3, l4, l5, l6, .int x] (.int x :: st) h := Rr_nx d_MTo_shape_89 rfl
theorem r_MTo_shape_91 {l0 l1 l2 l3 l4 l5 l6 l7 : Value} {x : Int32} : Rr X d MTo_shape 91 [l0, l1, l2, l3, l4, l5, l6, l7] (.int x :: st) h = Rr X d MTo_shape 93 (sL [l0, l1, l2, l3, l4, l5, l6, l7] 5 (.int x)) st h := Rr_nx d_MTo_shape_91 rfl
theorem r_MTo_shape_93 {l0 l1 l2 l3 l4 l5 l7 : Value} {x : Int32} : Rr X d MTo_shape 93 [l0, l1, l2, l3, l4, l5, .int x, l7] st h = Rr X d MTo_shape 96 (sL [l0, l1, l2, l3, l4, l5, .int x, l7] 6 (.int (x + (1)))) st h := Rr_nx d_MTo_shape_93 rfl
theorem r_MTo_shape_96 : Rr X d MTo_shape 96 L st h = Rr X d MTo_shape 61 L st h := R_goto d_MTo_shape_96 (by decide)
theorem r_MTo_shape_99 {l0 l1 l2 l4 l5 l6 l7 : Value} {x : Int32} : Rr X d MTo_shape 99 [l0, l1, l2, .int x, l4, l5, l6, l7] st h = Rr X d MTo_shape 100 [l0, l1, l2, .int x, l4, l5, l6, l7] (.int x :: st) h := Rr_nx d_MTo_shape_99 rfl
theorem r_MTo_shape_100 {x : Int32} : Rr X d MTo_shape 100 L (.int x :: st) h = if ¬ x = 0 then Rr X d MTo_shape 108 L st h else Rr X d MTo_shape 103 L st h := R_if_ne d_MTo_shape_100 (by decide)
theorem r_MTo_shape_103 {l0 l1 l2 l3 l5 l6 l7 : Value} {x : Int32} : Rr X d MTo_shape 103 [l0, l1, l2, l3, .int x, l5, l6, l7] st h = Rr X d MTo_shape 105 [l0, l1, l2, l3, .int x, l5, l6, l7] (.int x :: st) h := Rr_nx d_MTo_shape_103 rfl
theorem r_MTo_shape_105 : Rr X d MTo_shape 105 L st h = Rr X d MTo_shape 110 L st h := R_goto d_MTo_shape_105 (by decide)
theorem r_MTo_shape_108 {l0 l1 l2 l3 l4 l6 l7 : Value} {x : Int32} : Rr X d MTo_shape 108 [l0, l1, l2, l3, l4, .int x, l6, l7] st h = Rr X d MTo_shape 110 [l0, l1, l2, l3, l4, .int x, l6, l7] (.int x :: st) h := Rr_nx d_MTo_shape_108 rfl
theorem r_MTo_shape_110 {x : Int32} : Rr X d MTo_shape 110 L [.int x] h = some (some (.int x), h) := R_ir d_MTo_shape_110 rfl
theorem d_MTo_span_0 : decode MTo_span.2.2.1 0 = .ok (.aload_n 0, 1) := by decide +kernel
theorem d_MTo_span_1 : decode MTo_span.2.2.1 1 = .ok (.iload_n 1, 1) := by decide +kernel
theorem d_MTo_span_2 : decode MTo_span.2.2.1 2 = .ok (.invokevirtual 135, 3) := by decide +kernel
theorem d_MTo_span_5 : decode MTo_span.2.2.1 5 = .ok (.ifCond .eq 15, 3) := by decide +kernel
theorem d_MTo_span_8 : decode MTo_span.2.2.1 8 = .ok (.iconst 0, 1) := by decide +kernel
theorem d_MTo_span_9 : decode MTo_span.2.2.1 9 = .ok (.iload_n 2, 1) := by decide +kernel
theorem d_MTo_span_10 : decode MTo_span.2.2.1 10 = .ok (.invokestatic 139, 3) := by decide +kernel
theorem d_MTo_span_13 : decode MTo_span.2.2.1 13 = .ok (.ifCond .eq 7, 3) := by decide +kernel
theorem d_MTo_span_16 : decode MTo_span.2.2.1 16 = .ok (.iload_n 3, 1) := by decide +kernel
theorem d_MTo_span_17 : decode MTo_span.2.2.1 17 = .ok (.ifCond .ge 5, 3) := by decide +kernel
theorem d_MTo_span_20 : decode MTo_span.2.2.1 20 = .ok (.iconst (-1), 1) := by decide +kernel
theorem d_MTo_span_21 : decode MTo_span.2.2.1 21 = .ok (.ireturn, 1) := by decide +kernel
theorem d_MTo_span_22 : decode MTo_span.2.2.1 22 = .ok (.aload_n 0, 1) := by decide +kernel
theorem d_MTo_span_23 : decode MTo_span.2.2.1 23 = .ok (.getfield 51, 3) := by decide +kernel
theorem d_MTo_span_26 : decode MTo_span.2.2.1 26 = .ok (.getfield 211, 3) := by decide +kernel
theorem d_MTo_span_29 : decode MTo_span.2.2.1 29 = .ok (.ifCond .ne 6, 3) := by decide +kernel
theorem d_MTo_span_32 : decode MTo_span.2.2.1 32 = .ok (.bipush (-5), 2) := by decide +kernel
theorem d_MTo_span_34 : decode MTo_span.2.2.1 34 = .ok (.ireturn, 1) := by decide +kernel
theorem d_MTo_span_35 : decode MTo_span.2.2.1 35 = .ok (.iconst 0, 1) := by decide +kernel
theorem d_MTo_span_36 : decode MTo_span.2.2.1 36 = .ok (.istore 4, 2) := by decide +kernel
theorem d_MTo_span_38 : decode MTo_span.2.2.1 38 = .ok (.bipush (-9), 2) := by decide +kernel
theorem d_MTo_span_40 : decode MTo_span.2.2.1 40 = .ok (.istore 5, 2) := by decide +kernel
theorem d_MTo_span_42 : decode MTo_span.2.2.1 42 = .ok (.iload 5, 2) := by decide +kernel
theorem d_MTo_span_44 : decode MTo_span.2.2.1 44 = .ok (.bipush 9, 2) := by decide +kernel
theorem d_MTo_span_46 : decode MTo_span.2.2.1 46 = .ok (.if_icmp .gt 24, 3) := by decide +kernel
theorem d_MTo_span_49 : decode MTo_span.2.2.1 49 = .ok (.aload_n 0, 1) := by decide +kernel
theorem d_MTo_span_50 : decode MTo_span.2.2.1 50 = .ok (.iload_n 1, 1) := by decide +kernel
theorem d_MTo_span_51 : decode MTo_span.2.2.1 51 = .ok (.iload_n 2, 1) := by decide +kernel
theorem d_MTo_span_52 : decode MTo_span.2.2.1 52 = .ok (.iload 5, 2) := by decide +kernel
theorem d_MTo_span_54 : decode MTo_span.2.2.1 54 = .ok (.invokevirtual 226, 3) := by decide +kernel
theorem d_MTo_span_57 : decode MTo_span.2.2.1 57 = .ok (.iload_n 3, 1) := by decide +kernel
theorem d_MTo_span_58 : decode MTo_span.2.2.1 58 = .ok (.if_icmp .gt 6, 3) := by decide +kernel
theorem d_MTo_span_61 : decode MTo_span.2.2.1 61 = .ok (.iinc 4 1, 3) := by decide +kernel
theorem d_MTo_span_64 : decode MTo_span.2.2.1 64 = .ok (.iinc 5 1, 3) := by decide +kernel
theorem d_MTo_span_67 : decode MTo_span.2.2.1 67 = .ok (.goto (-25), 3) := by decide +kernel
theorem d_MTo_span_70 : decode MTo_span.2.2.1 70 = .ok (.iload 4, 2) := by decide +kernel
theorem d_MTo_span_72 : decode MTo_span.2.2.1 72 = .ok (.ireturn, 1) := by decide +kernel
theorem r_MTo_span_0 {l1 l2 l3 l4 l5 : Value} {x : Nat} : Rr X d MTo_span 0 [.ref x, l1, l2, l3, l4, l5] st h = Rr X d MTo_span 1 [.ref x, l1, l2, l3, l4, l5] (.ref x :: st) h := Rr_nx d_MTo_span_0 rfl
theorem r_MTo_span_1 {l0 l2 l3 l4 l5 : Value} {x : Int32} : Rr X d MTo_span 1 [l0, .int x, l2, l3, l4, l5] st h = Rr X d MTo_span 2 [l0, .int x, l2, l3, l4, l5] (.int x :: st) h := Rr_nx d_MTo_span_1 rfl
theorem r_MTo_span_2 {y0 : Int32} {a : Nat} (hO : qO a 9 = true) (hc : ckS st = true) : Rr X (d + 1) MTo_span 2 L (.int y0 :: .ref a :: st) (Wd mu la ro et) = (Rr X d MTo_isGround 0 [.ref a, .int y0] [] (Wd mu la ro et)).bind fun q => Rr X (d + 1) MTo_span 5 L (psh q.1 st) q.2 := R_iv (av := [.int y0]) d_MTo_span_2 fc_9_135 hO (ckS_le hc) rfl (Nat.le_of_ble_eq_true rfl) (Nat.le_of_ble_eq_true rfl)
theorem r_MTo_span_5 {x : Int32} : Rr X d MTo_span 5 L (.int x :: st) h = if x = 0 then Rr X d MTo_span 20 L st h else Rr X d MTo_span 8 L st h := R_if_eq d_MTo_span_5 (by decide)
theorem r_MTo_span_8 : Rr X d MTo_span 8 L st h = Rr X d MTo_span 9 L (.int (0) :: st) h := Rr_nx d_MTo_span_8 rfl
theorem r_MTo_span_9 {l0 l1 l3 l4 l5 : Value} {x : Int32} : Rr X d MTo_span 9 [l0, l1, .int x, l3, l4, l5] st h = Rr X d MTo_span 10 [l0, l1, .int x, l3, l4, l5] (.int x :: st) h := Rr_nx d_MTo_span_9 rfl
theorem r_MTo_span_10 {y0 : Int32} {y1 : Int32} (hc : ckS st = true) : Rr X (d + 1) MTo_span 10 L (.int y1 :: .int y0 :: st) h = (Rr X d MTo_isStart 0 [.int y0, .int y1] [] h).bind fun q => Rr X (d + 1) MTo_span 13 L (psh q.1 st) q.2 := R_is (av := [.int y1, .int y0]) d_MTo_span_10 (Or.inl fc_9_139) (ckS_le hc) rfl (Nat.le_of_ble_eq_true rfl) (Nat.le_of_ble_eq_true rfl)
theorem r_MTo_span_13 {x : Int32} : Rr X d MTo_span 13 L (.int x :: st) h = if x = 0 then Rr X d MTo_span 20 L st h else Rr X d MTo_span 16 L st h := R_if_eq d_MTo_span_13 (by decide)
theorem r_MTo_span_16 {l0 l1 l2 l4 l5 : Value} {x : Int32} : Rr X d MTo_span 16 [l0, l1, l2, .int x, l4, l5] st h = Rr X d MTo_span 17 [l0, l1, l2, .int x, l4, l5] (.int x :: st) h := Rr_nx d_MTo_span_16 rfl
theorem r_MTo_span_17 {x : Int32} : Rr X d MTo_span 17 L (.int x :: st) h = if 0 ≤ x then Rr X d MTo_span 22 L st h else Rr X d MTo_span 20 L st h := R_if_ge d_MTo_span_17 (by decide)
theorem r_MTo_span_20 : Rr X d MTo_span 20 L st h = Rr X d MTo_span 21 L (.int (-1) :: st) h := Rr_nx d_MTo_span_20 rfl
theorem r_MTo_span_21 {x : Int32} : Rr X d MTo_span 21 L [.int x] h = some (some (.int x), h) := R_ir d_MTo_span_21 rfl
theorem r_MTo_span_22 {l1 l2 l3 l4 l5 : Value} {x : Nat} : Rr X d MTo_span 22 [.ref x, l1, l2, l3, l4, l5] st h = Rr X d MTo_span 23 [.ref x, l1, l2, l3, l4, l5] (.ref x :: st) h := Rr_nx d_MTo_span_22 rfl
theorem r_MTo_span_23 {a : Nat} (hq : (qR a 9 6).isSome = true) : Rr X d MTo_span 23 L (.ref a :: st) (Wd mu la ro et) = Rr X d MTo_span 26 L (.ref (qRd a 9 6) :: st) (Wd mu la ro et) := R_gfR d_MTo_span_23 ff_9_51 hq
theorem r_MTo_span_26 {a : Nat} (hq : qI a 2 2 = true) : Rr X d MTo_span 26 L (.ref a :: st) (Wd mu la ro et) = Rr X d MTo_span 29 L (.int (mu a 2) :: st) (Wd mu la ro et) := R_gfI d_MTo_span_26 ff_9_211 hq
theorem r_MTo_span_29 {x : Int32} : Rr X d MTo_span 29 L (.int x :: st) h = if ¬ x = 0 then Rr X d MTo_span 35 L st h else Rr X d MTo_span 32 L st h := R_if_ne d_MTo_span_29 (by decide)
theorem r_MTo_span_32 : Rr X d MTo_span 32 L st h = Rr X d MTo_span 34 L (.int (-5) :: st) h := Rr_nx d_MTo_span_32 rfl
theorem r_MTo_span_34 {x : Int32} : Rr X d MTo_span 34 L [.int x] h = some (some (.int x), h) := R_ir d_MTo_span_34 rfl
theorem r_MTo_span_35 : Rr X d MTo_span 35 L st h = Rr X d MTo_span 36 L (.int (0) :: st) h := Rr_nx d_MTo_span_35 rfl
theorem r_MTo_span_36 {l0 l1 l2 l3 l4 l5 : Value} {x : Int32} : Rr X d MTo_span 36 [l0, l1, l2, l3, l4, l5] (.int x :: st) h = Rr X d MTo_span 38 (sL [l0, l1, l2, l3, l4, l5] 4 (.int x)) st h := Rr_nx d_MTo_span_36 rfl
theorem r_MTo_span_38 : Rr X d MTo_span 38 L st h = Rr X d MTo_span 40 L (.int (-9) :: st) h := Rr_nx d_MTo_span_38 rfl
theorem r_MTo_span_40 {l0 l1 l2 l3 l4 l5 : Value} {x : Int32} : Rr X d MTo_span 40 [l0, l1, l2, l3, l4, l5] (.int x :: st) h = Rr X d MTo_span 42 (sL [l0, l1, l2, l3, l4, l5] 5 (.int x)) st h := Rr_nx d_MTo_span_40 rfl
theorem r_MTo_span_42 {l0 l1 l2 l3 l4 : Value} {x : Int32} : Rr X d MTo_span 42 [l0, l1, l2, l3, l4, .int x] st h = Rr X d MTo_span 44 [l0, l1, l2, l3, l4, .int x] (.int x :: st) h := Rr_nx d_MTo_span_42 rfl
theorem r_MTo_span_44 : Rr X d MTo_span 44 L st h = Rr X d MTo_span 46 L (.int (9) :: st) h := Rr_nx d_MTo_span_44 rfl
theorem r_MTo_span_46 {x y : Int32} : Rr X d MTo_span 46 L (.int y :: .int x :: st) h = if y < x then Rr X d MTo_span 70 L st h else Rr X d MTo_span 49 L st h := R_ic_gt d_MTo_span_46 (by decide)
theorem r_MTo_span_49 {l1 l2 l3 l4 l5 : Value} {x : Nat} : Rr X d MTo_span 49 [.ref x, l1, l2, l3, l4, l5] st h = Rr X d MTo_span 50 [.ref x, l1, l2, l3, l4, l5] (.ref x :: st) h := Rr_nx d_MTo_span_49 rfl
theorem r_MTo_span_50 {l0 l2 l3 l4 l5 : Value} {x : Int32} : Rr X d MTo_span 50 [l0, .int x, l2, l3, l4, l5] st h = Rr X d MTo_span 51 [l0, .int x, l2, l3, l4, l5] (.int x :: st) h := Rr_nx d_MTo_span_50 rfl
theorem r_MTo_span_51 {l0 l1 l3 l4 l5 : Value} {x : Int32} : Rr X d MTo_span 51 [l0, l1, .int x, l3, l4, l5] st h = Rr X d MTo_span 52 [l0, l1, .int x, l3, l4, l5] (.int x :: st) h := Rr_nx d_MTo_span_51 rfl
theorem r_MTo_span_52 {l0 l1 l2 l3 l4 : Value} {x : Int32} : Rr X d MTo_span 52 [l0, l1, l2, l3, l4, .int x] st h = Rr X d MTo_span 54 [l0, l1, l2, l3, l4, .int x] (.int x :: st) h := Rr_nx d_MTo_span_52 rfl
theorem r_MTo_span_54 {y0 : Int32} {y1 : Int32} {y2 : Int32} {a : Nat} (hO : qO a 9 = true) (hc : ckS st = true) : Rr X (d + 1) MTo_span 54 L (.int y2 :: .int y1 :: .int y0 :: .ref a :: st) (Wd mu la ro et) = (Rr X d MTo_offBy 0 [.ref a, .int y0, .int y1, .int y2, mkU, mkU, mkU] [] (Wd mu la ro et)).bind fun q => Rr X (d + 1) MTo_span 57 L (psh q.1 st) q.2 := R_iv (av := [.int y2, .int y1, .int y0]) d_MTo_span_54 fc_9_226 hO (ckS_le hc) rfl (Nat.le_of_ble_eq_true rfl) (Nat.le_of_ble_eq_true rfl)
theorem r_MTo_span_57 {l0 l1 l2 l4 l5 : Value} {x : Int32} : Rr X d MTo_span 57 [l0, l1, l2, .int x, l4, l5] st h = Rr X d MTo_span 58 [l0, l1, l2, .int x, l4, l5] (.int x :: st) h := Rr_nx d_MTo_span_57 rfl
theorem r_MTo_span_58 {x y : Int32} : Rr X d MTo_span 58 L (.int y :: .int x :: st) h = if y < x then Rr X d MTo_span 64 L st h else Rr X d MTo_span 61 L st h := R_ic_gt d_MTo_span_58 (by decide)
theorem r_MTo_span_61 {l0 l1 l2 l3 l5 : Value} {x : Int32} : Rr X d MTo_span 61 [l0, l1, l2, l3, .int x, l5] st h = Rr X d MTo_span 64 (sL [l0, l1, l2, l3, .int x, l5] 4 (.int (x + (1)))) st h := Rr_nx d_MTo_span_61 rfl
theorem r_MTo_span_64 {l0 l1 l2 l3 l4 : Value} {x : Int32} : Rr X d MTo_span 64 [l0, l1, l2, l3, l4, .int x] st h = Rr X d MTo_span 67 (sL [l0, l1, l2, l3, l4, .int x] 5 (.int (x + (1)))) st h := Rr_nx d_MTo_span_64 rfl
theorem r_MTo_span_67 : Rr X d MTo_span 67 L st h = Rr X d MTo_span 42 L st h := R_goto d_MTo_span_67 (by decide)
theorem r_MTo_span_70 {l0 l1 l2 l3 l5 : Value} {x : Int32} : Rr X d MTo_span 70 [l0, l1, l2, l3, .int x, l5] st h = Rr X d MTo_span 72 [l0, l1, l2, l3, .int x, l5] (.int x :: st) h := Rr_nx d_MTo_span_70 rfl
theorem r_MTo_span_72 {x : Int32} : Rr X d MTo_span 72 L [.int x] h = some (some (.int x), h) := R_ir d_MTo_span_72 rfl
theorem d_MTo_which_0 : decode MTo_which.2.2.1 0 = .ok (.aload_n 0, 1) := by decide +kernel
theorem d_MTo_which_1 : decode MTo_which.2.2.1 1 = .ok (.iload_n 1, 1) := by decide +kernel
theorem d_MTo_which_2 : decode MTo_which.2.2.1 2 = .ok (.invokevirtual 100, 3) := by decide +kernel
theorem d_MTo_which_5 : decode MTo_which.2.2.1 5 = .ok (.astore_n 3, 1) := by decide +kernel
theorem d_MTo_which_6 : decode MTo_which.2.2.1 6 = .ok (.aload_n 3, 1) := by decide +kernel
theorem d_MTo_which_7 : decode MTo_which.2.2.1 7 = .ok (.ifnull 11, 3) := by decide +kernel
theorem d_MTo_which_10 : decode MTo_which.2.2.1 10 = .ok (.iconst 0, 1) := by decide +kernel
theorem d_MTo_which_11 : decode MTo_which.2.2.1 11 = .ok (.iload_n 2, 1) := by decide +kernel
theorem d_MTo_which_12 : decode MTo_which.2.2.1 12 = .ok (.invokestatic 139, 3) := by decide +kernel
theorem d_MTo_which_15 : decode MTo_which.2.2.1 15 = .ok (.ifCond .ne 5, 3) := by decide +kernel
theorem d_MTo_which_18 : decode MTo_which.2.2.1 18 = .ok (.iconst (-1), 1) := by decide +kernel
theorem d_MTo_which_19 : decode MTo_which.2.2.1 19 = .ok (.ireturn, 1) := by decide +kernel
theorem d_MTo_which_20 : decode MTo_which.2.2.1 20 = .ok (.aload_n 0, 1) := by decide +kernel
theorem d_MTo_which_21 : decode MTo_which.2.2.1 21 = .ok (.getfield 51, 3) := by decide +kernel
theorem d_MTo_which_24 : decode MTo_which.2.2.1 24 = .ok (.getfield 211, 3) := by decide +kernel
theorem d_MTo_which_27 : decode MTo_which.2.2.1 27 = .ok (.ifCond .eq 10, 3) := by decide +kernel
theorem d_MTo_which_30 : decode MTo_which.2.2.1 30 = .ok (.aload_n 0, 1) := by decide +kernel
theorem d_MTo_which_31 : decode MTo_which.2.2.1 31 = .ok (.getfield 127, 3) := by decide +kernel
theorem d_MTo_which_34 : decode MTo_which.2.2.1 34 = .ok (.ifCond .ne 6, 3) := by decide +kernel
theorem d_MTo_which_37 : decode MTo_which.2.2.1 37 = .ok (.bipush (-5), 2) := by decide +kernel
theorem d_MTo_which_39 : decode MTo_which.2.2.1 39 = .ok (.ireturn, 1) := by decide +kernel
theorem d_MTo_which_40 : decode MTo_which.2.2.1 40 = .ok (.aload_n 3, 1) := by decide +kernel
theorem d_MTo_which_41 : decode MTo_which.2.2.1 41 = .ok (.invokevirtual 131, 3) := by decide +kernel
theorem d_MTo_which_44 : decode MTo_which.2.2.1 44 = .ok (.istore 4, 2) := by decide +kernel
theorem d_MTo_which_46 : decode MTo_which.2.2.1 46 = .ok (.iconst 0, 1) := by decide +kernel
theorem d_MTo_which_47 : decode MTo_which.2.2.1 47 = .ok (.istore 5, 2) := by decide +kernel
theorem d_MTo_which_49 : decode MTo_which.2.2.1 49 = .ok (.aload_n 0, 1) := by decide +kernel
theorem d_MTo_which_50 : decode MTo_which.2.2.1 50 = .ok (.bipush 10, 2) := by decide +kernel
theorem d_MTo_which_52 : decode MTo_which.2.2.1 52 = .ok (.iload_n 1, 1) := by decide +kernel
theorem d_MTo_which_53 : decode MTo_which.2.2.1 53 = .ok (.imul, 1) := by decide +kernel
theorem d_MTo_which_54 : decode MTo_which.2.2.1 54 = .ok (.iload_n 2, 1) := by decide +kernel
theorem d_MTo_which_55 : decode MTo_which.2.2.1 55 = .ok (.iload 4, 2) := by decide +kernel
theorem d_MTo_which_57 : decode MTo_which.2.2.1 57 = .ok (.invokevirtual 226, 3) := by decide +kernel
theorem d_MTo_which_60 : decode MTo_which.2.2.1 60 = .ok (.istore 6, 2) := by decide +kernel
theorem d_MTo_which_62 : decode MTo_which.2.2.1 62 = .ok (.iconst 1, 1) := by decide +kernel
theorem d_MTo_which_63 : decode MTo_which.2.2.1 63 = .ok (.istore 7, 2) := by decide +kernel
theorem d_MTo_which_65 : decode MTo_which.2.2.1 65 = .ok (.iload 7, 2) := by decide +kernel
theorem d_MTo_which_67 : decode MTo_which.2.2.1 67 = .ok (.aload_n 0, 1) := by decide +kernel
theorem d_MTo_which_68 : decode MTo_which.2.2.1 68 = .ok (.getfield 127, 3) := by decide +kernel
theorem d_MTo_which_71 : decode MTo_which.2.2.1 71 = .ok (.if_icmp .ge 40, 3) := by decide +kernel
theorem d_MTo_which_74 : decode MTo_which.2.2.1 74 = .ok (.aload_n 0, 1) := by decide +kernel
theorem d_MTo_which_75 : decode MTo_which.2.2.1 75 = .ok (.bipush 10, 2) := by decide +kernel
theorem d_MTo_which_77 : decode MTo_which.2.2.1 77 = .ok (.iload_n 1, 1) := by decide +kernel
theorem d_MTo_which_78 : decode MTo_which.2.2.1 78 = .ok (.imul, 1) := by decide +kernel
theorem d_MTo_which_79 : decode MTo_which.2.2.1 79 = .ok (.iload 7, 2) := by decide +kernel
theorem d_MTo_which_81 : decode MTo_which.2.2.1 81 = .ok (.iadd, 1) := by decide +kernel
theorem d_MTo_which_82 : decode MTo_which.2.2.1 82 = .ok (.iload_n 2, 1) := by decide +kernel
theorem d_MTo_which_83 : decode MTo_which.2.2.1 83 = .ok (.iload 4, 2) := by decide +kernel
theorem d_MTo_which_85 : decode MTo_which.2.2.1 85 = .ok (.invokevirtual 226, 3) := by decide +kernel
theorem d_MTo_which_88 : decode MTo_which.2.2.1 88 = .ok (.istore 8, 2) := by decide +kernel
theorem d_MTo_which_90 : decode MTo_which.2.2.1 90 = .ok (.iload 8, 2) := by decide +kernel
theorem d_MTo_which_92 : decode MTo_which.2.2.1 92 = .ok (.iload 6, 2) := by decide +kernel
theorem d_MTo_which_94 : decode MTo_which.2.2.1 94 = .ok (.if_icmp .ge 11, 3) := by decide +kernel
theorem d_MTo_which_97 : decode MTo_which.2.2.1 97 = .ok (.iload 7, 2) := by decide +kernel
theorem d_MTo_which_99 : decode MTo_which.2.2.1 99 = .ok (.istore 5, 2) := by decide +kernel
theorem d_MTo_which_101 : decode MTo_which.2.2.1 101 = .ok (.iload 8, 2) := by decide +kernel
theorem d_MTo_which_103 : decode MTo_which.2.2.1 103 = .ok (.istore 6, 2) := by decide +kernel
theorem d_MTo_which_105 : decode MTo_which.2.2.1 105 = .ok (.iinc 7 1, 3) := by decide +kernel
theorem d_MTo_which_108 : decode MTo_which.2.2.1 108 = .ok (.goto (-43), 3) := by decide +kernel
theorem d_MTo_which_111 : decode MTo_which.2.2.1 111 = .ok (.iload 5, 2) := by decide +kernel
theorem d_MTo_which_113 : decode MTo_which.2.2.1 113 = .ok (.ireturn, 1) := by decide +kernel
theorem r_MTo_which_0 {l1 l2 l3 l4 l5 l6 l7 l8 : Value} {x : Nat} : Rr X d MTo_which 0 [.ref x, l1, l2, l3, l4, l5, l6, l7, l8] st h = Rr X d MTo_which 1 [.ref x, l1, l2, l3, l4, l5, l6, l7, l8] (.ref x :: st) h := Rr_nx d_MTo_which_0 rfl
theorem r_MTo_which_1 {l0 l2 l3 l4 l5 l6 l7 l8 : Value} {x : Int32} : Rr X d MTo_which 1 [l0, .int x, l2, l3, l4, l5, l6, l7, l8] st h = Rr X d MTo_which 2 [l0, .int x, l2, l3, l4, l5, l6, l7, l8] (.int x :: st) h := Rr_nx d_MTo_which_1 rfl
theorem r_MTo_which_2 {y0 : Int32} {a : Nat} (hO : qO a 9 = true) (hc : ckS st = true) : Rr X (d + 1) MTo_which 2 L (.int y0 :: .ref a :: st) (Wd mu la ro et) = (Rr X d MTo_stoneAt 0 [.ref a, .int y0] [] (Wd mu la ro et)).bind fun q => Rr X (d + 1) MTo_which 5 L (psh q.1 st) q.2 := R_iv (av := [.int y0]) d_MTo_which_2 fc_9_100 hO (ckS_le hc) rfl (Nat.le_of_ble_eq_true rfl) (Nat.le_of_ble_eq_true rfl)
theorem r_MTo_which_5 {l0 l1 l2 l3 l4 l5 l6 l7 l8 : Value} {x : Nat} : Rr X d MTo_which 5 [l0, l1, l2, l3, l4, l5, l6, l7, l8] (.ref x :: st) h = Rr X d MTo_which 6 (sL [l0, l1, l2, l3, l4, l5, l6, l7, l8] 3 (.ref x)) st h := Rr_nx d_MTo_which_5 rfl
theorem r_MTo_which_5n {l0 l1 l2 l3 l4 l5 l6 l7 l8 : Value} : Rr X d MTo_which 5 [l0, l1, l2, l3, l4, l5, l6, l7, l8] (.null :: st) h = Rr X d MTo_which 6 (sL [l0, l1, l2, l3, l4, l5, l6, l7, l8] 3 .null) st h := Rr_nx d_MTo_which_5 rfl
theorem r_MTo_which_6 {l0 l1 l2 l4 l5 l6 l7 l8 : Value} {x : Nat} : Rr X d MTo_which 6 [l0, l1, l2, .ref x, l4, l5, l6, l7, l8] st h = Rr X d MTo_which 7 [l0, l1, l2, .ref x, l4, l5, l6, l7, l8] (.ref x :: st) h := Rr_nx d_MTo_which_6 rfl
theorem r_MTo_which_6n {l0 l1 l2 l4 l5 l6 l7 l8 : Value} : Rr X d MTo_which 6 [l0, l1, l2, .null, l4, l5, l6, l7, l8] st h = Rr X d MTo_which 7 [l0, l1, l2, .null, l4, l5, l6, l7, l8] (.null :: st) h := Rr_nx d_MTo_which_6 rfl
theorem r_MTo_which_7 {x : Nat} : Rr X d MTo_which 7 L (.ref x :: st) h = Rr X d MTo_which 10 L st h := R_nul1 d_MTo_which_7
theorem r_MTo_which_7n : Rr X d MTo_which 7 L (.null :: st) h = Rr X d MTo_which 18 L st h := R_nul0 d_MTo_which_7 (by decide)
theorem r_MTo_which_10 : Rr X d MTo_which 10 L st h = Rr X d MTo_which 11 L (.int (0) :: st) h := Rr_nx d_MTo_which_10 rfl
theorem r_MTo_which_11 {l0 l1 l3 l4 l5 l6 l7 l8 : Value} {x : Int32} : Rr X d MTo_which 11 [l0, l1, .int x, l3, l4, l5, l6, l7, l8] st h = Rr X d MTo_which 12 [l0, l1, .int x, l3, l4, l5, l6, l7, l8] (.int x :: st) h := Rr_nx d_MTo_which_11 rfl
theorem r_MTo_which_12 {y0 : Int32} {y1 : Int32} (hc : ckS st = true) : Rr X (d + 1) MTo_which 12 L (.int y1 :: .int y0 :: st) h = (Rr X d MTo_isStart 0 [.int y0, .int y1] [] h).bind fun q => Rr X (d + 1) MTo_which 15 L (psh q.1 st) q.2 := R_is (av := [.int y1, .int y0]) d_MTo_which_12 (Or.inl fc_9_139) (ckS_le hc) rfl (Nat.le_of_ble_eq_true rfl) (Nat.le_of_ble_eq_true rfl)
theorem r_MTo_which_15 {x : Int32} : Rr X d MTo_which 15 L (.int x :: st) h = if ¬ x = 0 then Rr X d MTo_which 20 L st h else Rr X d MTo_which 18 L st h := R_if_ne d_MTo_which_15 (by decide)
theorem r_MTo_which_18 : Rr X d MTo_which 18 L st h = Rr X d MTo_which 19 L (.int (-1) :: st) h := Rr_nx d_MTo_which_18 rfl
theorem r_MTo_which_19 {x : Int32} : Rr X d MTo_which 19 L [.int x] h = some (some (.int x), h) := R_ir d_MTo_which_19 rfl
theorem r_MTo_which_20 {l1 l2 l3 l4 l5 l6 l7 l8 : Value} {x : Nat} : Rr X d MTo_which 20 [.ref x, l1, l2, l3, l4, l5, l6, l7, l8] st h = Rr X d MTo_which 21 [.ref x, l1, l2, l3, l4, l5, l6, l7, l8] (.ref x :: st) h := Rr_nx d_MTo_which_20 rfl
theorem r_MTo_which_21 {a : Nat} (hq : (qR a 9 6).isSome = true) : Rr X d MTo_which 21 L (.ref a :: st) (Wd mu la ro et) = Rr X d MTo_which 24 L (.ref (qRd a 9 6) :: st) (Wd mu la ro et) := R_gfR d_MTo_which_21 ff_9_51 hq
theorem r_MTo_which_24 {a : Nat} (hq : qI a 2 2 = true) : Rr X d MTo_which 24 L (.ref a :: st) (Wd mu la ro et) = Rr X d MTo_which 27 L (.int (mu a 2) :: st) (Wd mu la ro et) := R_gfI d_MTo_which_24 ff_9_211 hq
theorem r_MTo_which_27 {x : Int32} : Rr X d MTo_which 27 L (.int x :: st) h = if x = 0 then Rr X d MTo_which 37 L st h else Rr X d MTo_which 30 L st h := R_if_eq d_MTo_which_27 (by decide)
theorem r_MTo_which_30 {l1 l2 l3 l4 l5 l6 l7 l8 : Value} {x : Nat} : Rr X d MTo_which 30 [.ref x, l1, l2, l3, l4, l5, l6, l7, l8] st h = Rr X d MTo_which 31 [.ref x, l1, l2, l3, l4, l5, l6, l7, l8] (.ref x :: st) h := Rr_nx d_MTo_which_30 rfl
theorem r_MTo_which_31 {a : Nat} (hq : qI a 9 10 = true) : Rr X d MTo_which 31 L (.ref a :: st) (Wd mu la ro et) = Rr X d MTo_which 34 L (.int (mu a 10) :: st) (Wd mu la ro et) := R_gfI d_MTo_which_31 ff_9_127 hq
theorem r_MTo_which_34 {x : Int32} : Rr X d MTo_which 34 L (.int x :: st) h = if ¬ x = 0 then Rr X d MTo_which 40 L st h else Rr X d MTo_which 37 L st h := R_if_ne d_MTo_which_34 (by decide)
theorem r_MTo_which_37 : Rr X d MTo_which 37 L st h = Rr X d MTo_which 39 L (.int (-5) :: st) h := Rr_nx d_MTo_which_37 rfl
theorem r_MTo_which_39 {x : Int32} : Rr X d MTo_which 39 L [.int x] h = some (some (.int x), h) := R_ir d_MTo_which_39 rfl
theorem r_MTo_which_40 {l0 l1 l2 l4 l5 l6 l7 l8 : Value} {x : Nat} : Rr X d MTo_which 40 [l0, l1, l2, .ref x, l4, l5, l6, l7, l8] st h = Rr X d MTo_which 41 [l0, l1, l2, .ref x, l4, l5, l6, l7, l8] (.ref x :: st) h := Rr_nx d_MTo_which_40 rfl
theorem r_MTo_which_40n {l0 l1 l2 l4 l5 l6 l7 l8 : Value} : Rr X d MTo_which 40 [l0, l1, l2, .null, l4, l5, l6, l7, l8] st h = Rr X d MTo_which 41 [l0, l1, l2, .null, l4, l5, l6, l7, l8] (.null :: st) h := Rr_nx d_MTo_which_40 rfl
theorem r_MTo_which_41 {a : Nat} (hO : qO a 7 = true) (hc : ckS st = true) : Rr X (d + 1) MTo_which 41 L (.ref a :: st) (Wd mu la ro et) = (Rr X d MSt_keen 0 [.ref a] [] (Wd mu la ro et)).bind fun q => Rr X (d + 1) MTo_which 44 L (psh q.1 st) q.2 := R_iv (av := []) d_MTo_which_41 fc_9_131 hO (ckS_le hc) rfl (Nat.le_of_ble_eq_true rfl) (Nat.le_of_ble_eq_true rfl)
theorem r_MTo_which_44 {l0 l1 l2 l3 l4 l5 l6 l7 l8 : Value} {x : Int32} : Rr X d MTo_which 44 [l0, l1, l2, l3, l4, l5, l6, l7, l8] (.int x :: st) h = Rr X d MTo_which 46 (sL [l0, l1, l2, l3, l4, l5, l6, l7, l8] 4 (.int x)) st h := Rr_nx d_MTo_which_44 rfl
theorem r_MTo_which_46 : Rr X d MTo_which 46 L st h = Rr X d MTo_which 47 L (.int (0) :: st) h := Rr_nx d_MTo_which_46 rfl
theorem r_MTo_which_47 {l0 l1 l2 l3 l4 l5 l6 l7 l8 : Value} {x : Int32} : Rr X d MTo_which 47 [l0, l1, l2, l3, l4, l5, l6, l7, l8] (.int x :: st) h = Rr X d MTo_which 49 (sL [l0, l1, l2, l3, l4, l5, l6, l7, l8] 5 (.int x)) st h := Rr_nx d_MTo_which_47 rfl
theorem r_MTo_which_49 {l1 l2 l3 l4 l5 l6 l7 l8 : Value} {x : Nat} : Rr X d MTo_which 49 [.ref x, l1, l2, l3, l4, l5, l6, l7, l8] st h = Rr X d MTo_which 50 [.ref x, l1, l2, l3, l4, l5, l6, l7, l8] (.ref x :: st) h := Rr_nx d_MTo_which_49 rfl
theorem r_MTo_which_50 : Rr X d MTo_which 50 L st h = Rr X d MTo_which 52 L (.int (10) :: st) h := Rr_nx d_MTo_which_50 rfl
theorem r_MTo_which_52 {l0 l2 l3 l4 l5 l6 l7 l8 : Value} {x : Int32} : Rr X d MTo_which 52 [l0, .int x, l2, l3, l4, l5, l6, l7, l8] st h = Rr X d MTo_which 53 [l0, .int x, l2, l3, l4, l5, l6, l7, l8] (.int x :: st) h := Rr_nx d_MTo_which_52 rfl
theorem r_MTo_which_53 {x y : Int32} : Rr X d MTo_which 53 L (.int y :: .int x :: st) h = Rr X d MTo_which 54 L (.int (x * y) :: st) h := Rr_nx d_MTo_which_53 rfl
theorem r_MTo_which_54 {l0 l1 l3 l4 l5 l6 l7 l8 : Value} {x : Int32} : Rr X d MTo_which 54 [l0, l1, .int x, l3, l4, l5, l6, l7, l8] st h = Rr X d MTo_which 55 [l0, l1, .int x, l3, l4, l5, l6, l7, l8] (.int x :: st) h := Rr_nx d_MTo_which_54 rfl
theorem r_MTo_which_55 {l0 l1 l2 l3 l5 l6 l7 l8 : Value} {x : Int32} : Rr X d MTo_which 55 [l0, l1, l2, l3, .int x, l5, l6, l7, l8] st h = Rr X d MTo_which 57 [l0, l1, l2, l3, .int x, l5, l6, l7, l8] (.int x :: st) h := Rr_nx d_MTo_which_55 rfl
theorem r_MTo_which_57 {y0 : Int32} {y1 : Int32} {y2 : Int32} {a : Nat} (hO : qO a 9 = true) (hc : ckS st = true) : Rr X (d + 1) MTo_which 57 L (.int y2 :: .int y1 :: .int y0 :: .ref a :: st) (Wd mu la ro et) = (Rr X d MTo_offBy 0 [.ref a, .int y0, .int y1, .int y2, mkU, mkU, mkU] [] (Wd mu la ro et)).bind fun q => Rr X (d + 1) MTo_which 60 L (psh q.1 st) q.2 := R_iv (av := [.int y2, .int y1, .int y0]) d_MTo_which_57 fc_9_226 hO (ckS_le hc) rfl (Nat.le_of_ble_eq_true rfl) (Nat.le_of_ble_eq_true rfl)
theorem r_MTo_which_60 {l0 l1 l2 l3 l4 l5 l6 l7 l8 : Value} {x : Int32} : Rr X d MTo_which 60 [l0, l1, l2, l3, l4, l5, l6, l7, l8] (.int x :: st) h = Rr X d MTo_which 62 (sL [l0, l1, l2, l3, l4, l5, l6, l7, l8] 6 (.int x)) st h := Rr_nx d_MTo_which_60 rfl
theorem r_MTo_which_62 : Rr X d MTo_which 62 L st h = Rr X d MTo_which 63 L (.int (1) :: st) h := Rr_nx d_MTo_which_62 rfl
theorem r_MTo_which_63 {l0 l1 l2 l3 l4 l5 l6 l7 l8 : Value} {x : Int32} : Rr X d MTo_which 63 [l0, l1, l2, l3, l4, l5, l6, l7, l8] (.int x :: st) h = Rr X d MTo_which 65 (sL [l0, l1, l2, l3, l4, l5, l6, l7, l8] 7 (.int x)) st h := Rr_nx d_MTo_which_63 rfl
theorem r_MTo_which_65 {l0 l1 l2 l3 l4 l5 l6 l8 : Value} {x : Int32} : Rr X d MTo_which 65 [l0, l1, l2, l3, l4, l5, l6, .int x, l8] st h = Rr X d MTo_which 67 [l0, l1, l2, l3, l4, l5, l6, .int x, l8] (.int x :: st) h := Rr_nx d_MTo_which_65 rfl
theorem r_MTo_which_67 {l1 l2 l3 l4 l5 l6 l7 l8 : Value} {x : Nat} : Rr X d MTo_which 67 [.ref x, l1, l2, l3, l4, l5, l6, l7, l8] st h = Rr X d MTo_which 68 [.ref x, l1, l2, l3, l4, l5, l6, l7, l8] (.ref x :: st) h := Rr_nx d_MTo_which_67 rfl
theorem r_MTo_which_68 {a : Nat} (hq : qI a 9 10 = true) : Rr X d MTo_which 68 L (.ref a :: st) (Wd mu la ro et) = Rr X d MTo_which 71 L (.int (mu a 10) :: st) (Wd mu la ro et) := R_gfI d_MTo_which_68 ff_9_127 hq
theorem r_MTo_which_71 {x y : Int32} : Rr X d MTo_which 71 L (.int y :: .int x :: st) h = if y ≤ x then Rr X d MTo_which 111 L st h else Rr X d MTo_which 74 L st h := R_ic_ge d_MTo_which_71 (by decide)
theorem r_MTo_which_74 {l1 l2 l3 l4 l5 l6 l7 l8 : Value} {x : Nat} : Rr X d MTo_which 74 [.ref x, l1, l2, l3, l4, l5, l6, l7, l8] st h = Rr X d MTo_which 75 [.ref x, l1, l2, l3, l4, l5, l6, l7, l8] (.ref x :: st) h := Rr_nx d_MTo_which_74 rfl
theorem r_MTo_which_75 : Rr X d MTo_which 75 L st h = Rr X d MTo_which 77 L (.int (10) :: st) h := Rr_nx d_MTo_which_75 rfl
theorem r_MTo_which_77 {l0 l2 l3 l4 l5 l6 l7 l8 : Value} {x : Int32} : Rr X d MTo_which 77 [l0, .int x, l2, l3, l4, l5, l6, l7, l8] st h = Rr X d MTo_which 78 [l0, .int x, l2, l3, l4, l5, l6, l7, l8] (.int x :: st) h := Rr_nx d_MTo_which_77 rfl
theorem r_MTo_which_78 {x y : Int32} : Rr X d MTo_which 78 L (.int y :: .int x :: st) h = Rr X d MTo_which 79 L (.int (x * y) :: st) h := Rr_nx d_MTo_which_78 rfl
theorem r_MTo_which_79 {l0 l1 l2 l3 l4 l5 l6 l8 : Value} {x : Int32} : Rr X d MTo_which 79 [l0, l1, l2, l3, l4, l5, l6, .int x, l8] st h = Rr X d MTo_which 81 [l0, l1, l2, l3, l4, l5, l6, .int x, l8] (.int x :: st) h := Rr_nx d_MTo_which_79 rfl
theorem r_MTo_which_81 {x y : Int32} : Rr X d MTo_which 81 L (.int y :: .int x :: st) h = Rr X d MTo_which 82 L (.int (x + y) :: st) h := Rr_nx d_MTo_which_81 rfl
theorem r_MTo_which_82 {l0 l1 l3 l4 l5 l6 l7 l8 : Value} {x : Int32} : Rr X d MTo_which 82 [l0, l1, .int x, l3, l4, l5, l6, l7, l8] st h = Rr X d MTo_which 83 [l0, l1, .int x, l3, l4, l5, l6, l7, l8] (.int x :: st) h := Rr_nx d_MTo_which_82 rfl
theorem r_MTo_which_83 {l0 l1 l2 l3 l5 l6 l7 l8 : Value} {x : Int32} : Rr X d MTo_which 83 [l0, l1, l2, l3, .int x, l5, l6, l7, l8] st h = Rr X d MTo_which 85 [l0, l1, l2, l3, .int x, l5, l6, l7, l8] (.int x :: st) h := Rr_nx d_MTo_which_83 rfl
theorem r_MTo_which_85 {y0 : Int32} {y1 : Int32} {y2 : Int32} {a : Nat} (hO : qO a 9 = true) (hc : ckS st = true) : Rr X (d + 1) MTo_which 85 L (.int y2 :: .int y1 :: .int y0 :: .ref a :: st) (Wd mu la ro et) = (Rr X d MTo_offBy 0 [.ref a, .int y0, .int y1, .int y2, mkU, mkU, mkU] [] (Wd mu la ro et)).bind fun q => Rr X (d + 1) MTo_which 88 L (psh q.1 st) q.2 := R_iv (av := [.int y2, .int y1, .int y0]) d_MTo_which_85 fc_9_226 hO (ckS_le hc) rfl (Nat.le_of_ble_eq_true rfl) (Nat.le_of_ble_eq_true rfl)
theorem r_MTo_which_88 {l0 l1 l2 l3 l4 l5 l6 l7 l8 : Value} {x : Int32} : Rr X d MTo_which 88 [l0, l1, l2, l3, l4, l5, l6, l7, l8] (.int x :: st) h = Rr X d MTo_which 90 (sL [l0, l1, l2, l3, l4, l5, l6, l7, l8] 8 (.int x)) st h := Rr_nx d_MTo_which_88 rfl
theorem r_MTo_which_90 {l0 l1 l2 l3 l4 l5 l6 l7 : Value} {x : Int32} : Rr X d MTo_which 90 [l0, l1, l2, l3, l4, l5, l6, l7, .int x] st h = Rr X d MTo_which 92 [l0, l1, l2, l3, l4, l5, l6, l7, .int x] (.int x :: st) h := Rr_nx d_MTo_which_90 rfl
theorem r_MTo_which_92 {l0 l1 l2 l3 l4 l5 l7 l8 : Value} {x : Int32} : Rr X d MTo_which 92 [l0, l1, l2, l3, l4, l5, .int x, l7, l8] st h = Rr X d MTo_which 94 [l0, l1, l2, l3, l4, l5, .int x, l7, l8] (.int x :: st) h := Rr_nx d_MTo_which_92 rfl
theorem r_MTo_which_94 {x y : Int32} : Rr X d MTo_which 94 L (.int y :: .int x :: st) h = if y ≤ x then Rr X d MTo_which 105 L st h else Rr X d MTo_which 97 L st h := R_ic_ge d_MTo_which_94 (by decide)
theorem r_MTo_which_97 {l0 l1 l2 l3 l4 l5 l6 l8 : Value} {x : Int32} : Rr X d MTo_which 97 [l0, l1, l2, l3, l4, l5, l6, .int x, l8] st h = Rr X d MTo_which 99 [l0, l1, l2, l3, l4, l5, l6, .int x, l8] (.int x :: st) h := Rr_nx d_MTo_which_97 rfl
theorem r_MTo_which_99 {l0 l1 l2 l3 l4 l5 l6 l7 l8 : Value} {x : Int32} : Rr X d MTo_which 99 [l0, l1, l2, l3, l4, l5, l6, l7, l8] (.int x :: st) h = Rr X d MTo_which 101 (sL [l0, l1, l2, l3, l4, l5, l6, l7, l8] 5 (.int x)) st h := Rr_nx d_MTo_which_99 rfl
theorem r_MTo_which_101 {l0 l1 l2 l3 l4 l5 l6 l7 : Value} {x : Int32} : Rr X d MTo_which 101 [l0, l1, l2, l3, l4, l5, l6, l7, .int x] st h = Rr X d MTo_which 103 [l0, l1, l2, l3, l4, l5, l6, l7, .int x] (.int x :: st) h := Rr_nx d_MTo_which_101 rfl
theorem r_MTo_which_103 {l0 l1 l2 l3 l4 l5 l6 l7 l8 : Value} {x : Int32} : Rr X d MTo_which 103 [l0, l1, l2, l3, l4, l5, l6, l7, l8] (.int x :: st) h = Rr X d MTo_which 105 (sL [l0, l1, l2, l3, l4, l5, l6, l7, l8] 6 (.int x)) st h := Rr_nx d_MTo_which_103 rfl
theorem r_MTo_which_105 {l0 l1 l2 l3 l4 l5 l6 l8 : Value} {x : Int32} : Rr X d MTo_which 105 [l0, l1, l2, l3, l4, l5, l6, .int x, l8] st h = Rr X d MTo_which 108 (sL [l0, l1, l2, l3, l4, l5, l6, .int x, l8] 7 (.int (x + (1)))) st h := Rr_nx d_MTo_which_105 rfl
theorem r_MTo_which_108 : Rr X d MTo_which 108 L st h = Rr X d MTo_which 65 L st h := R_goto d_MTo_which_108 (by decide)
theorem r_MTo_which_111 {l0 l1 l2 l3 l4 l6 l7 l8 : Value} {x : Int32} : Rr X d MTo_which 111 [l0, l1, l2, l3, l4, .int x, l6, l7, l8] st h = Rr X d MTo_which 113 [l0, l1, l2, l3, l4, .int x, l6, l7, l8] (.int x :: st) h := Rr_nx d_MTo_which_111 rfl
theorem r_MTo_which_113 {x : Int32} : Rr X d MTo_which 113 L [.int x] h = some (some (.int x), h) := R_ir d_MTo_which_113 rfl
theorem d_MTo_chance_0 : decode MTo_chance.2.2.1 0 = .ok (.iload_n 1, 1) := by decide +kernel
theorem d_MTo_chance_1 : decode MTo_chance.2.2.1 1 = .ok (.iconst 1, 1) := by decide +kernel
theorem d_MTo_chance_2 : decode MTo_chance.2.2.1 2 = .ok (.bipush 40, 2) := by decide +kernel
theorem d_MTo_chance_4 : decode MTo_chance.2.2.1 4 = .ok (.invokestatic 72, 3) := by decide +kernel
theorem d_MTo_chance_7 : decode MTo_chance.2.2.1 7 = .ok (.ifCond .eq 12, 3) := by decide +kernel
theorem d_MTo_chance_10 : decode MTo_chance.2.2.1 10 = .ok (.iload_n 2, 1) := by decide +kernel
theorem d_MTo_chance_11 : decode MTo_chance.2.2.1 11 = .ok (.iconst 0, 1) := by decide +kernel
theorem d_MTo_chance_12 : decode MTo_chance.2.2.1 12 = .ok (.iload_n 1, 1) := by decide +kernel
theorem d_MTo_chance_13 : decode MTo_chance.2.2.1 13 = .ok (.invokestatic 72, 3) := by decide +kernel
theorem d_MTo_chance_16 : decode MTo_chance.2.2.1 16 = .ok (.ifCond .ne 5, 3) := by decide +kernel
theorem d_MTo_chance_19 : decode MTo_chance.2.2.1 19 = .ok (.iconst (-1), 1) := by decide +kernel
theorem d_MTo_chance_20 : decode MTo_chance.2.2.1 20 = .ok (.ireturn, 1) := by decide +kernel
theorem d_MTo_chance_21 : decode MTo_chance.2.2.1 21 = .ok (.iload_n 2, 1) := by decide +kernel
theorem d_MTo_chance_22 : decode MTo_chance.2.2.1 22 = .ok (.iload_n 1, 1) := by decide +kernel
theorem d_MTo_chance_23 : decode MTo_chance.2.2.1 23 = .ok (.iload_n 2, 1) := by decide +kernel
theorem d_MTo_chance_24 : decode MTo_chance.2.2.1 24 = .ok (.isub, 1) := by decide +kernel
theorem d_MTo_chance_25 : decode MTo_chance.2.2.1 25 = .ok (.invokestatic 230, 3) := by decide +kernel
theorem d_MTo_chance_28 : decode MTo_chance.2.2.1 28 = .ok (.istore_n 3, 1) := by decide +kernel
theorem d_MTo_chance_29 : decode MTo_chance.2.2.1 29 = .ok (.lconst 0, 1) := by decide +kernel
theorem d_MTo_chance_30 : decode MTo_chance.2.2.1 30 = .ok (.lstore 4, 2) := by decide +kernel
theorem d_MTo_chance_32 : decode MTo_chance.2.2.1 32 = .ok (.lconst 1, 1) := by decide +kernel
theorem d_MTo_chance_33 : decode MTo_chance.2.2.1 33 = .ok (.lstore 6, 2) := by decide +kernel
theorem d_MTo_chance_35 : decode MTo_chance.2.2.1 35 = .ok (.iconst 0, 1) := by decide +kernel
theorem d_MTo_chance_36 : decode MTo_chance.2.2.1 36 = .ok (.istore 8, 2) := by decide +kernel
theorem d_MTo_chance_38 : decode MTo_chance.2.2.1 38 = .ok (.iload 8, 2) := by decide +kernel
theorem d_MTo_chance_40 : decode MTo_chance.2.2.1 40 = .ok (.iload_n 1, 1) := by decide +kernel
theorem d_MTo_chance_41 : decode MTo_chance.2.2.1 41 = .ok (.if_icmp .gt 45, 3) := by decide +kernel
theorem d_MTo_chance_44 : decode MTo_chance.2.2.1 44 = .ok (.iload 8, 2) := by decide +kernel
theorem d_MTo_chance_46 : decode MTo_chance.2.2.1 46 = .ok (.iload_n 1, 1) := by decide +kernel
theorem d_MTo_chance_47 : decode MTo_chance.2.2.1 47 = .ok (.iload 8, 2) := by decide +kernel
theorem d_MTo_chance_49 : decode MTo_chance.2.2.1 49 = .ok (.isub, 1) := by decide +kernel
theorem d_MTo_chance_50 : decode MTo_chance.2.2.1 50 = .ok (.invokestatic 230, 3) := by decide +kernel
theorem d_MTo_chance_53 : decode MTo_chance.2.2.1 53 = .ok (.iload_n 3, 1) := by decide +kernel
theorem d_MTo_chance_54 : decode MTo_chance.2.2.1 54 = .ok (.if_icmp .lt 10, 3) := by decide +kernel
theorem d_MTo_chance_57 : decode MTo_chance.2.2.1 57 = .ok (.lload 4, 2) := by decide +kernel
theorem d_MTo_chance_59 : decode MTo_chance.2.2.1 59 = .ok (.lload 6, 2) := by decide +kernel
theorem d_MTo_chance_61 : decode MTo_chance.2.2.1 61 = .ok (.ladd, 1) := by decide +kernel
theorem d_MTo_chance_62 : decode MTo_chance.2.2.1 62 = .ok (.lstore 4, 2) := by decide +kernel
theorem d_MTo_chance_64 : decode MTo_chance.2.2.1 64 = .ok (.lload 6, 2) := by decide +kernel
theorem d_MTo_chance_66 : decode MTo_chance.2.2.1 66 = .ok (.iload_n 1, 1) := by decide +kernel
theorem d_MTo_chance_67 : decode MTo_chance.2.2.1 67 = .ok (.iload 8, 2) := by decide +kernel
theorem d_MTo_chance_69 : decode MTo_chance.2.2.1 69 = .ok (.isub, 1) := by decide +kernel
theorem d_MTo_chance_70 : decode MTo_chance.2.2.1 70 = .ok (.i2l, 1) := by decide +kernel
theorem d_MTo_chance_71 : decode MTo_chance.2.2.1 71 = .ok (.lmul, 1) := by decide +kernel
theorem d_MTo_chance_72 : decode MTo_chance.2.2.1 72 = .ok (.iload 8, 2) := by decide +kernel
theorem d_MTo_chance_74 : decode MTo_chance.2.2.1 74 = .ok (.iconst 1, 1) := by decide +kernel
theorem d_MTo_chance_75 : decode MTo_chance.2.2.1 75 = .ok (.iadd, 1) := by decide +kernel
theorem d_MTo_chance_76 : decode MTo_chance.2.2.1 76 = .ok (.i2l, 1) := by decide +kernel
theorem d_MTo_chance_77 : decode MTo_chance.2.2.1 77 = .ok (.ldiv, 1) := by decide +kernel
theorem d_MTo_chance_78 : decode MTo_chance.2.2.1 78 = .ok (.lstore 6, 2) := by decide +kernel
theorem d_MTo_chance_80 : decode MTo_chance.2.2.1 80 = .ok (.iinc 8 1, 3) := by decide +kernel
theorem d_MTo_chance_83 : decode MTo_chance.2.2.1 83 = .ok (.goto (-45), 3) := by decide +kernel
theorem d_MTo_chance_86 : decode MTo_chance.2.2.1 86 = .ok (.lload 4, 2) := by decide +kernel
theorem d_MTo_chance_88 : decode MTo_chance.2.2.1 88 = .ok (.ldc2_w 235, 3) := by decide +kernel
theorem d_MTo_chance_91 : decode MTo_chance.2.2.1 91 = .ok (.lmul, 1) := by decide +kernel
theorem d_MTo_chance_92 : decode MTo_chance.2.2.1 92 = .ok (.lconst 1, 1) := by decide +kernel
theorem d_MTo_chance_93 : decode MTo_chance.2.2.1 93 = .ok (.iload_n 1, 1) := by decide +kernel
theorem d_MTo_chance_94 : decode MTo_chance.2.2.1 94 = .ok (.lshl, 1) := by decide +kernel
theorem d_MTo_chance_95 : decode MTo_chance.2.2.1 95 = .ok (.ldiv, 1) := by decide +kernel
theorem d_MTo_chance_96 : decode MTo_chance.2.2.1 96 = .ok (.l2i, 1) := by decide +kernel
theorem d_MTo_chance_97 : decode MTo_chance.2.2.1 97 = .ok (.ireturn, 1) := by decide +kernel
theorem r_MTo_chance_0 {l0 l2 l3 l4 l5 l6 l7 l8 : Value} {x : Int32} : Rr X d MTo_chance 0 [l0, .int x, l2, l3, l4, l5, l6, l7, l8] st h = Rr X d MTo_chance 1 [l0, .int x, l2, l3, l4, l5, l6, l7, l8] (.int x :: st) h := Rr_nx d_MTo_chance_0 rfl
theorem r_MTo_chance_1 : Rr X d MTo_chance 1 L st h = Rr X d MTo_chance 2 L (.int (1) :: st) h := Rr_nx d_MTo_chance_1 rfl
theorem r_MTo_chance_2 : Rr X d MTo_chance 2 L st h = Rr X d MTo_chance 4 L (.int (40) :: st) h := Rr_nx d_MTo_chance_2 rfl
theorem r_MTo_chance_4 {y0 : Int32} {y1 : Int32} {y2 : Int32} (hc : ckS st = true) : Rr X (d + 1) MTo_chance 4 L (.int y2 :: .int y1 :: .int y0 :: st) h = (Rr X d MTo_isWithin 0 [.int y0, .int y1, .int y2] [] h).bind fun q => Rr X (d + 1) MTo_chance 7 L (psh q.1 st) q.2 := R_is (av := [.int y2, .int y1, .int y0]) d_MTo_chance_4 (Or.inl fc_9_72) (ckS_le hc) rfl (Nat.le_of_ble_eq_true rfl) (Nat.le_of_ble_eq_true rfl)
theorem r_MTo_chance_7 {x : Int32} : Rr X d MTo_chance 7 L (.int x :: st) h = if x = 0 then Rr X d MTo_chance 19 L st h else Rr X d MTo_chance 10 L st h := R_if_eq d_MTo_chance_7 (by decide)
theorem r_MTo_chance_10 {l0 l1 l3 l4 l5 l6 l7 l8 : Value} {x : Int32} : Rr X d MTo_chance 10 [l0, l1, .int x, l3, l4, l5, l6, l7, l8] st h = Rr X d MTo_chance 11 [l0, l1, .int x, l3, l4, l5, l6, l7, l8] (.int x :: st) h := Rr_nx d_MTo_chance_10 rfl
theorem r_MTo_chance_11 : Rr X d MTo_chance 11 L st h = Rr X d MTo_chance 12 L (.int (0) :: st) h := Rr_nx d_MTo_chance_11 rfl
theorem r_MTo_chance_12 {l0 l2 l3 l4 l5 l6 l7 l8 : Value} {x : Int32} : Rr X d MTo_chance 12 [l0, .int x, l2, l3, l4, l5, l6, l7, l8] st h = Rr X d MTo_chance 13 [l0, .int x, l2, l3, l4, l5, l6, l7, l8] (.int x :: st) h := Rr_nx d_MTo_chance_12 rfl
theorem r_MTo_chance_13 {y0 : Int32} {y1 : Int32} {y2 : Int32} (hc : ckS st = true) : Rr X (d + 1) MTo_chance 13 L (.int y2 :: .int y1 :: .int y0 :: st) h = (Rr X d MTo_isWithin 0 [.int y0, .int y1, .int y2] [] h).bind fun q => Rr X (d + 1) MTo_chance 16 L (psh q.1 st) q.2 := R_is (av := [.int y2, .int y1, .int y0]) d_MTo_chance_13 (Or.inl fc_9_72) (ckS_le hc) rfl (Nat.le_of_ble_eq_true rfl) (Nat.le_of_ble_eq_true rfl)
theorem r_MTo_chance_16 {x : Int32} : Rr X d MTo_chance 16 L (.int x :: st) h = if ¬ x = 0 then Rr X d MTo_chance 21 L st h else Rr X d MTo_chance 19 L st h := R_if_ne d_MTo_chance_16 (by decide)
theorem r_MTo_chance_19 : Rr X d MTo_chance 19 L st h = Rr X d MTo_chance 20 L (.int (-1) :: st) h := Rr_nx d_MTo_chance_19 rfl
theorem r_MTo_chance_20 {x : Int32} : Rr X d MTo_chance 20 L [.int x] h = some (some (.int x), h) := R_ir d_MTo_chance_20 rfl
theorem r_MTo_chance_21 {l0 l1 l3 l4 l5 l6 l7 l8 : Value} {x : Int32} : Rr X d MTo_chance 21 [l0, l1, .int x, l3, l4, l5, l6, l7, l8] st h = Rr X d MTo_chance 22 [l0, l1, .int x, l3, l4, l5, l6, l7, l8] (.int x :: st) h := Rr_nx d_MTo_chance_21 rfl
theorem r_MTo_chance_22 {l0 l2 l3 l4 l5 l6 l7 l8 : Value} {x : Int32} : Rr X d MTo_chance 22 [l0, .int x, l2, l3, l4, l5, l6, l7, l8] st h = Rr X d MTo_chance 23 [l0, .int x, l2, l3, l4, l5, l6, l7, l8] (.int x :: st) h := Rr_nx d_MTo_chance_22 rfl
theorem r_MTo_chance_23 {l0 l1 l3 l4 l5 l6 l7 l8 : Value} {x : Int32} : Rr X d MTo_chance 23 [l0, l1, .int x, l3, l4, l5, l6, l7, l8] st h = Rr X d MTo_chance 24 [l0, l1, .int x, l3, l4, l5, l6, l7, l8] (.int x :: st) h := Rr_nx d_MTo_chance_23 rfl
theorem r_MTo_chance_24 {x y : Int32} : Rr X d MTo_chance 24 L (.int y :: .int x :: st) h = Rr X d MTo_chance 25 L (.int (x - y) :: st) h := Rr_nx d_MTo_chance_24 rfl
theorem fc_9_230 : fC 9 230 = some (6, 0, 0, mI 0) := rfl
theorem r_MTo_chance_25 {x y : Int32} (hc : ckS st = true) : Rr X (d + 1) MTo_chance 25 L (.int y :: .int x :: st) h = Rr X (d + 1) MTo_chance 28 L (.int (if x < y then y else x) :: st) h := R_max d_MTo_chance_25 fc_9_230 (ckS_le hc)
theorem r_MTo_chance_28 {l0 l1 l2 l3 l4 l5 l6 l7 l8 : Value} {x : Int32} : Rr X d MTo_chance 28 [l0, l1, l2, l3, l4, l5, l6, l7, l8] (.int x :: st) h = Rr X d MTo_chance 29 (sL [l0, l1, l2, l3, l4, l5, l6, l7, l8] 3 (.int x)) st h := Rr_nx d_MTo_chance_28 rfl
theorem r_MTo_chance_29 : Rr X d MTo_chance 29 L st h = Rr X d MTo_chance 30 L (.long 0 :: st) h := Rr_nx d_MTo_chance_29 rfl
theorem r_MTo_chance_30 {l0 l1 l2 l3 l4 l5 l6 l7 l8 : Value} {x : Int64} : Rr X d MTo_chance 30 [l0, l1, l2, l3, l4, l5, l6, l7, l8] (.long x :: st) h = Rr X d MTo_chance 32 ((sL [l0, l1, l2, l3, l4, l5, l6, l7, l8] 4 (.long x)).set 5 mkU) st h := Rr_nx d_MTo_chance_30 rfl
theorem r_MTo_chance_32 : Rr X d MTo_chance 32 L st h = Rr X d MTo_chance 33 L (.long 1 :: st) h := Rr_nx d_MTo_chance_32 rfl
theorem r_MTo_chance_33 {l0 l1 l2 l3 l4 l5 l6 l7 l8 : Value} {x : Int64} : Rr X d MTo_chance 33 [l0, l1, l2, l3, l4, l5, l6, l7, l8] (.long x :: st) h = Rr X d MTo_chance 35 ((sL [l0, l1, l2, l3, l4, l5, l6, l7, l8] 6 (.long x)).set 7 mkU) st h := Rr_nx d_MTo_chance_33 rfl
theorem r_MTo_chance_35 : Rr X d MTo_chance 35 L st h = Rr X d MTo_chance 36 L (.int (0) :: st) h := Rr_nx d_MTo_chance_35 rfl
theorem r_MTo_chance_36 {l0 l1 l2 l3 l4 l5 l6 l7 l8 : Value} {x : Int32} : Rr X d MTo_chance 36 [l0, l1, l2, l3, l4, l5, l6, l7, l8] (.int x :: st) h = Rr X d MTo_chance 38 (sL [l0, l1, l2, l3, l4, l5, l6, l7, l8] 8 (.int x)) st h := Rr_nx d_MTo_chance_36 rfl
theorem r_MTo_chance_38 {l0 l1 l2 l3 l4 l5 l6 l7 : Value} {x : Int32} : Rr X d MTo_chance 38 [l0, l1, l2, l3, l4, l5, l6, l7, .int x] st h = Rr X d MTo_chance 40 [l0, l1, l2, l3, l4, l5, l6, l7, .int x] (.int x :: st) h := Rr_nx d_MTo_chance_38 rfl
theorem r_MTo_chance_40 {l0 l2 l3 l4 l5 l6 l7 l8 : Value} {x : Int32} : Rr X d MTo_chance 40 [l0, .int x, l2, l3, l4, l5, l6, l7, l8] st h = Rr X d MTo_chance 41 [l0, .int x, l2, l3, l4, l5, l6, l7, l8] (.int x :: st) h := Rr_nx d_MTo_chance_40 rfl
theorem r_MTo_chance_41 {x y : Int32} : Rr X d MTo_chance 41 L (.int y :: .int x :: st) h = if y < x then Rr X d MTo_chance 86 L st h else Rr X d MTo_chance 44 L st h := R_ic_gt d_MTo_chance_41 (by decide)
theorem r_MTo_chance_44 {l0 l1 l2 l3 l4 l5 l6 l7 : Value} {x : Int32} : Rr X d MTo_chance 44 [l0, l1, l2, l3, l4, l5, l6, l7, .int x] st h = Rr X d MTo_chance 46 [l0, l1, l2, l3, l4, l5, l6, l7, .int x] (.int x :: st) h := Rr_nx d_MTo_chance_44 rfl
theorem r_MTo_chance_46 {l0 l2 l3 l4 l5 l6 l7 l8 : Value} {x : Int32} : Rr X d MTo_chance 46 [l0, .int x, l2, l3, l4, l5, l6, l7, l8] st h = Rr X d MTo_chance 47 [l0, .int x, l2, l3, l4, l5, l6, l7, l8] (.int x :: st) h := Rr_nx d_MTo_chance_46 rfl
theorem r_MTo_chance_47 {l0 l1 l2 l3 l4 l5 l6 l7 : Value} {x : Int32} : Rr X d MTo_chance 47 [l0, l1, l2, l3, l4, l5, l6, l7, .int x] st h = Rr X d MTo_chance 49 [l0, l1, l2, l3, l4, l5, l6, l7, .int x] (.int x :: st) h := Rr_nx d_MTo_chance_47 rfl
theorem r_MTo_chance_49 {x y : Int32} : Rr X d MTo_chance 49 L (.int y :: .int x :: st) h = Rr X d MTo_chance 50 L (.int (x - y) :: st) h := Rr_nx d_MTo_chance_49 rfl
theorem r_MTo_chance_50 {x y : Int32} (hc : ckS st = true) : Rr X (d + 1) MTo_chance 50 L (.int y :: .int x :: st) h = Rr X (d + 1) MTo_chance 53 L (.int (if x < y then y else x) :: st) h := R_max d_MTo_chance_50 fc_9_230 (ckS_le hc)
theorem r_MTo_chance_53 {l0 l1 l2 l4 l5 l6 l7 l8 : Value} {x : Int32} : Rr X d MTo_chance 53 [l0, l1, l2, .int x, l4, l5, l6, l7, l8] st h = Rr X d MTo_chance 54 [l0, l1, l2, .int x, l4, l5, l6, l7, l8] (.int x :: st) h := Rr_nx d_MTo_chance_53 rfl
theorem r_MTo_chance_54 {x y : Int32} : Rr X d MTo_chance 54 L (.int y :: .int x :: st) h = if x < y then Rr X d MTo_chance 64 L st h else Rr X d MTo_chance 57 L st h := R_ic_lt d_MTo_chance_54 (by decide)
theorem r_MTo_chance_57 {l0 l1 l2 l3 l5 l6 l7 l8 : Value} {x : Int64} : Rr X d MTo_chance 57 [l0, l1, l2, l3, .long x, l5, l6, l7, l8] st h = Rr X d MTo_chance 59 [l0, l1, l2, l3, .long x, l5, l6, l7, l8] (.long x :: st) h := Rr_nx d_MTo_chance_57 rfl
theorem r_MTo_chance_59 {l0 l1 l2 l3 l4 l5 l7 l8 : Value} {x : Int64} : Rr X d MTo_chance 59 [l0, l1, l2, l3, l4, l5, .long x, l7, l8] st h = Rr X d MTo_chance 61 [l0, l1, l2, l3, l4, l5, .long x, l7, l8] (.long x :: st) h := Rr_nx d_MTo_chance_59 rfl
theorem r_MTo_chance_61 {x y : Int64} : Rr X d MTo_chance 61 L (.long y :: .long x :: st) h = Rr X d MTo_chance 62 L (.long (x + y) :: st) h := Rr_nx d_MTo_chance_61 rfl
theorem r_MTo_chance_62 {l0 l1 l2 l3 l4 l5 l6 l7 l8 : Value} {x : Int64} : Rr X d MTo_chance 62 [l0, l1, l2, l3, l4, l5, l6, l7, l8] (.long x :: st) h = Rr X d MTo_chance 64 ((sL [l0, l1, l2, l3, l4, l5, l6, l7, l8] 4 (.long x)).set 5 mkU) st h := Rr_nx d_MTo_chance_62 rfl
theorem r_MTo_chance_64 {l0 l1 l2 l3 l4 l5 l7 l8 : Value} {x : Int64} : Rr X d MTo_chance 64 [l0, l1, l2, l3, l4, l5, .long x, l7, l8] st h = Rr X d MTo_chance 66 [l0, l1, l2, l3, l4, l5, .long x, l7, l8] (.long x :: st) h := Rr_nx d_MTo_chance_64 rfl
theorem r_MTo_chance_66 {l0 l2 l3 l4 l5 l6 l7 l8 : Value} {x : Int32} : Rr X d MTo_chance 66 [l0, .int x, l2, l3, l4, l5, l6, l7, l8] st h = Rr X d MTo_chance 67 [l0, .int x, l2, l3, l4, l5, l6, l7, l8] (.int x :: st) h := Rr_nx d_MTo_chance_66 rfl
theorem r_MTo_chance_67 {l0 l1 l2 l3 l4 l5 l6 l7 : Value} {x : Int32} : Rr X d MTo_chance 67 [l0, l1, l2, l3, l4, l5, l6, l7, .int x] st h = Rr X d MTo_chance 69 [l0, l1, l2, l3, l4, l5, l6, l7, .int x] (.int x :: st) h := Rr_nx d_MTo_chance_67 rfl
theorem r_MTo_chance_69 {x y : Int32} : Rr X d MTo_chance 69 L (.int y :: .int x :: st) h = Rr X d MTo_chance 70 L (.int (x - y) :: st) h := Rr_nx d_MTo_chance_69 rfl
theorem r_MTo_chance_70 {x : Int32} : Rr X d MTo_chance 70 L (.int x :: st) h = Rr X d MTo_chance 71 L (.long x.toInt64 :: st) h := Rr_nx d_MTo_chance_70 rfl
theorem r_MTo_chance_71 {x y : Int64} : Rr X d MTo_chance 71 L (.long y :: .long x :: st) h = Rr X d MTo_chance 72 L (.long (x * y) :: st) h := Rr_nx d_MTo_chance_71 rfl
theorem r_MTo_chance_72 {l0 l1 l2 l3 l4 l5 l6 l7 : Value} {x : Int32} : Rr X d MTo_chance 72 [l0, l1, l2, l3, l4, l5, l6, l7, .int x] st h = Rr X d MTo_chance 74 [l0, l1, l2, l3, l4, l5, l6, l7, .int x] (.int x :: st) h := Rr_nx d_MTo_chance_72 rfl
theorem r_MTo_chance_74 : Rr X d MTo_chance 74 L st h = Rr X d MTo_chance 75 L (.int (1) :: st) h := Rr_nx d_MTo_chance_74 rfl
theorem r_MTo_chance_75 {x y : Int32} : Rr X d MTo_chance 75 L (.int y :: .int x :: st) h = Rr X d MTo_chance 76 L (.int (x + y) :: st) h := Rr_nx d_MTo_chance_75 rfl
theorem r_MTo_chance_76 {x : Int32} : Rr X d MTo_chance 76 L (.int x :: st) h = Rr X d MTo_chance 77 L (.long x.toInt64 :: st) h := Rr_nx d_MTo_chance_76 rfl
theorem r_MTo_chance_77 {x y : Int64} : Rr X d MTo_chance 77 L (.long y :: .long x :: st) h = if y = 0 then none else Rr X d MTo_chance 78 L (.long (x / y) :: st) h := R_ldv d_MTo_chance_77
theorem r_MTo_chance_78 {l0 l1 l2 l3 l4 l5 l6 l7 l8 : Value} {x : Int64} : Rr X d MTo_chance 78 [l0, l1, l2, l3, l4, l5, l6, l7, l8] (.long x :: st) h = Rr X d MTo_chance 80 ((sL [l0, l1, l2, l3, l4, l5, l6, l7, l8] 6 (.long x)).set 7 mkU) st h := Rr_nx d_MTo_chance_78 rfl
theorem r_MTo_chance_80 {l0 l1 l2 l3 l4 l5 l6 l7 : Value} {x : Int32} : Rr X d MTo_chance 80 [l0, l1, l2, l3, l4, l5, l6, l7, .int x] st h = Rr X d MTo_chance 83 (sL [l0, l1, l2, l3, l4, l5, l6, l7, .int x] 8 (.int (x + (1)))) st h := Rr_nx d_MTo_chance_80 rfl
theorem r_MTo_chance_83 : Rr X d MTo_chance 83 L st h = Rr X d MTo_chance 38 L st h := R_goto d_MTo_chance_83 (by decide)
theorem r_MTo_chance_86 {l0 l1 l2 l3 l5 l6 l7 l8 : Value} {x : Int64} : Rr X d MTo_chance 86 [l0, l1, l2, l3, .long x, l5, l6, l7, l8] st h = Rr X d MTo_chance 88 [l0, l1, l2, l3, .long x, l5, l6, l7, l8] (.long x :: st) h := Rr_nx d_MTo_chance_86 rfl
theorem r_MTo_chance_88 : Rr X d MTo_chance 88 L st h = Rr X d MTo_chance 91 L (.long (1000) :: st) h := Rr_nx d_MTo_chance_88 rfl
theorem r_MTo_chance_91 {x y : Int64} : Rr X d MTo_chance 91 L (.long y :: .long x :: st) h = Rr X d MTo_chance 92 L (.long (x * y) :: st) h := Rr_nx d_MTo_chance_91 rfl
theorem r_MTo_chance_92 : Rr X d MTo_chance 92 L st h = Rr X d MTo_chance 93 L (.long 1 :: st) h := Rr_nx d_MTo_chance_92 rfl
theorem r_MTo_chance_93 {l0 l2 l3 l4 l5 l6 l7 l8 : Value} {x : Int32} : Rr X d MTo_chance 93 [l0, .int x, l2, l3, l4, l5, l6, l7, l8] st h = Rr X d MTo_chance 94 [l0, .int x, l2, l3, l4, l5, l6, l7, l8] (.int x :: st) h := Rr_nx d_MTo_chance_93 rfl
theorem r_MTo_chance_94 {x : Int64} {y : Int32} : Rr X d MTo_chance 94 L (.int y :: .long x :: st) h = Rr X d MTo_chance 95 L (.long (x <<< (y.toInt64 &&& 63)) :: st) h := Rr_nx d_MTo_chance_94 rfl
theorem r_MTo_chance_95 {x y : Int64} : Rr X d MTo_chance 95 L (.long y :: .long x :: st) h = if y = 0 then none else Rr X d MTo_chance 96 L (.long (x / y) :: st) h := R_ldv d_MTo_chance_95
theorem r_MTo_chance_96 {x : Int64} : Rr X d MTo_chance 96 L (.long x :: st) h = Rr X d MTo_chance 97 L (.int x.toInt32 :: st) h := Rr_nx d_MTo_chance_96 rfl
theorem r_MTo_chance_97 {x : Int32} : Rr X d MTo_chance 97 L [.int x] h = some (some (.int x), h) := R_ir d_MTo_chance_97 rfl
theorem d_MTo_undo_0 : decode MTo_undo.2.2.1 0 = .ok (.aload_n 0, 1) := by decide +kernel
theorem d_MTo_undo_1 : decode MTo_undo.2.2.1 1 = .ok (.getfield 58, 3) := by decide +kernel
theorem d_MTo_undo_4 : decode MTo_undo.2.2.1 4 = .ok (.getfield 237, 3) := by decide +kernel
theorem d_MTo_undo_7 : decode MTo_undo.2.2.1 7 = .ok (.ifCond .ne 6, 3) := by decide +kernel
theorem d_MTo_undo_10 : decode MTo_undo.2.2.1 10 = .ok (.bipush (-5), 2) := by decide +kernel
theorem d_MTo_undo_12 : decode MTo_undo.2.2.1 12 = .ok (.ireturn, 1) := by decide +kernel
theorem d_MTo_undo_13 : decode MTo_undo.2.2.1 13 = .ok (.aload_n 0, 1) := by decide +kernel
theorem d_MTo_undo_14 : decode MTo_undo.2.2.1 14 = .ok (.getfield 58, 3) := by decide +kernel
theorem d_MTo_undo_17 : decode MTo_undo.2.2.1 17 = .ok (.dup, 1) := by decide +kernel
theorem d_MTo_undo_18 : decode MTo_undo.2.2.1 18 = .ok (.getfield 237, 3) := by decide +kernel
theorem d_MTo_undo_21 : decode MTo_undo.2.2.1 21 = .ok (.iconst 1, 1) := by decide +kernel
theorem d_MTo_undo_22 : decode MTo_undo.2.2.1 22 = .ok (.isub, 1) := by decide +kernel
theorem d_MTo_undo_23 : decode MTo_undo.2.2.1 23 = .ok (.putfield 237, 3) := by decide +kernel
theorem d_MTo_undo_26 : decode MTo_undo.2.2.1 26 = .ok (.aload_n 0, 1) := by decide +kernel
theorem d_MTo_undo_27 : decode MTo_undo.2.2.1 27 = .ok (.iconst 2, 1) := by decide +kernel
theorem d_MTo_undo_28 : decode MTo_undo.2.2.1 28 = .ok (.invokevirtual 240, 3) := by decide +kernel
theorem d_MTo_undo_31 : decode MTo_undo.2.2.1 31 = .ok (.aload_n 0, 1) := by decide +kernel
theorem d_MTo_undo_32 : decode MTo_undo.2.2.1 32 = .ok (.getfield 58, 3) := by decide +kernel
theorem d_MTo_undo_35 : decode MTo_undo.2.2.1 35 = .ok (.getfield 237, 3) := by decide +kernel
theorem d_MTo_undo_38 : decode MTo_undo.2.2.1 38 = .ok (.ireturn, 1) := by decide +kernel
theorem r_MTo_undo_0 {x : Nat} : Rr X d MTo_undo 0 [.ref x] st h = Rr X d MTo_undo 1 [.ref x] (.ref x :: st) h := Rr_nx d_MTo_undo_0 rfl
theorem r_MTo_undo_1 {a : Nat} (hq : (qR a 9 7).isSome = true) : Rr X d MTo_undo 1 L (.ref a :: st) (Wd mu la ro et) = Rr X d MTo_undo 4 L (.ref (qRd a 9 7) :: st) (Wd mu la ro et) := R_gfR d_MTo_undo_1 ff_9_58 hq
theorem ff_9_237 : fF 9 237 = some (1, 1, 0, 0) := rfl
theorem r_MTo_undo_4 {a : Nat} (hq : qI a 1 1 = true) : Rr X d MTo_undo 4 L (.ref a :: st) (Wd mu la ro et) = Rr X d MTo_undo 7 L (.int (mu a 1) :: st) (Wd mu la ro et) := R_gfI d_MTo_undo_4 ff_9_237 hq
theorem r_MTo_undo_7 {x : Int32} : Rr X d MTo_undo 7 L (.int x :: st) h = if ¬ x = 0 then Rr X d MTo_undo 13 L st h else Rr X d MTo_undo 10 L st h := R_if_ne d_MTo_undo_7 (by decide)
theorem r_MTo_undo_10 : Rr X d MTo_undo 10 L st h = Rr X d MTo_undo 12 L (.int (-5) :: st) h := Rr_nx d_MTo_undo_10 rfl
theorem r_MTo_undo_12 {x : Int32} : Rr X d MTo_undo 12 L [.int x] h = some (some (.int x), h) := R_ir d_MTo_undo_12 rfl
theorem r_MTo_undo_13 {x : Nat} : Rr X d MTo_undo 13 [.ref x] st h = Rr X d MTo_undo 14 [.ref x] (.ref x :: st) h := Rr_nx d_MTo_undo_13 rfl
theorem r_MTo_undo_14 {a : Nat} (hq : (qR a 9 7).isSome = true) : Rr X d MTo_undo 14 L (.ref a :: st) (Wd mu la ro et) = Rr X d MTo_undo 17 L (.ref (qRd a 9 7) :: st) (Wd mu la ro et) := R_gfR d_MTo_undo_14 ff_9_58 hq
theorem r_MTo_undo_17 {x : Nat} : Rr X d MTo_undo 17 L (.ref x :: st) h = Rr X d MTo_undo 18 L (.ref x :: .ref x :: st) h := Rr_nx d_MTo_undo_17 rfl
theorem r_MTo_undo_17i {x : Int32} : Rr X d MTo_undo 17 L (.int x :: st) h = Rr X d MTo_undo 18 L (.int x :: .int x :: st) h := Rr_nx d_MTo_undo_17 rfl
theorem r_MTo_undo_18 {a : Nat} (hq : qI a 1 1 = true) : Rr X d MTo_undo 18 L (.ref a :: st) (Wd mu la ro et) = Rr X d MTo_undo 21 L (.int (mu a 1) :: st) (Wd mu la ro et) := R_gfI d_MTo_undo_18 ff_9_237 hq
theorem r_MTo_undo_21 : Rr X d MTo_undo 21 L st h = Rr X d MTo_undo 22 L (.int (1) :: st) h := Rr_nx d_MTo_undo_21 rfl
theorem r_MTo_undo_22 {x y : Int32} : Rr X d MTo_undo 22 L (.int y :: .int x :: st) h = Rr X d MTo_undo 23 L (.int (x - y) :: st) h := Rr_nx d_MTo_undo_22 rfl
theorem r_MTo_undo_23 {a : Nat} {x : Int32} (hq : qI a 1 1 = true) : Rr X d MTo_undo 23 L (.int x :: .ref a :: st) (Wd mu la ro et) = Rr X d MTo_undo 26 L st (Wd (up2 mu a 1 x) la ro et) := R_pfI d_MTo_undo_23 ff_9_237 hq
theorem r_MTo_undo_26 {x : Nat} : Rr X d MTo_undo 26 [.ref x] st h = Rr X d MTo_undo 27 [.ref x] (.ref x :: st) h := Rr_nx d_MTo_undo_26 rfl
theorem r_MTo_undo_27 : Rr X d MTo_undo 27 L st h = Rr X d MTo_undo 28 L (.int (2) :: st) h := Rr_nx d_MTo_undo_27 rfl
theorem fc_9_240 : fC 9 240 = some (0, 9, 1, MTo_changeTo) := rfl
theorem r_MTo_undo_28 {y0 : Int32} {a : Nat} (hO : qO a 9 = true) (hc : ckS st = true) : Rr X (d + 1) MTo_undo 28 L (.int y0 :: .ref a :: st) (Wd mu la ro et) = (Rr X d MTo_changeTo 0 [.ref a, .int y0, mkU] [] (Wd mu la ro et)).bind fun q => Rr X (d + 1) MTo_undo 31 L (psh q.1 st) q.2 := R_iv (av := [.int y0]) d_MTo_undo_28 fc_9_240 hO (ckS_le hc) rfl (Nat.le_of_ble_eq_true rfl) (Nat.le_of_ble_eq_true rfl)
theorem r_MTo_undo_31 {x : Nat} : Rr X d MTo_undo 31 [.ref x] st h = Rr X d MTo_undo 32 [.ref x] (.ref x :: st) h := Rr_nx d_MTo_undo_31 rfl
theorem r_MTo_undo_32 {a : Nat} (hq : (qR a 9 7).isSome = true) : Rr X d MTo_undo 32 L (.ref a :: st) (Wd mu la ro et) = Rr X d MTo_undo 35 L (.ref (qRd a 9 7) :: st) (Wd mu la ro et) := R_gfR d_MTo_undo_32 ff_9_58 hq
theorem r_MTo_undo_35 {a : Nat} (hq : qI a 1 1 = true) : Rr X d MTo_undo 35 L (.ref a :: st) (Wd mu la ro et) = Rr X d MTo_undo 38 L (.int (mu a 1) :: st) (Wd mu la ro et) := R_gfI d_MTo_undo_35 ff_9_237 hq
theorem r_MTo_undo_38 {x : Int32} : Rr X d MTo_undo 38 L [.int x] h = some (some (.int x), h) := R_ir d_MTo_undo_38 rfl
theorem d_MTo_redo_0 : decode MTo_redo.2.2.1 0 = .ok (.aload_n 0, 1) := by decide +kernel
theorem d_MTo_redo_1 : decode MTo_redo.2.2.1 1 = .ok (.getfield 58, 3) := by decide +kernel
theorem d_MTo_redo_4 : decode MTo_redo.2.2.1 4 = .ok (.getfield 237, 3) := by decide +kernel
theorem d_MTo_redo_7 : decode MTo_redo.2.2.1 7 = .ok (.aload_n 0, 1) := by decide +kernel
theorem d_MTo_redo_8 : decode MTo_redo.2.2.1 8 = .ok (.getfield 58, 3) := by decide +kernel
theorem d_MTo_redo_11 : decode MTo_redo.2.2.1 11 = .ok (.getfield 243, 3) := by decide +kernel
theorem d_MTo_redo_14 : decode MTo_redo.2.2.1 14 = .ok (.if_icmp .ne 6, 3) := by decide +kernel
theorem d_MTo_redo_17 : decode MTo_redo.2.2.1 17 = .ok (.bipush (-5), 2) := by decide +kernel
theorem d_MTo_redo_19 : decode MTo_redo.2.2.1 19 = .ok (.ireturn, 1) := by decide +kernel
theorem d_MTo_redo_20 : decode MTo_redo.2.2.1 20 = .ok (.aload_n 0, 1) := by decide +kernel
theorem d_MTo_redo_21 : decode MTo_redo.2.2.1 21 = .ok (.iconst 3, 1) := by decide +kernel
theorem d_MTo_redo_22 : decode MTo_redo.2.2.1 22 = .ok (.invokevirtual 240, 3) := by decide +kernel
theorem d_MTo_redo_25 : decode MTo_redo.2.2.1 25 = .ok (.aload_n 0, 1) := by decide +kernel
theorem d_MTo_redo_26 : decode MTo_redo.2.2.1 26 = .ok (.getfield 58, 3) := by decide +kernel
theorem d_MTo_redo_29 : decode MTo_redo.2.2.1 29 = .ok (.dup, 1) := by decide +kernel
theorem d_MTo_redo_30 : decode MTo_redo.2.2.1 30 = .ok (.getfield 237, 3) := by decide +kernel
theorem d_MTo_redo_33 : decode MTo_redo.2.2.1 33 = .ok (.iconst 1, 1) := by decide +kernel
theorem d_MTo_redo_34 : decode MTo_redo.2.2.1 34 = .ok (.iadd, 1) := by decide +kernel
theorem d_MTo_redo_35 : decode MTo_redo.2.2.1 35 = .ok (.putfield 237, 3) := by decide +kernel
theorem d_MTo_redo_38 : decode MTo_redo.2.2.1 38 = .ok (.aload_n 0, 1) := by decide +kernel
theorem d_MTo_redo_39 : decode MTo_redo.2.2.1 39 = .ok (.getfield 58, 3) := by decide +kernel
theorem d_MTo_redo_42 : decode MTo_redo.2.2.1 42 = .ok (.getfield 243, 3) := by decide +kernel
theorem d_MTo_redo_45 : decode MTo_redo.2.2.1 45 = .ok (.aload_n 0, 1) := by decide +kernel
theorem d_MTo_redo_46 : decode MTo_redo.2.2.1 46 = .ok (.getfield 58, 3) := by decide +kernel
theorem d_MTo_redo_49 : decode MTo_redo.2.2.1 49 = .ok (.getfield 237, 3) := by decide +kernel
theorem d_MTo_redo_52 : decode MTo_redo.2.2.1 52 = .ok (.isub, 1) := by decide +kernel
theorem d_MTo_redo_53 : decode MTo_redo.2.2.1 53 = .ok (.ireturn, 1) := by decide +kernel
theorem r_MTo_redo_0 {x : Nat} : Rr X d MTo_redo 0 [.ref x] st h = Rr X d MTo_redo 1 [.ref x] (.ref x :: st) h := Rr_nx d_MTo_redo_0 rfl
theorem r_MTo_redo_1 {a : Nat} (hq : (qR a 9 7).isSome = true) : Rr X d MTo_redo 1 L (.ref a :: st) (Wd mu la ro et) = Rr X d MTo_redo 4 L (.ref (qRd a 9 7) :: st) (Wd mu la ro et) := R_gfR d_MTo_redo_1 ff_9_58 hq
theorem r_MTo_redo_4 {a : Nat} (hq : qI a 1 1 = true) : Rr X d MTo_redo 4 L (.ref a :: st) (Wd mu la ro et) = Rr X d MTo_redo 7 L (.int (mu a 1) :: st) (Wd mu la ro et) := R_gfI d_MTo_redo_4 ff_9_237 hq
theorem r_MTo_redo_7 {x : Nat} : Rr X d MTo_redo 7 [.ref x] st h = Rr X d MTo_redo 8 [.ref x] (.ref x :: st) h := Rr_nx d_MTo_redo_7 rfl
theorem r_MTo_redo_8 {a : Nat} (hq : (qR a 9 7).isSome = true) : Rr X d MTo_redo 8 L (.ref a :: st) (Wd mu la ro et) = Rr X d MTo_redo 11 L (.ref (qRd a 9 7) :: st) (Wd mu la ro et) := R_gfR d_MTo_redo_8 ff_9_58 hq
theorem ff_9_243 : fF 9 243 = some (1, 2, 0, 0) := rfl
theorem r_MTo_redo_11 {a : Nat} (hq : qI a 1 2 = true) : Rr X d MTo_redo 11 L (.ref a :: st) (Wd mu la ro et) = Rr X d MTo_redo 14 L (.int (mu a 2) :: st) (Wd mu la ro et) := R_gfI d_MTo_redo_11 ff_9_243 hq
theorem r_MTo_redo_14 {x y : Int32} : Rr X d MTo_redo 14 L (.int y :: .int x :: st) h = if ¬ x = y then Rr X d MTo_redo 20 L st h else Rr X d MTo_redo 17 L st h := R_ic_ne d_MTo_redo_14 (by decide)
theorem r_MTo_redo_17 : Rr X d MTo_redo 17 L st h = Rr X d MTo_redo 19 L (.int (-5) :: st) h := Rr_nx d_MTo_redo_17 rfl
theorem r_MTo_redo_19 {x : Int32} : Rr X d MTo_redo 19 L [.int x] h = some (some (.int x), h) := R_ir d_MTo_redo_19 rfl
theorem r_MTo_redo_20 {x : Nat} : Rr X d MTo_redo 20 [.ref x] st h = Rr X d MTo_redo 21 [.ref x] (.ref x :: st) h := Rr_nx d_MTo_redo_20 rfl
theorem r_MTo_redo_21 : Rr X d MTo_redo 21 L st h = Rr X d MTo_redo 22 L (.int (3) :: st) h := Rr_nx d_MTo_redo_21 rfl
theorem r_MTo_redo_22 {y0 : Int32} {a : Nat} (hO : qO a 9 = true) (hc : ckS st = true) : Rr X (d + 1) MTo_redo 22 L (.int y0 :: .ref a :: st) (Wd mu la ro et) = (Rr X d MTo_changeTo 0 [.ref a, .int y0, mkU] [] (Wd mu la ro et)).bind fun q => Rr X (d + 1) MTo_redo 25 L (psh q.1 st) q.2 := R_iv (av := [.int y0]) d_MTo_redo_22 fc_9_240 hO (ckS_le hc) rfl (Nat.le_of_ble_eq_true rfl) (Nat.le_of_ble_eq_true rfl)
theorem r_MTo_redo_25 {x : Nat} : Rr X d MTo_redo 25 [.ref x] st h = Rr X d MTo_redo 26 [.ref x] (.ref x :: st) h := Rr_nx d_MTo_redo_25 rfl
theorem r_MTo_redo_26 {a : Nat} (hq : (qR a 9 7).isSome = true) : Rr X d MTo_redo 26 L (.ref a :: st) (Wd mu la ro et) = Rr X d MTo_redo 29 L (.ref (qRd a 9 7) :: st) (Wd mu la ro et) := R_gfR d_MTo_redo_26 ff_9_58 hq
theorem r_MTo_redo_29 {x : Nat} : Rr X d MTo_redo 29 L (.ref x :: st) h = Rr X d MTo_redo 30 L (.ref x :: .ref x :: st) h := Rr_nx d_MTo_redo_29 rfl
theorem r_MTo_redo_29i {x : Int32} : Rr X d MTo_redo 29 L (.int x :: st) h = Rr X d MTo_redo 30 L (.int x :: .int x :: st) h := Rr_nx d_MTo_redo_29 rfl
theorem r_MTo_redo_30 {a : Nat} (hq : qI a 1 1 = true) : Rr X d MTo_redo 30 L (.ref a :: st) (Wd mu la ro et) = Rr X d MTo_redo 33 L (.int (mu a 1) :: st) (Wd mu la ro et) := R_gfI d_MTo_redo_30 ff_9_237 hq
theorem r_MTo_redo_33 : Rr X d MTo_redo 33 L st h = Rr X d MTo_redo 34 L (.int (1) :: st) h := Rr_nx d_MTo_redo_33 rfl
theorem r_MTo_redo_34 {x y : Int32} : Rr X d MTo_redo 34 L (.int y :: .int x :: st) h = Rr X d MTo_redo 35 L (.int (x + y) :: st) h := Rr_nx d_MTo_redo_34 rfl
theorem r_MTo_redo_35 {a : Nat} {x : Int32} (hq : qI a 1 1 = true) : Rr X d MTo_redo 35 L (.int x :: .ref a :: st) (Wd mu la ro et) = Rr X d MTo_redo 38 L st (Wd (up2 mu a 1 x) la ro et) := R_pfI d_MTo_redo_35 ff_9_237 hq
theorem r_MTo_redo_38 {x : Nat} : Rr X d MTo_redo 38 [.ref x] st h = Rr X d MTo_redo 39 [.ref x] (.ref x :: st) h := Rr_nx d_MTo_redo_38 rfl
theorem r_MTo_redo_39 {a : Nat} (hq : (qR a 9 7).isSome = true) : Rr X d MTo_redo 39 L (.ref a :: st) (Wd mu la ro et) = Rr X d MTo_redo 42 L (.ref (qRd a 9 7) :: st) (Wd mu la ro et) := R_gfR d_MTo_redo_39 ff_9_58 hq
theorem r_MTo_redo_42 {a : Nat} (hq : qI a 1 2 = true) : Rr X d MTo_redo 42 L (.ref a :: st) (Wd mu la ro et) = Rr X d MTo_redo 45 L (.int (mu a 2) :: st) (Wd mu la ro et) := R_gfI d_MTo_redo_42 ff_9_243 hq
theorem r_MTo_redo_45 {x : Nat} : Rr X d MTo_redo 45 [.ref x] st h = Rr X d MTo_redo 46 [.ref x] (.ref x :: st) h := Rr_nx d_MTo_redo_45 rfl
theorem r_MTo_redo_46 {a : Nat} (hq : (qR a 9 7).isSome = true) : Rr X d MTo_redo 46 L (.ref a :: st) (Wd mu la ro et) = Rr X d MTo_redo 49 L (.ref (qRd a 9 7) :: st) (Wd mu la ro et) := R_gfR d_MTo_redo_46 ff_9_58 hq
theorem r_MTo_redo_49 {a : Nat} (hq : qI a 1 1 = true) : Rr X d MTo_redo 49 L (.ref a :: st) (Wd mu la ro et) = Rr X d MTo_redo 52 L (.int (mu a 1) :: st) (Wd mu la ro et) := R_gfI d_MTo_redo_49 ff_9_237 hq
theorem r_MTo_redo_52 {x y : Int32} : Rr X d MTo_redo 52 L (.int y :: .int x :: st) h = Rr X d MTo_redo 53 L (.int (x - y) :: st) h := Rr_nx d_MTo_redo_52 rfl
theorem r_MTo_redo_53 {x : Int32} : Rr X d MTo_redo 53 L [.int x] h = some (some (.int x), h) := R_ir d_MTo_redo_53 rfl
theorem d_MTo_body_0 : decode MTo_body.2.2.1 0 = .ok (.iload_n 1, 1) := by decide +kernel
theorem d_MTo_body_1 : decode MTo_body.2.2.1 1 = .ok (.iconst 0, 1) := by decide +kernel
theorem d_MTo_body_2 : decode MTo_body.2.2.1 2 = .ok (.bipush 7, 2) := by decide +kernel
theorem d_MTo_body_4 : decode MTo_body.2.2.1 4 = .ok (.invokestatic 72, 3) := by decide +kernel
theorem d_MTo_body_7 : decode MTo_body.2.2.1 7 = .ok (.ifCond .ne 5, 3) := by decide +kernel
theorem d_MTo_body_10 : decode MTo_body.2.2.1 10 = .ok (.iconst (-1), 1) := by decide +kernel
theorem d_MTo_body_11 : decode MTo_body.2.2.1 11 = .ok (.ireturn, 1) := by decide +kernel
theorem d_MTo_body_12 : decode MTo_body.2.2.1 12 = .ok (.aload_n 0, 1) := by decide +kernel
theorem d_MTo_body_13 : decode MTo_body.2.2.1 13 = .ok (.getfield 65, 3) := by decide +kernel
theorem d_MTo_body_16 : decode MTo_body.2.2.1 16 = .ok (.iload_n 1, 1) := by decide +kernel
theorem d_MTo_body_17 : decode MTo_body.2.2.1 17 = .ok (.invokevirtual 246, 3) := by decide +kernel
theorem d_MTo_body_20 : decode MTo_body.2.2.1 20 = .ok (.ifCond .eq 15, 3) := by decide +kernel
theorem d_MTo_body_23 : decode MTo_body.2.2.1 23 = .ok (.aload_n 0, 1) := by decide +kernel
theorem d_MTo_body_24 : decode MTo_body.2.2.1 24 = .ok (.getfield 65, 3) := by decide +kernel
theorem d_MTo_body_27 : decode MTo_body.2.2.1 27 = .ok (.getfield 248, 3) := by decide +kernel
theorem d_MTo_body_30 : decode MTo_body.2.2.1 30 = .ok (.iconst 1, 1) := by decide +kernel
theorem d_MTo_body_31 : decode MTo_body.2.2.1 31 = .ok (.isub, 1) := by decide +kernel
theorem d_MTo_body_32 : decode MTo_body.2.2.1 32 = .ok (.goto 5, 3) := by decide +kernel
theorem d_MTo_body_35 : decode MTo_body.2.2.1 35 = .ok (.bipush (-3), 2) := by decide +kernel
theorem d_MTo_body_37 : decode MTo_body.2.2.1 37 = .ok (.ireturn, 1) := by decide +kernel
theorem r_MTo_body_0 {l0 : Value} {x : Int32} : Rr X d MTo_body 0 [l0, .int x] st h = Rr X d MTo_body 1 [l0, .int x] (.int x :: st) h := Rr_nx d_MTo_body_0 rfl
theorem r_MTo_body_1 : Rr X d MTo_body 1 L st h = Rr X d MTo_body 2 L (.int (0) :: st) h := Rr_nx d_MTo_body_1 rfl
theorem r_MTo_body_2 : Rr X d MTo_body 2 L st h = Rr X d MTo_body 4 L (.int (7) :: st) h := Rr_nx d_MTo_body_2 rfl
theorem r_MTo_body_4 {y0 : Int32} {y1 : Int32} {y2 : Int32} (hc : ckS st = true) : Rr X (d + 1) MTo_body 4 L (.int y2 :: .int y1 :: .int y0 :: st) h = (Rr X d MTo_isWithin 0 [.int y0, .int y1, .int y2] [] h).bind fun q => Rr X (d + 1) MTo_body 7 L (psh q.1 st) q.2 := R_is (av := [.int y2, .int y1, .int y0]) d_MTo_body_4 (Or.inl fc_9_72) (ckS_le hc) rfl (Nat.le_of_ble_eq_true rfl) (Nat.le_of_ble_eq_true rfl)
theorem r_MTo_body_7 {x : Int32} : Rr X d MTo_body 7 L (.int x :: st) h = if ¬ x = 0 then Rr X d MTo_body 12 L st h else Rr X d MTo_body 10 L st h := R_if_ne d_MTo_body_7 (by decide)
theorem r_MTo_body_10 : Rr X d MTo_body 10 L st h = Rr X d MTo_body 11 L (.int (-1) :: st) h := Rr_nx d_MTo_body_10 rfl
theorem r_MTo_body_11 {x : Int32} : Rr X d MTo_body 11 L [.int x] h = some (some (.int x), h) := R_ir d_MTo_body_11 rfl
theorem r_MTo_body_12 {l1 : Value} {x : Nat} : Rr X d MTo_body 12 [.ref x, l1] st h = Rr X d MTo_body 13 [.ref x, l1] (.ref x :: st) h := Rr_nx d_MTo_body_12 rfl
theorem ff_9_65 : fF 9 65 = some (9, 8, 1, 1) := rfl
theorem r_MTo_body_13 {a : Nat} (hq : (qR a 9 8).isSome = true) : Rr X d MTo_body 13 L (.ref a :: st) (Wd mu la ro et) = Rr X d MTo_body 16 L (.ref (qRd a 9 8) :: st) (Wd mu la ro et) := R_gfR d_MTo_body_13 ff_9_65 hq
theorem r_MTo_body_16 {l0 : Value} {x : Int32} : Rr X d MTo_body 16 [l0, .int x] st h = Rr X d MTo_body 17 [l0, .int x] (.int x :: st) h := Rr_nx d_MTo_body_16 rfl
theorem fc_9_246 : fC 9 246 = some (0, 0, 1, MBo_append) := rfl
theorem r_MTo_body_17 {y0 : Int32} {a : Nat} (hO : qO a 0 = true) (hc : ckS st = true) : Rr X (d + 1) MTo_body 17 L (.int y0 :: .ref a :: st) (Wd mu la ro et) = (Rr X d MBo_append 0 [.ref a, .int y0] [] (Wd mu la ro et)).bind fun q => Rr X (d + 1) MTo_body 20 L (psh q.1 st) q.2 := R_iv (av := [.int y0]) d_MTo_body_17 fc_9_246 hO (ckS_le hc) rfl (Nat.le_of_ble_eq_true rfl) (Nat.le_of_ble_eq_true rfl)
theorem r_MTo_body_20 {x : Int32} : Rr X d MTo_body 20 L (.int x :: st) h = if x = 0 then Rr X d MTo_body 35 L st h else Rr X d MTo_body 23 L st h := R_if_eq d_MTo_body_20 (by decide)
theorem r_MTo_body_23 {l1 : Value} {x : Nat} : Rr X d MTo_body 23 [.ref x, l1] st h = Rr X d MTo_body 24 [.ref x, l1] (.ref x :: st) h := Rr_nx d_MTo_body_23 rfl
theorem r_MTo_body_24 {a : Nat} (hq : (qR a 9 8).isSome = true) : Rr X d MTo_body 24 L (.ref a :: st) (Wd mu la ro et) = Rr X d MTo_body 27 L (.ref (qRd a 9 8) :: st) (Wd mu la ro et) := R_gfR d_MTo_body_24 ff_9_65 hq
theorem ff_9_248 : fF 9 248 = some (0, 2, 0, 0) := rfl
theorem r_MTo_body_27 {a : Nat} (hq : qI a 0 2 = true) : Rr X d MTo_body 27 L (.ref a :: st) (Wd mu la ro et) = Rr X d MTo_body 30 L (.int (mu a 2) :: st) (Wd mu la ro et) := R_gfI d_MTo_body_27 ff_9_248 hq
theorem r_MTo_body_30 : Rr X d MTo_body 30 L st h = Rr X d MTo_body 31 L (.int (1) :: st) h := Rr_nx d_MTo_body_30 rfl
theorem r_MTo_body_31 {x y : Int32} : Rr X d MTo_body 31 L (.int y :: .int x :: st) h = Rr X d MTo_body 32 L (.int (x - y) :: st) h := Rr_nx d_MTo_body_31 rfl
theorem r_MTo_body_32 : Rr X d MTo_body 32 L st h = Rr X d MTo_body 37 L st h := R_goto d_MTo_body_32 (by decide)
theorem r_MTo_body_35 : Rr X d MTo_body 35 L st h = Rr X d MTo_body 37 L (.int (-3) :: st) h := Rr_nx d_MTo_body_35 rfl
theorem r_MTo_body_37 {x : Int32} : Rr X d MTo_body 37 L [.int x] h = some (some (.int x), h) := R_ir d_MTo_body_37 rfl
theorem d_MTo_act_0 : decode MTo_act.2.2.1 0 = .ok (.aload_n 0, 1) := by decide +kernel
theorem d_MTo_act_1 : decode MTo_act.2.2.1 1 = .ok (.getfield 65, 3) := by decide +kernel
theorem d_MTo_act_4 : decode MTo_act.2.2.1 4 = .ok (.iload_n 1, 1) := by decide +kernel
theorem d_MTo_act_5 : decode MTo_act.2.2.1 5 = .ok (.iload_n 2, 1) := by decide +kernel
theorem d_MTo_act_6 : decode MTo_act.2.2.1 6 = .ok (.iload_n 3, 1) := by decide +kernel
theorem d_MTo_act_7 : decode MTo_act.2.2.1 7 = .ok (.invokevirtual 249, 3) := by decide +kernel
theorem d_MTo_act_10 : decode MTo_act.2.2.1 10 = .ok (.ireturn, 1) := by decide +kernel
theorem r_MTo_act_0 {l1 l2 l3 : Value} {x : Nat} : Rr X d MTo_act 0 [.ref x, l1, l2, l3] st h = Rr X d MTo_act 1 [.ref x, l1, l2, l3] (.ref x :: st) h := Rr_nx d_MTo_act_0 rfl
theorem r_MTo_act_1 {a : Nat} (hq : (qR a 9 8).isSome = true) : Rr X d MTo_act 1 L (.ref a :: st) (Wd mu la ro et) = Rr X d MTo_act 4 L (.ref (qRd a 9 8) :: st) (Wd mu la ro et) := R_gfR d_MTo_act_1 ff_9_65 hq
theorem r_MTo_act_4 {l0 l2 l3 : Value} {x : Int32} : Rr X d MTo_act 4 [l0, .int x, l2, l3] st h = Rr X d MTo_act 5 [l0, .int x, l2, l3] (.int x :: st) h := Rr_nx d_MTo_act_4 rfl
theorem r_MTo_act_5 {l0 l1 l3 : Value} {x : Int32} : Rr X d MTo_act 5 [l0, l1, .int x, l3] st h = Rr X d MTo_act 6 [l0, l1, .int x, l3] (.int x :: st) h := Rr_nx d_MTo_act_5 rfl
theorem r_MTo_act_6 {l0 l1 l2 : Value} {x : Int32} : Rr X d MTo_act 6 [l0, l1, l2, .int x] st h = Rr X d MTo_act 7 [l0, l1, l2, .int x] (.int x :: st) h := Rr_nx d_MTo_act_6 rfl
theorem fc_9_249 : fC 9 249 = some (0, 0, 3, MBo_perform) := rfl
theorem r_MTo_act_7 {y0 : Int32} {y1 : Int32} {y2 : Int32} {a : Nat} (hO : qO a 0 = true) (hc : ckS st = true) : Rr X (d + 1) MTo_act 7 L (.int y2 :: .int y1 :: .int y0 :: .ref a :: st) (Wd mu la ro et) = (Rr X d MBo_perform 0 [.ref a, .int y0, .int y1, .int y2] [] (Wd mu la ro et)).bind fun q => Rr X (d + 1) MTo_act 10 L (psh q.1 st) q.2 := R_iv (av := [.int y2, .int y1, .int y0]) d_MTo_act_7 fc_9_249 hO (ckS_le hc) rfl (Nat.le_of_ble_eq_true rfl) (Nat.le_of_ble_eq_true rfl)
theorem r_MTo_act_10 {x : Int32} : Rr X d MTo_act 10 L [.int x] h = some (some (.int x), h) := R_ir d_MTo_act_10 rfl
theorem d_MTo_trace_0 : decode MTo_trace.2.2.1 0 = .ok (.aload_n 0, 1) := by decide +kernel
theorem d_MTo_trace_1 : decode MTo_trace.2.2.1 1 = .ok (.getfield 65, 3) := by decide +kernel
theorem d_MTo_trace_4 : decode MTo_trace.2.2.1 4 = .ok (.iload_n 1, 1) := by decide +kernel
theorem d_MTo_trace_5 : decode MTo_trace.2.2.1 5 = .ok (.invokevirtual 252, 3) := by decide +kernel
theorem d_MTo_trace_8 : decode MTo_trace.2.2.1 8 = .ok (.ireturn, 1) := by decide +kernel
theorem r_MTo_trace_0 {l1 : Value} {x : Nat} : Rr X d MTo_trace 0 [.ref x, l1] st h = Rr X d MTo_trace 1 [.ref x, l1] (.ref x :: st) h := Rr_nx d_MTo_trace_0 rfl
theorem r_MTo_trace_1 {a : Nat} (hq : (qR a 9 8).isSome = true) : Rr X d MTo_trace 1 L (.ref a :: st) (Wd mu la ro et) = Rr X d MTo_trace 4 L (.ref (qRd a 9 8) :: st) (Wd mu la ro et) := R_gfR d_MTo_trace_1 ff_9_65 hq
theorem r_MTo_trace_4 {l0 : Value} {x : Int32} : Rr X d MTo_trace 4 [l0, .int x] st h = Rr X d MTo_trace 5 [l0, .int x] (.int x :: st) h := Rr_nx d_MTo_trace_4 rfl
theorem fc_9_252 : fC 9 252 = some (0, 0, 1, MBo_traced) := rfl
theorem r_MTo_trace_5 {y0 : Int32} {a : Nat} (hO : qO a 0 = true) (hc : ckS st = true) : Rr X (d + 1) MTo_trace 5 L (.int y0 :: .ref a :: st) (Wd mu la ro et) = (Rr X d MBo_traced 0 [.ref a, .int y0] [] (Wd mu la ro et)).bind fun q => Rr X (d + 1) MTo_trace 8 L (psh q.1 st) q.2 := R_iv (av := [.int y0]) d_MTo_trace_5 fc_9_252 hO (ckS_le hc) rfl (Nat.le_of_ble_eq_true rfl) (Nat.le_of_ble_eq_true rfl)
theorem r_MTo_trace_8 {x : Int32} : Rr X d MTo_trace 8 L [.int x] h = some (some (.int x), h) := R_ir d_MTo_trace_8 rfl
theorem d_MTo_keep_0 : decode MTo_keep.2.2.1 0 = .ok (.aload_n 0, 1) := by decide +kernel
theorem d_MTo_keep_1 : decode MTo_keep.2.2.1 1 = .ok (.iload_n 1, 1) := by decide +kernel
theorem d_MTo_keep_2 : decode MTo_keep.2.2.1 2 = .ok (.invokevirtual 212, 3) := by decide +kernel
theorem d_MTo_keep_5 : decode MTo_keep.2.2.1 5 = .ok (.astore_n 3, 1) := by decide +kernel
theorem d_MTo_keep_6 : decode MTo_keep.2.2.1 6 = .ok (.aload_n 3, 1) := by decide +kernel
theorem d_MTo_keep_7 : decode MTo_keep.2.2.1 7 = .ok (.ifnull 20, 3) := by decide +kernel
theorem d_MTo_keep_10 : decode MTo_keep.2.2.1 10 = .ok (.iload_n 2, 1) := by decide +kernel
theorem d_MTo_keep_11 : decode MTo_keep.2.2.1 11 = .ok (.iconst (-1), 1) := by decide +kernel
theorem d_MTo_keep_12 : decode MTo_keep.2.2.1 12 = .ok (.aload_n 0, 1) := by decide +kernel
theorem d_MTo_keep_13 : decode MTo_keep.2.2.1 13 = .ok (.getfield 65, 3) := by decide +kernel
theorem d_MTo_keep_16 : decode MTo_keep.2.2.1 16 = .ok (.getfield 248, 3) := by decide +kernel
theorem d_MTo_keep_19 : decode MTo_keep.2.2.1 19 = .ok (.iconst 1, 1) := by decide +kernel
theorem d_MTo_keep_20 : decode MTo_keep.2.2.1 20 = .ok (.isub, 1) := by decide +kernel
theorem d_MTo_keep_21 : decode MTo_keep.2.2.1 21 = .ok (.invokestatic 72, 3) := by decide +kernel
theorem d_MTo_keep_24 : decode MTo_keep.2.2.1 24 = .ok (.ifCond .ne 5, 3) := by decide +kernel
theorem d_MTo_keep_27 : decode MTo_keep.2.2.1 27 = .ok (.iconst (-1), 1) := by decide +kernel
theorem d_MTo_keep_28 : decode MTo_keep.2.2.1 28 = .ok (.ireturn, 1) := by decide +kernel
theorem d_MTo_keep_29 : decode MTo_keep.2.2.1 29 = .ok (.aload_n 3, 1) := by decide +kernel
theorem d_MTo_keep_30 : decode MTo_keep.2.2.1 30 = .ok (.iload_n 2, 1) := by decide +kernel
theorem d_MTo_keep_31 : decode MTo_keep.2.2.1 31 = .ok (.invokevirtual 255, 3) := by decide +kernel
theorem d_MTo_keep_34 : decode MTo_keep.2.2.1 34 = .ok (.iconst 1, 1) := by decide +kernel
theorem d_MTo_keep_35 : decode MTo_keep.2.2.1 35 = .ok (.ireturn, 1) := by decide +kernel
theorem r_MTo_keep_0 {l1 l2 l3 : Value} {x : Nat} : Rr X d MTo_keep 0 [.ref x, l1, l2, l3] st h = Rr X d MTo_keep 1 [.ref x, l1, l2, l3] (.ref x :: st) h := Rr_nx d_MTo_keep_0 rfl
theorem r_MTo_keep_1 {l0 l2 l3 : Value} {x : Int32} : Rr X d MTo_keep 1 [l0, .int x, l2, l3] st h = Rr X d MTo_keep 2 [l0, .int x, l2, l3] (.int x :: st) h := Rr_nx d_MTo_keep_1 rfl
theorem r_MTo_keep_2 {y0 : Int32} {a : Nat} (hO : qO a 9 = true) (hc : ckS st = true) : Rr X (d + 1) MTo_keep 2 L (.int y0 :: .ref a :: st) (Wd mu la ro et) = (Rr X d MTo_shelfAt 0 [.ref a, .int y0] [] (Wd mu la ro et)).bind fun q => Rr X (d + 1) MTo_keep 5 L (psh q.1 st) q.2 := R_iv (av := [.int y0]) d_MTo_keep_2 fc_9_212 hO (ckS_le hc) rfl (Nat.le_of_ble_eq_true rfl) (Nat.le_of_ble_eq_true rfl)
theorem r_MTo_keep_5 {l0 l1 l2 l3 : Value} {x : Nat} : Rr X d MTo_keep 5 [l0, l1, l2, l3] (.ref x :: st) h = Rr X d MTo_keep 6 (sL [l0, l1, l2, l3] 3 (.ref x)) st h := Rr_nx d_MTo_keep_5 rfl
theorem r_MTo_keep_5n {l0 l1 l2 l3 : Value} : Rr X d MTo_keep 5 [l0, l1, l2, l3] (.null :: st) h = Rr X d MTo_keep 6 (sL [l0, l1, l2, l3] 3 .null) st h := Rr_nx d_MTo_keep_5 rfl
theorem r_MTo_keep_6 {l0 l1 l2 : Value} {x : Nat} : Rr X d MTo_keep 6 [l0, l1, l2, .ref x] st h = Rr X d MTo_keep 7 [l0, l1, l2, .ref x] (.ref x :: st) h := Rr_nx d_MTo_keep_6 rfl
theorem r_MTo_keep_6n {l0 l1 l2 : Value} : Rr X d MTo_keep 6 [l0, l1, l2, .null] st h = Rr X d MTo_keep 7 [l0, l1, l2, .null] (.null :: st) h := Rr_nx d_MTo_keep_6 rfl
theorem r_MTo_keep_7 {x : Nat} : Rr X d MTo_keep 7 L (.ref x :: st) h = Rr X d MTo_keep 10 L st h := R_nul1 d_MTo_keep_7
theorem r_MTo_keep_7n : Rr X d MTo_keep 7 L (.null :: st) h = Rr X d MTo_keep 27 L st h := R_nul0 d_MTo_keep_7 (by decide)
theorem r_MTo_keep_10 {l0 l1 l3 : Value} {x : Int32} : Rr X d MTo_keep 10 [l0, l1, .int x, l3] st h = Rr X d MTo_keep 11 [l0, l1, .int x, l3] (.int x :: st) h := Rr_nx d_MTo_keep_10 rfl
theorem r_MTo_keep_11 : Rr X d MTo_keep 11 L st h = Rr X d MTo_keep 12 L (.int (-1) :: st) h := Rr_nx d_MTo_keep_11 rfl
theorem r_MTo_keep_12 {l1 l2 l3 : Value} {x : Nat} : Rr X d MTo_keep 12 [.ref x, l1, l2, l3] st h = Rr X d MTo_keep 13 [.ref x, l1, l2, l3] (.ref x :: st) h := Rr_nx d_MTo_keep_12 rfl
theorem r_MTo_keep_13 {a : Nat} (hq : (qR a 9 8).isSome = true) : Rr X d MTo_keep 13 L (.ref a :: st) (Wd mu la ro et) = Rr X d MTo_keep 16 L (.ref (qRd a 9 8) :: st) (Wd mu la ro et) := R_gfR d_MTo_keep_13 ff_9_65 hq
theorem r_MTo_keep_16 {a : Nat} (hq : qI a 0 2 = true) : Rr X d MTo_keep 16 L (.ref a :: st) (Wd mu la ro et) = Rr X d MTo_keep 19 L (.int (mu a 2) :: st) (Wd mu la ro et) := R_gfI d_MTo_keep_16 ff_9_248 hq
theorem r_MTo_keep_19 : Rr X d MTo_keep 19 L st h = Rr X d MTo_keep 20 L (.int (1) :: st) h := Rr_nx d_MTo_keep_19 rfl
theorem r_MTo_keep_20 {x y : Int32} : Rr X d MTo_keep 20 L (.int y :: .int x :: st) h = Rr X d MTo_keep 21 L (.int (x - y) :: st) h := Rr_nx d_MTo_keep_20 rfl
theorem r_MTo_keep_21 {y0 : Int32} {y1 : Int32} {y2 : Int32} (hc : ckS st = true) : Rr X (d + 1) MTo_keep 21 L (.int y2 :: .int y1 :: .int y0 :: st) h = (Rr X d MTo_isWithin 0 [.int y0, .int y1, .int y2] [] h).bind fun q => Rr X (d + 1) MTo_keep 24 L (psh q.1 st) q.2 := R_is (av := [.int y2, .int y1, .int y0]) d_MTo_keep_21 (Or.inl fc_9_72) (ckS_le hc) rfl (Nat.le_of_ble_eq_true rfl) (Nat.le_of_ble_eq_true rfl)
theorem r_MTo_keep_24 {x : Int32} : Rr X d MTo_keep 24 L (.int x :: st) h = if ¬ x = 0 then Rr X d MTo_keep 29 L st h else Rr X d MTo_keep 27 L st h := R_if_ne d_MTo_keep_24 (by decide)
theorem r_MTo_keep_27 : Rr X d MTo_keep 27 L st h = Rr X d MTo_keep 28 L (.int (-1) :: st) h := Rr_nx d_MTo_keep_27 rfl
theorem r_MTo_keep_28 {x : Int32} : Rr X d MTo_keep 28 L [.int x] h = some (some (.int x), h) := R_ir d_MTo_keep_28 rfl
theorem r_MTo_keep_29 {l0 l1 l2 : Value} {x : Nat} : Rr X d MTo_keep 29 [l0, l1, l2, .ref x] st h = Rr X d MTo_keep 30 [l0, l1, l2, .ref x] (.ref x :: st) h := Rr_nx d_MTo_keep_29 rfl
theorem r_MTo_keep_29n {l0 l1 l2 : Value} : Rr X d MTo_keep 29 [l0, l1, l2, .null] st h = Rr X d MTo_keep 30 [l0, l1, l2, .null] (.null :: st) h := Rr_nx d_MTo_keep_29 rfl
theorem r_MTo_keep_30 {l0 l1 l3 : Value} {x : Int32} : Rr X d MTo_keep 30 [l0, l1, .int x, l3] st h = Rr X d MTo_keep 31 [l0, l1, .int x, l3] (.int x :: st) h := Rr_nx d_MTo_keep_30 rfl
theorem fc_9_255 : fC 9 255 = some (0, 6, 1, MSh_hold) := rfl
theorem r_MTo_keep_31 {y0 : Int32} {a : Nat} (hO : qO a 6 = true) (hc : ckS st = true) : Rr X (d + 1) MTo_keep 31 L (.int y0 :: .ref a :: st) (Wd mu la ro et) = (Rr X d MSh_hold 0 [.ref a, .int y0] [] (Wd mu la ro et)).bind fun q => Rr X (d + 1) MTo_keep 34 L (psh q.1 st) q.2 := R_iv (av := [.int y0]) d_MTo_keep_31 fc_9_255 hO (ckS_le hc) rfl (Nat.le_of_ble_eq_true rfl) (Nat.le_of_ble_eq_true rfl)
theorem r_MTo_keep_34 : Rr X d MTo_keep 34 L st h = Rr X d MTo_keep 35 L (.int (1) :: st) h := Rr_nx d_MTo_keep_34 rfl
theorem r_MTo_keep_35 {x : Int32} : Rr X d MTo_keep 35 L [.int x] h = some (some (.int x), h) := R_ir d_MTo_keep_35 rfl
theorem d_MTo_row_0 : decode MTo_row.2.2.1 0 = .ok (.aload_n 0, 1) := by decide +kernel
theorem d_MTo_row_1 : decode MTo_row.2.2.1 1 = .ok (.iload_n 1, 1) := by decide +kernel
theorem d_MTo_row_2 : decode MTo_row.2.2.1 2 = .ok (.invokevirtual 212, 3) := by decide +kernel
theorem d_MTo_row_5 : decode MTo_row.2.2.1 5 = .ok (.astore 4, 2) := by decide +kernel
theorem d_MTo_row_7 : decode MTo_row.2.2.1 7 = .ok (.aload 4, 2) := by decide +kernel
theorem d_MTo_row_9 : decode MTo_row.2.2.1 9 = .ok (.ifnull 18, 3) := by decide +kernel
theorem d_MTo_row_12 : decode MTo_row.2.2.1 12 = .ok (.iload_n 2, 1) := by decide +kernel
theorem d_MTo_row_13 : decode MTo_row.2.2.1 13 = .ok (.iconst 0, 1) := by decide +kernel
theorem d_MTo_row_14 : decode MTo_row.2.2.1 14 = .ok (.iconst 4, 1) := by decide +kernel
theorem d_MTo_row_15 : decode MTo_row.2.2.1 15 = .ok (.invokestatic 72, 3) := by decide +kernel
theorem d_MTo_row_18 : decode MTo_row.2.2.1 18 = .ok (.ifCond .eq 9, 3) := by decide +kernel
theorem d_MTo_row_21 : decode MTo_row.2.2.1 21 = .ok (.iload_n 3, 1) := by decide +kernel
theorem d_MTo_row_22 : decode MTo_row.2.2.1 22 = .ok (.bipush 60, 2) := by decide +kernel
theorem d_MTo_row_24 : decode MTo_row.2.2.1 24 = .ok (.if_icmp .le 5, 3) := by decide +kernel
theorem d_MTo_row_27 : decode MTo_row.2.2.1 27 = .ok (.iconst (-1), 1) := by decide +kernel
theorem d_MTo_row_28 : decode MTo_row.2.2.1 28 = .ok (.ireturn, 1) := by decide +kernel
theorem d_MTo_row_29 : decode MTo_row.2.2.1 29 = .ok (.iload_n 3, 1) := by decide +kernel
theorem d_MTo_row_30 : decode MTo_row.2.2.1 30 = .ok (.ifCond .ge 6, 3) := by decide +kernel
theorem d_MTo_row_33 : decode MTo_row.2.2.1 33 = .ok (.bipush (-14), 2) := by decide +kernel
theorem d_MTo_row_35 : decode MTo_row.2.2.1 35 = .ok (.ireturn, 1) := by decide +kernel
theorem d_MTo_row_36 : decode MTo_row.2.2.1 36 = .ok (.aload 4, 2) := by decide +kernel
theorem d_MTo_row_38 : decode MTo_row.2.2.1 38 = .ok (.iload_n 2, 1) := by decide +kernel
theorem d_MTo_row_39 : decode MTo_row.2.2.1 39 = .ok (.iload_n 3, 1) := by decide +kernel
theorem d_MTo_row_40 : decode MTo_row.2.2.1 40 = .ok (.invokevirtual 258, 3) := by decide +kernel
theorem d_MTo_row_43 : decode MTo_row.2.2.1 43 = .ok (.iconst 1, 1) := by decide +kernel
theorem d_MTo_row_44 : decode MTo_row.2.2.1 44 = .ok (.ireturn, 1) := by decide +kernel
theorem r_MTo_row_0 {l1 l2 l3 l4 : Value} {x : Nat} : Rr X d MTo_row 0 [.ref x, l1, l2, l3, l4] st h = Rr X d MTo_row 1 [.ref x, l1, l2, l3, l4] (.ref x :: st) h := Rr_nx d_MTo_row_0 rfl
theorem r_MTo_row_1 {l0 l2 l3 l4 : Value} {x : Int32} : Rr X d MTo_row 1 [l0, .int x, l2, l3, l4] st h = Rr X d MTo_row 2 [l0, .int x, l2, l3, l4] (.int x :: st) h := Rr_nx d_MTo_row_1 rfl
theorem r_MTo_row_2 {y0 : Int32} {a : Nat} (hO : qO a 9 = true) (hc : ckS st = true) : Rr X (d + 1) MTo_row 2 L (.int y0 :: .ref a :: st) (Wd mu la ro et) = (Rr X d MTo_shelfAt 0 [.ref a, .int y0] [] (Wd mu la ro et)).bind fun q => Rr X (d + 1) MTo_row 5 L (psh q.1 st) q.2 := R_iv (av := [.int y0]) d_MTo_row_2 fc_9_212 hO (ckS_le hc) rfl (Nat.le_of_ble_eq_true rfl) (Nat.le_of_ble_eq_true rfl)
theorem r_MTo_row_5 {l0 l1 l2 l3 l4 : Value} {x : Nat} : Rr X d MTo_row 5 [l0, l1, l2, l3, l4] (.ref x :: st) h = Rr X d MTo_row 7 (sL [l0, l1, l2, l3, l4] 4 (.ref x)) st h := Rr_nx d_MTo_row_5 rfl
theorem r_MTo_row_5n {l0 l1 l2 l3 l4 : Value} : Rr X d MTo_row 5 [l0, l1, l2, l3, l4] (.null :: st) h = Rr X d MTo_row 7 (sL [l0, l1, l2, l3, l4] 4 .null) st h := Rr_nx d_MTo_row_5 rfl
theorem r_MTo_row_7 {l0 l1 l2 l3 : Value} {x : Nat} : Rr X d MTo_row 7 [l0, l1, l2, l3, .ref x] st h = Rr X d MTo_row 9 [l0, l1, l2, l3, .ref x] (.ref x :: st) h := Rr_nx d_MTo_row_7 rfl
theorem r_MTo_row_7n {l0 l1 l2 l3 : Value} : Rr X d MTo_row 7 [l0, l1, l2, l3, .null] st h = Rr X d MTo_row 9 [l0, l1, l2, l3, .null] (.null :: st) h := Rr_nx d_MTo_row_7 rfl
theorem r_MTo_row_9 {x : Nat} : Rr X d MTo_row 9 L (.ref x :: st) h = Rr X d MTo_row 12 L st h := R_nul1 d_MTo_row_9
theorem r_MTo_row_9n : Rr X d MTo_row 9 L (.null :: st) h = Rr X d MTo_row 27 L st h := R_nul0 d_MTo_row_9 (by decide)
theorem r_MTo_row_12 {l0 l1 l3 l4 : Value} {x : Int32} : Rr X d MTo_row 12 [l0, l1, .int x, l3, l4] st h = Rr X d MTo_row 13 [l0, l1, .int x, l3, l4] (.int x :: st) h := Rr_nx d_MTo_row_12 rfl
theorem r_MTo_row_13 : Rr X d MTo_row 13 L st h = Rr X d MTo_row 14 L (.int (0) :: st) h := Rr_nx d_MTo_row_13 rfl
theorem r_MTo_row_14 : Rr X d MTo_row 14 L st h = Rr X d MTo_row 15 L (.int (4) :: st) h := Rr_nx d_MTo_row_14 rfl
theorem r_MTo_row_15 {y0 : Int32} {y1 : Int32} {y2 : Int32} (hc : ckS st = true) : Rr X (d + 1) MTo_row 15 L (.int y2 :: .int y1 :: .int y0 :: st) h = (Rr X d MTo_isWithin 0 [.int y0, .int y1, .int y2] [] h).bind fun q => Rr X (d + 1) MTo_row 18 L (psh q.1 st) q.2 := R_is (av := [.int y2, .int y1, .int y0]) d_MTo_row_15 (Or.inl fc_9_72) (ckS_le hc) rfl (Nat.le_of_ble_eq_true rfl) (Nat.le_of_ble_eq_true rfl)
theorem r_MTo_row_18 {x : Int32} : Rr X d MTo_row 18 L (.int x :: st) h = if x = 0 then Rr X d MTo_row 27 L st h else Rr X d MTo_row 21 L st h := R_if_eq d_MTo_row_18 (by decide)
theorem r_MTo_row_21 {l0 l1 l2 l4 : Value} {x : Int32} : Rr X d MTo_row 21 [l0, l1, l2, .int x, l4] st h = Rr X d MTo_row 22 [l0, l1, l2, .int x, l4] (.int x :: st) h := Rr_nx d_MTo_row_21 rfl
theorem r_MTo_row_22 : Rr X d MTo_row 22 L st h = Rr X d MTo_row 24 L (.int (60) :: st) h := Rr_nx d_MTo_row_22 rfl
theorem r_MTo_row_24 {x y : Int32} : Rr X d MTo_row 24 L (.int y :: .int x :: st) h = if x ≤ y then Rr X d MTo_row 29 L st h else Rr X d MTo_row 27 L st h := R_ic_le d_MTo_row_24 (by decide)
theorem r_MTo_row_27 : Rr X d MTo_row 27 L st h = Rr X d MTo_row 28 L (.int (-1) :: st) h := Rr_nx d_MTo_row_27 rfl
theorem r_MTo_row_28 {x : Int32} : Rr X d MTo_row 28 L [.int x] h = some (some (.int x), h) := R_ir d_MTo_row_28 rfl
theorem r_MTo_row_29 {l0 l1 l2 l4 : Value} {x : Int32} : Rr X d MTo_row 29 [l0, l1, l2, .int x, l4] st h = Rr X d MTo_row 30 [l0, l1, l2, .int x, l4] (.int x :: st) h := Rr_nx d_MTo_row_29 rfl
theorem r_MTo_row_30 {x : Int32} : Rr X d MTo_row 30 L (.int x :: st) h = if 0 ≤ x then Rr X d MTo_row 36 L st h else Rr X d MTo_row 33 L st h := R_if_ge d_MTo_row_30 (by decide)
theorem r_MTo_row_33 : Rr X d MTo_row 33 L st h = Rr X d MTo_row 35 L (.int (-14) :: st) h := Rr_nx d_MTo_row_33 rfl
theorem r_MTo_row_35 {x : Int32} : Rr X d MTo_row 35 L [.int x] h = some (some (.int x), h) := R_ir d_MTo_row_35 rfl
theorem r_MTo_row_36 {l0 l1 l2 l3 : Value} {x : Nat} : Rr X d MTo_row 36 [l0, l1, l2, l3, .ref x] st h = Rr X d MTo_row 38 [l0, l1, l2, l3, .ref x] (.ref x :: st) h := Rr_nx d_MTo_row_36 rfl
theorem r_MTo_row_36n {l0 l1 l2 l3 : Value} : Rr X d MTo_row 36 [l0, l1, l2, l3, .null] st h = Rr X d MTo_row 38 [l0, l1, l2, l3, .null] (.null :: st) h := Rr_nx d_MTo_row_36 rfl
theorem r_MTo_row_38 {l0 l1 l3 l4 : Value} {x : Int32} : Rr X d MTo_row 38 [l0, l1, .int x, l3, l4] st h = Rr X d MTo_row 39 [l0, l1, .int x, l3, l4] (.int x :: st) h := Rr_nx d_MTo_row_38 rfl
theorem r_MTo_row_39 {l0 l1 l2 l4 : Value} {x : Int32} : Rr X d MTo_row 39 [l0, l1, l2, .int x, l4] st h = Rr X d MTo_row 40 [l0, l1, l2, .int x, l4] (.int x :: st) h := Rr_nx d_MTo_row_39 rfl
theorem fc_9_258 : fC 9 258 = some (0, 6, 2, MSh_holdRow) := rfl
theorem r_MTo_row_40 {y0 : Int32} {y1 : Int32} {a : Nat} (hO : qO a 6 = true) (hc : ckS st = true) : Rr X (d + 1) MTo_row 40 L (.int y1 :: .int y0 :: .ref a :: st) (Wd mu la ro et) = (Rr X d MSh_holdRow 0 [.ref a, .int y0, .int y1, mkU] [] (Wd mu la ro et)).bind fun q => Rr X (d + 1) MTo_row 43 L (psh q.1 st) q.2 := R_iv (av := [.int y1, .int y0]) d_MTo_row_40 fc_9_258 hO (ckS_le hc) rfl (Nat.le_of_ble_eq_true rfl) (Nat.le_of_ble_eq_true rfl)
theorem r_MTo_row_43 : Rr X d MTo_row 43 L st h = Rr X d MTo_row 44 L (.int (1) :: st) h := Rr_nx d_MTo_row_43 rfl
theorem r_MTo_row_44 {x : Int32} : Rr X d MTo_row 44 L [.int x] h = some (some (.int x), h) := R_ir d_MTo_row_44 rfl
theorem d_MTo_put_0 : decode MTo_put.2.2.1 0 = .ok (.aload_n 0, 1) := by decide +kernel
theorem d_MTo_put_1 : decode MTo_put.2.2.1 1 = .ok (.iload_n 1, 1) := by decide +kernel
theorem d_MTo_put_2 : decode MTo_put.2.2.1 2 = .ok (.invokevirtual 212, 3) := by decide +kernel
theorem d_MTo_put_5 : decode MTo_put.2.2.1 5 = .ok (.astore 5, 2) := by decide +kernel
theorem d_MTo_put_7 : decode MTo_put.2.2.1 7 = .ok (.aload 5, 2) := by decide +kernel
theorem d_MTo_put_9 : decode MTo_put.2.2.1 9 = .ok (.ifnonnull 7, 3) := by decide +kernel
theorem d_MTo_put_12 : decode MTo_put.2.2.1 12 = .ok (.iconst (-1), 1) := by decide +kernel
theorem d_MTo_put_13 : decode MTo_put.2.2.1 13 = .ok (.goto 9, 3) := by decide +kernel
theorem d_MTo_put_16 : decode MTo_put.2.2.1 16 = .ok (.aload 5, 2) := by decide +kernel
theorem d_MTo_put_18 : decode MTo_put.2.2.1 18 = .ok (.iload_n 2, 1) := by decide +kernel
theorem d_MTo_put_19 : decode MTo_put.2.2.1 19 = .ok (.invokevirtual 261, 3) := by decide +kernel
theorem d_MTo_put_22 : decode MTo_put.2.2.1 22 = .ok (.istore 6, 2) := by decide +kernel
theorem d_MTo_put_24 : decode MTo_put.2.2.1 24 = .ok (.aload 5, 2) := by decide +kernel
theorem d_MTo_put_26 : decode MTo_put.2.2.1 26 = .ok (.ifnull 8, 3) := by decide +kernel
theorem d_MTo_put_29 : decode MTo_put.2.2.1 29 = .ok (.iload 6, 2) := by decide +kernel
theorem d_MTo_put_31 : decode MTo_put.2.2.1 31 = .ok (.ifCond .eq 6, 3) := by decide +kernel
theorem d_MTo_put_34 : decode MTo_put.2.2.1 34 = .ok (.iload 6, 2) := by decide +kernel
theorem d_MTo_put_36 : decode MTo_put.2.2.1 36 = .ok (.ireturn, 1) := by decide +kernel
theorem d_MTo_put_37 : decode MTo_put.2.2.1 37 = .ok (.aload 5, 2) := by decide +kernel
theorem d_MTo_put_39 : decode MTo_put.2.2.1 39 = .ok (.iload_n 2, 1) := by decide +kernel
theorem d_MTo_put_40 : decode MTo_put.2.2.1 40 = .ok (.lload_n 3, 1) := by decide +kernel
theorem d_MTo_put_41 : decode MTo_put.2.2.1 41 = .ok (.invokevirtual 264, 3) := by decide +kernel
theorem d_MTo_put_44 : decode MTo_put.2.2.1 44 = .ok (.iconst 1, 1) := by decide +kernel
theorem d_MTo_put_45 : decode MTo_put.2.2.1 45 = .ok (.ireturn, 1) := by decide +kernel
theorem r_MTo_put_0 {l1 l2 l3 l4 l5 l6 : Value} {x : Nat} : Rr X d MTo_put 0 [.ref x, l1, l2, l3, l4, l5, l6] st h = Rr X d MTo_put 1 [.ref x, l1, l2, l3, l4, l5, l6] (.ref x :: st) h := Rr_nx d_MTo_put_0 rfl
theorem r_MTo_put_1 {l0 l2 l3 l4 l5 l6 : Value} {x : Int32} : Rr X d MTo_put 1 [l0, .int x, l2, l3, l4, l5, l6] st h = Rr X d MTo_put 2 [l0, .int x, l2, l3, l4, l5, l6] (.int x :: st) h := Rr_nx d_MTo_put_1 rfl
theorem r_MTo_put_2 {y0 : Int32} {a : Nat} (hO : qO a 9 = true) (hc : ckS st = true) : Rr X (d + 1) MTo_put 2 L (.int y0 :: .ref a :: st) (Wd mu la ro et) = (Rr X d MTo_shelfAt 0 [.ref a, .int y0] [] (Wd mu la ro et)).bind fun q => Rr X (d + 1) MTo_put 5 L (psh q.1 st) q.2 := R_iv (av := [.int y0]) d_MTo_put_2 fc_9_212 hO (ckS_le hc) rfl (Nat.le_of_ble_eq_true rfl) (Nat.le_of_ble_eq_true rfl)
theorem r_MTo_put_5 {l0 l1 l2 l3 l4 l5 l6 : Value} {x : Nat} : Rr X d MTo_put 5 [l0, l1, l2, l3, l4, l5, l6] (.ref x :: st) h = Rr X d MTo_put 7 (sL [l0, l1, l2, l3, l4, l5, l6] 5 (.ref x)) st h := Rr_nx d_MTo_put_5 rfl
theorem r_MTo_put_5n {l0 l1 l2 l3 l4 l5 l6 : Value} : Rr X d MTo_put 5 [l0, l1, l2, l3, l4, l5, l6] (.null :: st) h = Rr X d MTo_put 7 (sL [l0, l1, l2, l3, l4, l5, l6] 5 .null) st h := Rr_nx d_MTo_put_5 rfl
theorem r_MTo_put_7 {l0 l1 l2 l3 l4 l6 : Value} {x : Nat} : Rr X d MTo_put 7 [l0, l1, l2, l3, l4, .ref x, l6] st h = Rr X d MTo_put 9 [l0, l1, l2, l3, l4, .ref x, l6] (.ref x :: st) h := Rr_nx d_MTo_put_7 rfl
theorem r_MTo_put_7n {l0 l1 l2 l3 l4 l6 : Value} : Rr X d MTo_put 7 [l0, l1, l2, l3, l4, .null, l6] st h = Rr X d MTo_put 9 [l0, l1, l2, l3, l4, .null, l6] (.null :: st) h := Rr_nx d_MTo_put_7 rfl
theorem r_MTo_put_9 {x : Nat} : Rr X d MTo_put 9 L (.ref x :: st) h = Rr X d MTo_put 16 L st h := R_nnl1 d_MTo_put_9 (by decide)
theorem r_MTo_put_9n : Rr X d MTo_put 9 L (.null :: st) h = Rr X d MTo_put 12 L st h := R_nnl0 d_MTo_put_9
theorem r_MTo_put_12 : Rr X d MTo_put 12 L st h = Rr X d MTo_put 13 L (.int (-1) :: st) h := Rr_nx d_MTo_put_12 rfl
theorem r_MTo_put_13 : Rr X d MTo_put 13 L st h = Rr X d MTo_put 22 L st h := R_goto d_MTo_put_13 (by decide)
theorem r_MTo_put_16 {l0 l1 l2 l3 l4 l6 : Value} {x : Nat} : Rr X d MTo_put 16 [l0, l1, l2, l3, l4, .ref x, l6] st h = Rr X d MTo_put 18 [l0, l1, l2, l3, l4, .ref x, l6] (.ref x :: st) h := Rr_nx d_MTo_put_16 rfl
theorem r_MTo_put_16n {l0 l1 l2 l3 l4 l6 : Value} : Rr X d MTo_put 16 [l0, l1, l2, l3, l4, .null, l6] st h = Rr X d MTo_put 18 [l0, l1, l2, l3, l4, .null, l6] (.null :: st) h := Rr_nx d_MTo_put_16 rfl
theorem r_MTo_put_18 {l0 l1 l3 l4 l5 l6 : Value} {x : Int32} : Rr X d MTo_put 18 [l0, l1, .int x, l3, l4, l5, l6] st h = Rr X d MTo_put 19 [l0, l1, .int x, l3, l4, l5, l6] (.int x :: st) h := Rr_nx d_MTo_put_18 rfl
theorem fc_9_261 : fC 9 261 = some (0, 6, 1, MSh_refusal) := rfl
theorem r_MTo_put_19 {y0 : Int32} {a : Nat} (hO : qO a 6 = true) (hc : ckS st = true) : Rr X (d + 1) MTo_put 19 L (.int y0 :: .ref a :: st) (Wd mu la ro et) = (Rr X d MSh_refusal 0 [.ref a, .int y0] [] (Wd mu la ro et)).bind fun q => Rr X (d + 1) MTo_put 22 L (psh q.1 st) q.2 := R_iv (av := [.int y0]) d_MTo_put_19 fc_9_261 hO (ckS_le hc) rfl (Nat.le_of_ble_eq_true rfl) (Nat.le_of_ble_eq_true rfl)
theorem r_MTo_put_22 {l0 l1 l2 l3 l4 l5 l6 : Value} {x : Int32} : Rr X d MTo_put 22 [l0, l1, l2, l3, l4, l5, l6] (.int x :: st) h = Rr X d MTo_put 24 (sL [l0, l1, l2, l3, l4, l5, l6] 6 (.int x)) st h := Rr_nx d_MTo_put_22 rfl
theorem r_MTo_put_24 {l0 l1 l2 l3 l4 l6 : Value} {x : Nat} : Rr X d MTo_put 24 [l0, l1, l2, l3, l4, .ref x, l6] st h = Rr X d MTo_put 26 [l0, l1, l2, l3, l4, .ref x, l6] (.ref x :: st) h := Rr_nx d_MTo_put_24 rfl
theorem r_MTo_put_24n {l0 l1 l2 l3 l4 l6 : Value} : Rr X d MTo_put 24 [l0, l1, l2, l3, l4, .null, l6] st h = Rr X d MTo_put 26 [l0, l1, l2, l3, l4, .null, l6] (.null :: st) h := Rr_nx d_MTo_put_24 rfl
theorem r_MTo_put_26 {x : Nat} : Rr X d MTo_put 26 L (.ref x :: st) h = Rr X d MTo_put 29 L st h := R_nul1 d_MTo_put_26
theorem r_MTo_put_26n : Rr X d MTo_put 26 L (.null :: st) h = Rr X d MTo_put 34 L st h := R_nul0 d_MTo_put_26 (by decide)
theorem r_MTo_put_29 {l0 l1 l2 l3 l4 l5 : Value} {x : Int32} : Rr X d MTo_put 29 [l0, l1, l2, l3, l4, l5, .int x] st h = Rr X d MTo_put 31 [l0, l1, l2, l3, l4, l5, .int x] (.int x :: st) h := Rr_nx d_MTo_put_29 rfl
theorem r_MTo_put_31 {x : Int32} : Rr X d MTo_put 31 L (.int x :: st) h = if x = 0 then Rr X d MTo_put 37 L st h else Rr X d MTo_put 34 L st h := R_if_eq d_MTo_put_31 (by decide)
theorem r_MTo_put_34 {l0 l1 l2 l3 l4 l5 : Value} {x : Int32} : Rr X d MTo_put 34 [l0, l1, l2, l3, l4, l5, .int x] st h = Rr X d MTo_put 36 [l0, l1, l2, l3, l4, l5, .int x] (.int x :: st) h := Rr_nx d_MTo_put_34 rfl
theorem r_MTo_put_36 {x : Int32} : Rr X d MTo_put 36 L [.int x] h = some (some (.int x), h) := R_ir d_MTo_put_36 rfl
theorem r_MTo_put_37 {l0 l1 l2 l3 l4 l6 : Value} {x : Nat} : Rr X d MTo_put 37 [l0, l1, l2, l3, l4, .ref x, l6] st h = Rr X d MTo_put 39 [l0, l1, l2, l3, l4, .ref x, l6] (.ref x :: st) h := Rr_nx d_MTo_put_37 rfl
theorem r_MTo_put_37n {l0 l1 l2 l3 l4 l6 : Value} : Rr X d MTo_put 37 [l0, l1, l2, l3, l4, .null, l6] st h = Rr X d MTo_put 39 [l0, l1, l2, l3, l4, .null, l6] (.null :: st) h := Rr_nx d_MTo_put_37 rfl
theorem r_MTo_put_39 {l0 l1 l3 l4 l5 l6 : Value} {x : Int32} : Rr X d MTo_put 39 [l0, l1, .int x, l3, l4, l5, l6] st h = Rr X d MTo_put 40 [l0, l1, .int x, l3, l4, l5, l6] (.int x :: st) h := Rr_nx d_MTo_put_39 rfl
theorem r_MTo_put_40 {l0 l1 l2 l4 l5 l6 : Value} {x : Int64} : Rr X d MTo_put 40 [l0, l1, l2, .long x, l4, l5, l6] st h = Rr X d MTo_put 41 [l0, l1, l2, .long x, l4, l5, l6] (.long x :: st) h := Rr_nx d_MTo_put_40 rfl
theorem fc_9_264 : fC 9 264 = some (0, 6, 2, MSh_write) := rfl
theorem r_MTo_put_41 {y0 : Int32} {y1 : Int64} {a : Nat} (hO : qO a 6 = true) (hc : ckS st = true) : Rr X (d + 1) MTo_put 41 L (.long y1 :: .int y0 :: .ref a :: st) (Wd mu la ro et) = (Rr X d MSh_write 0 [.ref a, .int y0, .long y1, mkU] [] (Wd mu la ro et)).bind fun q => Rr X (d + 1) MTo_put 44 L (psh q.1 st) q.2 := R_iv (av := [.long y1, .int y0]) d_MTo_put_41 fc_9_264 hO (ckS_le hc) rfl (Nat.le_of_ble_eq_true rfl) (Nat.le_of_ble_eq_true rfl)
theorem r_MTo_put_44 : Rr X d MTo_put 44 L st h = Rr X d MTo_put 45 L (.int (1) :: st) h := Rr_nx d_MTo_put_44 rfl
theorem r_MTo_put_45 {x : Int32} : Rr X d MTo_put 45 L [.int x] h = some (some (.int x), h) := R_ir d_MTo_put_45 rfl
theorem d_MTo_element_0 : decode MTo_element.2.2.1 0 = .ok (.aload_n 0, 1) := by decide +kernel
theorem d_MTo_element_1 : decode MTo_element.2.2.1 1 = .ok (.iload_n 1, 1) := by decide +kernel
theorem d_MTo_element_2 : decode MTo_element.2.2.1 2 = .ok (.invokevirtual 212, 3) := by decide +kernel
theorem d_MTo_element_5 : decode MTo_element.2.2.1 5 = .ok (.astore_n 3, 1) := by decide +kernel
theorem d_MTo_element_6 : decode MTo_element.2.2.1 6 = .ok (.aload_n 3, 1) := by decide +kernel
theorem d_MTo_element_7 : decode MTo_element.2.2.1 7 = .ok (.ifnull 11, 3) := by decide +kernel
theorem d_MTo_element_10 : decode MTo_element.2.2.1 10 = .ok (.aload_n 3, 1) := by decide +kernel
theorem d_MTo_element_11 : decode MTo_element.2.2.1 11 = .ok (.iload_n 2, 1) := by decide +kernel
theorem d_MTo_element_12 : decode MTo_element.2.2.1 12 = .ok (.invokevirtual 261, 3) := by decide +kernel
theorem d_MTo_element_15 : decode MTo_element.2.2.1 15 = .ok (.ifCond .eq 9, 3) := by decide +kernel
theorem d_MTo_element_18 : decode MTo_element.2.2.1 18 = .ok (.ldc2_w 270, 3) := by decide +kernel
theorem d_MTo_element_21 : decode MTo_element.2.2.1 21 = .ok (.goto 8, 3) := by decide +kernel
theorem d_MTo_element_24 : decode MTo_element.2.2.1 24 = .ok (.aload_n 3, 1) := by decide +kernel
theorem d_MTo_element_25 : decode MTo_element.2.2.1 25 = .ok (.iload_n 2, 1) := by decide +kernel
theorem d_MTo_element_26 : decode MTo_element.2.2.1 26 = .ok (.invokevirtual 272, 3) := by decide +kernel
theorem d_MTo_element_29 : decode MTo_element.2.2.1 29 = .ok (.lreturn, 1) := by decide +kernel
theorem r_MTo_element_0 {l1 l2 l3 : Value} {x : Nat} : Rr X d MTo_element 0 [.ref x, l1, l2, l3] st h = Rr X d MTo_element 1 [.ref x, l1, l2, l3] (.ref x :: st) h := Rr_nx d_MTo_element_0 rfl
theorem r_MTo_element_1 {l0 l2 l3 : Value} {x : Int32} : Rr X d MTo_element 1 [l0, .int x, l2, l3] st h = Rr X d MTo_element 2 [l0, .int x, l2, l3] (.int x :: st) h := Rr_nx d_MTo_element_1 rfl
theorem r_MTo_element_2 {y0 : Int32} {a : Nat} (hO : qO a 9 = true) (hc : ckS st = true) : Rr X (d + 1) MTo_element 2 L (.int y0 :: .ref a :: st) (Wd mu la ro et) = (Rr X d MTo_shelfAt 0 [.ref a, .int y0] [] (Wd mu la ro et)).bind fun q => Rr X (d + 1) MTo_element 5 L (psh q.1 st) q.2 := R_iv (av := [.int y0]) d_MTo_element_2 fc_9_212 hO (ckS_le hc) rfl (Nat.le_of_ble_eq_true rfl) (Nat.le_of_ble_eq_true rfl)
theorem r_MTo_element_5 {l0 l1 l2 l3 : Value} {x : Nat} : Rr X d MTo_element 5 [l0, l1, l2, l3] (.ref x :: st) h = Rr X d MTo_element 6 (sL [l0, l1, l2, l3] 3 (.ref x)) st h := Rr_nx d_MTo_element_5 rfl
theorem r_MTo_element_5n {l0 l1 l2 l3 : Value} : Rr X d MTo_element 5 [l0, l1, l2, l3] (.null :: st) h = Rr X d MTo_element 6 (sL [l0, l1, l2, l3] 3 .null) st h := Rr_nx d_MTo_element_5 rfl
theorem r_MTo_element_6 {l0 l1 l2 : Value} {x : Nat} : Rr X d MTo_element 6 [l0, l1, l2, .ref x] st h = Rr X d MTo_element 7 [l0, l1, l2, .ref x] (.ref x :: st) h := Rr_nx d_MTo_element_6 rfl
theorem r_MTo_element_6n {l0 l1 l2 : Value} : Rr X d MTo_element 6 [l0, l1, l2, .null] st h = Rr X d MTo_element 7 [l0, l1, l2, .null] (.null :: st) h := Rr_nx d_MTo_element_6 rfl
theorem r_MTo_element_7 {x : Nat} : Rr X d MTo_element 7 L (.ref x :: st) h = Rr X d MTo_element 10 L st h := R_nul1 d_MTo_element_7
theorem r_MTo_element_7n : Rr X d MTo_element 7 L (.null :: st) h = Rr X d MTo_element 18 L st h := R_nul0 d_MTo_element_7 (by decide)
theorem r_MTo_element_10 {l0 l1 l2 : Value} {x : Nat} : Rr X d MTo_element 10 [l0, l1, l2, .ref x] st h = Rr X d MTo_element 11 [l0, l1, l2, .ref x] (.ref x :: st) h := Rr_nx d_MTo_element_10 rfl
theorem r_MTo_element_10n {l0 l1 l2 : Value} : Rr X d MTo_element 10 [l0, l1, l2, .null] st h = Rr X d MTo_element 11 [l0, l1, l2, .null] (.null :: st) h := Rr_nx d_MTo_element_10 rfl
theorem r_MTo_element_11 {l0 l1 l3 : Value} {x : Int32} : Rr X d MTo_element 11 [l0, l1, .int x, l3] st h = Rr X d MTo_element 12 [l0, l1, .int x, l3] (.int x :: st) h := Rr_nx d_MTo_element_11 rfl
theorem r_MTo_element_12 {y0 : Int32} {a : Nat} (hO : qO a 6 = true) (hc : ckS st = true) : Rr X (d + 1) MTo_element 12 L (.int y0 :: .ref a :: st) (Wd mu la ro et) = (Rr X d MSh_refusal 0 [.ref a, .int y0] [] (Wd mu la ro et)).bind fun q => Rr X (d + 1) MTo_element 15 L (psh q.1 st) q.2 := R_iv (av := [.int y0]) d_MTo_element_12 fc_9_261 hO (ckS_le hc) rfl (Nat.le_of_ble_eq_true rfl) (Nat.le_of_ble_eq_true rfl)
theorem r_MTo_element_15 {x : Int32} : Rr X d MTo_element 15 L (.int x :: st) h = if x = 0 then Rr X d MTo_element 24 L st h else Rr X d MTo_element 18 L st h := R_if_eq d_MTo_element_15 (by decide)
theorem r_MTo_element_18 : Rr X d MTo_element 18 L st h = Rr X d MTo_element 21 L (.long (-9223372036854775808) :: st) h := Rr_nx d_MTo_element_18 rfl
theorem r_MTo_element_21 : Rr X d MTo_element 21 L st h = Rr X d MTo_element 29 L st h := R_goto d_MTo_element_21 (by decide)
theorem r_MTo_element_24 {l0 l1 l2 : Value} {x : Nat} : Rr X d MTo_element 24 [l0, l1, l2, .ref x] st h = Rr X d MTo_element 25 [l0, l1, l2, .ref x] (.ref x :: st) h := Rr_nx d_MTo_element_24 rfl
theorem r_MTo_element_24n {l0 l1 l2 : Value} : Rr X d MTo_element 24 [l0, l1, l2, .null] st h = Rr X d MTo_element 25 [l0, l1, l2, .null] (.null :: st) h := Rr_nx d_MTo_element_24 rfl
theorem r_MTo_element_25 {l0 l1 l3 : Value} {x : Int32} : Rr X d MTo_element 25 [l0, l1, .int x, l3] st h = Rr X d MTo_element 26 [l0, l1, .int x, l3] (.int x :: st) h := Rr_nx d_MTo_element_25 rfl
theorem fc_9_272 : fC 9 272 = some (0, 6, 1, MSh_read) := rfl
theorem r_MTo_element_26 {y0 : Int32} {a : Nat} (hO : qO a 6 = true) (hc : ckS st = true) : Rr X (d + 1) MTo_element 26 L (.int y0 :: .ref a :: st) (Wd mu la ro et) = (Rr X d MSh_read 0 [.ref a, .int y0] [] (Wd mu la ro et)).bind fun q => Rr X (d + 1) MTo_element 29 L (psh q.1 st) q.2 := R_iv (av := [.int y0]) d_MTo_element_26 fc_9_272 hO (ckS_le hc) rfl (Nat.le_of_ble_eq_true rfl) (Nat.le_of_ble_eq_true rfl)
theorem r_MTo_element_29 {x : Int64} : Rr X d MTo_element 29 L [.long x] h = some (some (.long x), h) := Rr_rt d_MTo_element_29 rfl
theorem d_MTo_shift_0 : decode MTo_shift.2.2.1 0 = .ok (.aload_n 0, 1) := by decide +kernel
theorem d_MTo_shift_1 : decode MTo_shift.2.2.1 1 = .ok (.iload_n 1, 1) := by decide +kernel
theorem d_MTo_shift_2 : decode MTo_shift.2.2.1 2 = .ok (.invokevirtual 212, 3) := by decide +kernel
theorem d_MTo_shift_5 : decode MTo_shift.2.2.1 5 = .ok (.astore 6, 2) := by decide +kernel
theorem d_MTo_shift_7 : decode MTo_shift.2.2.1 7 = .ok (.aload_n 0, 1) := by decide +kernel
theorem d_MTo_shift_8 : decode MTo_shift.2.2.1 8 = .ok (.iload_n 3, 1) := by decide +kernel
theorem d_MTo_shift_9 : decode MTo_shift.2.2.1 9 = .ok (.invokevirtual 212, 3) := by decide +kernel
theorem d_MTo_shift_12 : decode MTo_shift.2.2.1 12 = .ok (.astore 7, 2) := by decide +kernel
theorem d_MTo_shift_14 : decode MTo_shift.2.2.1 14 = .ok (.aload 6, 2) := by decide +kernel
theorem d_MTo_shift_16 : decode MTo_shift.2.2.1 16 = .ok (.ifnull 8, 3) := by decide +kernel
theorem d_MTo_shift_19 : decode MTo_shift.2.2.1 19 = .ok (.aload 7, 2) := by decide +kernel
theorem d_MTo_shift_21 : decode MTo_shift.2.2.1 21 = .ok (.ifnonnull 5, 3) := by decide +kernel
theorem d_MTo_shift_24 : decode MTo_shift.2.2.1 24 = .ok (.iconst (-1), 1) := by decide +kernel
theorem d_MTo_shift_25 : decode MTo_shift.2.2.1 25 = .ok (.ireturn, 1) := by decide +kernel
theorem d_MTo_shift_26 : decode MTo_shift.2.2.1 26 = .ok (.aload 6, 2) := by decide +kernel
theorem d_MTo_shift_28 : decode MTo_shift.2.2.1 28 = .ok (.invokevirtual 216, 3) := by decide +kernel
theorem d_MTo_shift_31 : decode MTo_shift.2.2.1 31 = .ok (.ifCond .ne 11, 3) := by decide +kernel
theorem d_MTo_shift_34 : decode MTo_shift.2.2.1 34 = .ok (.aload 7, 2) := by decide +kernel
theorem d_MTo_shift_36 : decode MTo_shift.2.2.1 36 = .ok (.invokevirtual 216, 3) := by decide +kernel
theorem d_MTo_shift_39 : decode MTo_shift.2.2.1 39 = .ok (.ifCond .eq 6, 3) := by decide +kernel
theorem d_MTo_shift_42 : decode MTo_shift.2.2.1 42 = .ok (.bipush (-11), 2) := by decide +kernel
theorem d_MTo_shift_44 : decode MTo_shift.2.2.1 44 = .ok (.ireturn, 1) := by decide +kernel
theorem d_MTo_shift_45 : decode MTo_shift.2.2.1 45 = .ok (.aload 6, 2) := by decide +kernel
theorem d_MTo_shift_47 : decode MTo_shift.2.2.1 47 = .ok (.invokevirtual 276, 3) := by decide +kernel
theorem d_MTo_shift_50 : decode MTo_shift.2.2.1 50 = .ok (.ifCond .eq 16, 3) := by decide +kernel
theorem d_MTo_shift_53 : decode MTo_shift.2.2.1 53 = .ok (.aload 7, 2) := by decide +kernel
theorem d_MTo_shift_55 : decode MTo_shift.2.2.1 55 = .ok (.aload 6, 2) := by decide +kernel
theorem d_MTo_shift_57 : decode MTo_shift.2.2.1 57 = .ok (.getfield 279, 3) := by decide +kernel
theorem d_MTo_shift_60 : decode MTo_shift.2.2.1 60 = .ok (.invokevirtual 219, 3) := by decide +kernel
theorem d_MTo_shift_63 : decode MTo_shift.2.2.1 63 = .ok (.ifCond .ne 6, 3) := by decide +kernel
theorem d_MTo_shift_66 : decode MTo_shift.2.2.1 66 = .ok (.bipush (-12), 2) := by decide +kernel
theorem d_MTo_shift_68 : decode MTo_shift.2.2.1 68 = .ok (.ireturn, 1) := by decide +kernel
theorem d_MTo_shift_69 : decode MTo_shift.2.2.1 69 = .ok (.aload 6, 2) := by decide +kernel
theorem d_MTo_shift_71 : decode MTo_shift.2.2.1 71 = .ok (.iload_n 2, 1) := by decide +kernel
theorem d_MTo_shift_72 : decode MTo_shift.2.2.1 72 = .ok (.iload 5, 2) := by decide +kernel
theorem d_MTo_shift_74 : decode MTo_shift.2.2.1 74 = .ok (.invokevirtual 282, 3) := by decide +kernel
theorem d_MTo_shift_77 : decode MTo_shift.2.2.1 77 = .ok (.ifCond .eq 15, 3) := by decide +kernel
theorem d_MTo_shift_80 : decode MTo_shift.2.2.1 80 = .ok (.aload 7, 2) := by decide +kernel
theorem d_MTo_shift_82 : decode MTo_shift.2.2.1 82 = .ok (.iload 4, 2) := by decide +kernel
theorem d_MTo_shift_84 : decode MTo_shift.2.2.1 84 = .ok (.iload 5, 2) := by decide +kernel
theorem d_MTo_shift_86 : decode MTo_shift.2.2.1 86 = .ok (.invokevirtual 282, 3) := by decide +kernel
theorem d_MTo_shift_89 : decode MTo_shift.2.2.1 89 = .ok (.ifCond .ne 6, 3) := by decide +kernel
theorem d_MTo_shift_92 : decode MTo_shift.2.2.1 92 = .ok (.bipush (-13), 2) := by decide +kernel
theorem d_MTo_shift_94 : decode MTo_shift.2.2.1 94 = .ok (.ireturn, 1) := by decide +kernel
theorem d_MTo_shift_95 : decode MTo_shift.2.2.1 95 = .ok (.aload 6, 2) := by decide +kernel
theorem d_MTo_shift_97 : decode MTo_shift.2.2.1 97 = .ok (.getfield 285, 3) := by decide +kernel
theorem d_MTo_shift_100 : decode MTo_shift.2.2.1 100 = .ok (.iload_n 2, 1) := by decide +kernel
theorem d_MTo_shift_101 : decode MTo_shift.2.2.1 101 = .ok (.aload 7, 2) := by decide +kernel
theorem d_MTo_shift_103 : decode MTo_shift.2.2.1 103 = .ok (.getfield 285, 3) := by decide +kernel
theorem d_MTo_shift_106 : decode MTo_shift.2.2.1 106 = .ok (.iload 4, 2) := by decide +kernel
theorem d_MTo_shift_108 : decode MTo_shift.2.2.1 108 = .ok (.iload 5, 2) := by decide +kernel
theorem d_MTo_shift_110 : decode MTo_shift.2.2.1 110 = .ok (.invokestatic 289, 3) := by decide +kernel
theorem d_MTo_shift_113 : decode MTo_shift.2.2.1 113 = .ok (.iload 5, 2) := by decide +kernel
theorem d_MTo_shift_115 : decode MTo_shift.2.2.1 115 = .ok (.ireturn, 1) := by decide +kernel
theorem r_MTo_shift_0 {l1 l2 l3 l4 l5 l6 l7 : Value} {x : Nat} : Rr X d MTo_shift 0 [.ref x, l1, l2, l3, l4, l5, l6, l7] st h = Rr X d MTo_shift 1 [.ref x, l1, l2, l3, l4, l5, l6, l7] (.ref x :: st) h := Rr_nx d_MTo_shift_0 rfl
theorem r_MTo_shift_1 {l0 l2 l3 l4 l5 l6 l7 : Value} {x : Int32} : Rr X d MTo_shift 1 [l0, .int x, l2, l3, l4, l5, l6, l7] st h = Rr X d MTo_shift 2 [l0, .int x, l2, l3, l4, l5, l6, l7] (.int x :: st) h := Rr_nx d_MTo_shift_1 rfl
theorem r_MTo_shift_2 {y0 : Int32} {a : Nat} (hO : qO a 9 = true) (hc : ckS st = true) : Rr X (d + 1) MTo_shift 2 L (.int y0 :: .ref a :: st) (Wd mu la ro et) = (Rr X d MTo_shelfAt 0 [.ref a, .int y0] [] (Wd mu la ro et)).bind fun q => Rr X (d + 1) MTo_shift 5 L (psh q.1 st) q.2 := R_iv (av := [.int y0]) d_MTo_shift_2 fc_9_212 hO (ckS_le hc) rfl (Nat.le_of_ble_eq_true rfl) (Nat.le_of_ble_eq_true rfl)
theorem r_MTo_shift_5 {l0 l1 l2 l3 l4 l5 l6 l7 : Value} {x : Nat} : Rr X d MTo_shift 5 [l0, l1, l2, l3, l4, l5, l6, l7] (.ref x :: st) h = Rr X d MTo_shift 7 (sL [l0, l1, l2, l3, l4, l5, l6, l7] 6 (.ref x)) st h := Rr_nx d_MTo_shift_5 rfl
theorem r_MTo_shift_5n {l0 l1 l2 l3 l4 l5 l6 l7 : Value} : Rr X d MTo_shift 5 [l0, l1, l2, l3, l4, l5, l6, l7] (.null :: st) h = Rr X d MTo_shift 7 (sL [l0, l1, l2, l3, l4, l5, l6, l7] 6 .null) st h := Rr_nx d_MTo_shift_5 rfl
theorem r_MTo_shift_7 {l1 l2 l3 l4 l5 l6 l7 : Value} {x : Nat} : Rr X d MTo_shift 7 [.ref x, l1, l2, l3, l4, l5, l6, l7] st h = Rr X d MTo_shift 8 [.ref x, l1, l2, l3, l4, l5, l6, l7] (.ref x :: st) h := Rr_nx d_MTo_shift_7 rfl
theorem r_MTo_shift_8 {l0 l1 l2 l4 l5 l6 l7 : Value} {x : Int32} : Rr X d MTo_shift 8 [l0, l1, l2, .int x, l4, l5, l6, l7] st h = Rr X d MTo_shift 9 [l0, l1, l2, .int x, l4, l5, l6, l7] (.int x :: st) h := Rr_nx d_MTo_shift_8 rfl
theorem r_MTo_shift_9 {y0 : Int32} {a : Nat} (hO : qO a 9 = true) (hc : ckS st = true) : Rr X (d + 1) MTo_shift 9 L (.int y0 :: .ref a :: st) (Wd mu la ro et) = (Rr X d MTo_shelfAt 0 [.ref a, .int y0] [] (Wd mu la ro et)).bind fun q => Rr X (d + 1) MTo_shift 12 L (psh q.1 st) q.2 := R_iv (av := [.int y0]) d_MTo_shift_9 fc_9_212 hO (ckS_le hc) rfl (Nat.le_of_ble_eq_true rfl) (Nat.le_of_ble_eq_true rfl)
theorem r_MTo_shift_12 {l0 l1 l2 l3 l4 l5 l6 l7 : Value} {x : Nat} : Rr X d MTo_shift 12 [l0, l1, l2, l3, l4, l5, l6, l7] (.ref x :: st) h = Rr X d MTo_shift 14 (sL [l0, l1, l2, l3, l4, l5, l6, l7] 7 (.ref x)) st h := Rr_nx d_MTo_shift_12 rfl
theorem r_MTo_shift_12n {l0 l1 l2 l3 l4 l5 l6 l7 : Value} : Rr X d MTo_shift 12 [l0, l1, l2, l3, l4, l5, l6, l7] (.null :: st) h = Rr X d MTo_shift 14 (sL [l0, l1, l2, l3, l4, l5, l6, l7] 7 .null) st h := Rr_nx d_MTo_shift_12 rfl
theorem r_MTo_shift_14 {l0 l1 l2 l3 l4 l5 l7 : Value} {x : Nat} : Rr X d MTo_shift 14 [l0, l1, l2, l3, l4, l5, .ref x, l7] st h = Rr X d MTo_shift 16 [l0, l1, l2, l3, l4, l5, .ref x, l7] (.ref x :: st) h := Rr_nx d_MTo_shift_14 rfl
theorem r_MTo_shift_14n {l0 l1 l2 l3 l4 l5 l7 : Value} : Rr X d MTo_shift 14 [l0, l1, l2, l3, l4, l5, .null, l7] st h = Rr X d MTo_shift 16 [l0, l1, l2, l3, l4, l5, .null, l7] (.null :: st) h := Rr_nx d_MTo_shift_14 rfl
theorem r_MTo_shift_16 {x : Nat} : Rr X d MTo_shift 16 L (.ref x :: st) h = Rr X d MTo_shift 19 L st h := R_nul1 d_MTo_shift_16
theorem r_MTo_shift_16n : Rr X d MTo_shift 16 L (.null :: st) h = Rr X d MTo_shift 24 L st h := R_nul0 d_MTo_shift_16 (by decide)
theorem r_MTo_shift_19 {l0 l1 l2 l3 l4 l5 l6 : Value} {x : Nat} : Rr X d MTo_shift 19 [l0, l1, l2, l3, l4, l5, l6, .ref x] st h = Rr X d MTo_shift 21 [l0, l1, l2, l3, l4, l5, l6, .ref x] (.ref x :: st) h := Rr_nx d_MTo_shift_19 rfl
theorem r_MTo_shift_19n {l0 l1 l2 l3 l4 l5 l6 : Value} : Rr X d MTo_shift 19 [l0, l1, l2, l3, l4, l5, l6, .null] st h = Rr X d MTo_shift 21 [l0, l1, l2, l3, l4, l5, l6, .null] (.null :: st) h := Rr_nx d_MTo_shift_19 rfl
theorem r_MTo_shift_21 {x : Nat} : Rr X d MTo_shift 21 L (.ref x :: st) h = Rr X d MTo_shift 26 L st h := R_nnl1 d_MTo_shift_21 (by decide)
theorem r_MTo_shift_21n : Rr X d MTo_shift 21 L (.null :: st) h = Rr X d MTo_shift 24 L st h := R_nnl0 d_MTo_shift_21
theorem r_MTo_shift_24 : Rr X d MTo_shift 24 L st h = Rr X d MTo_shift 25 L (.int (-1) :: st) h := Rr_nx d_MTo_shift_24 rfl
theorem r_MTo_shift_25 {x : Int32} : Rr X d MTo_shift 25 L [.int x] h = some (some (.int x), h) := R_ir d_MTo_shift_25 rfl
theorem r_MTo_shift_26 {l0 l1 l2 l3 l4 l5 l7 : Value} {x : Nat} : Rr X d MTo_shift 26 [l0, l1, l2, l3, l4, l5, .ref x, l7] st h = Rr X d MTo_shift 28 [l0, l1, l2, l3, l4, l5, .ref x, l7] (.ref x :: st) h := Rr_nx d_MTo_shift_26 rfl
theorem r_MTo_shift_26n {l0 l1 l2 l3 l4 l5 l7 : Value} : Rr X d MTo_shift 26 [l0, l1, l2, l3, l4, l5, .null, l7] st h = Rr X d MTo_shift 28 [l0, l1, l2, l3, l4, l5, .null, l7] (.null :: st) h := Rr_nx d_MTo_shift_26 rfl
theorem r_MTo_shift_28 {a : Nat} (hO : qO a 6 = true) (hc : ckS st = true) : Rr X (d + 1) MTo_shift 28 L (.ref a :: st) (Wd mu la ro et) = (Rr X d MSh_isEmpty 0 [.ref a] [] (Wd mu la ro et)).bind fun q => Rr X (d + 1) MTo_shift 31 L (psh q.1 st) q.2 := R_iv (av := []) d_MTo_shift_28 fc_9_216 hO (ckS_le hc) rfl (Nat.le_of_ble_eq_true rfl) (Nat.le_of_ble_eq_true rfl)
theorem r_MTo_shift_31 {x : Int32} : Rr X d MTo_shift 31 L (.int x :: st) h = if ¬ x = 0 then Rr X d MTo_shift 42 L st h else Rr X d MTo_shift 34 L st h := R_if_ne d_MTo_shift_31 (by decide)
theorem r_MTo_shift_34 {l0 l1 l2 l3 l4 l5 l6 : Value} {x : Nat} : Rr X d MTo_shift 34 [l0, l1, l2, l3, l4, l5, l6, .ref x] st h = Rr X d MTo_shift 36 [l0, l1, l2, l3, l4, l5, l6, .ref x] (.ref x :: st) h := Rr_nx d_MTo_shift_34 rfl
theorem r_MTo_shift_34n {l0 l1 l2 l3 l4 l5 l6 : Value} : Rr X d MTo_shift 34 [l0, l1, l2, l3, l4, l5, l6, .null] st h = Rr X d MTo_shift 36 [l0, l1, l2, l3, l4, l5, l6, .null] (.null :: st) h := Rr_nx d_MTo_shift_34 rfl
theorem r_MTo_shift_36 {a : Nat} (hO : qO a 6 = true) (hc : ckS st = true) : Rr X (d + 1) MTo_shift 36 L (.ref a :: st) (Wd mu la ro et) = (Rr X d MSh_isEmpty 0 [.ref a] [] (Wd mu la ro et)).bind fun q => Rr X (d + 1) MTo_shift 39 L (psh q.1 st) q.2 := R_iv (av := []) d_MTo_shift_36 fc_9_216 hO (ckS_le hc) rfl (Nat.le_of_ble_eq_true rfl) (Nat.le_of_ble_eq_true rfl)
theorem r_MTo_shift_39 {x : Int32} : Rr X d MTo_shift 39 L (.int x :: st) h = if x = 0 then Rr X d MTo_shift 45 L st h else Rr X d MTo_shift 42 L st h := R_if_eq d_MTo_shift_39 (by decide)
theorem r_MTo_shift_42 : Rr X d MTo_shift 42 L st h = Rr X d MTo_shift 44 L (.int (-11) :: st) h := Rr_nx d_MTo_shift_42 rfl
theorem r_MTo_shift_44 {x : Int32} : Rr X d MTo_shift 44 L [.int x] h = some (some (.int x), h) := R_ir d_MTo_shift_44 rfl
theorem r_MTo_shift_45 {l0 l1 l2 l3 l4 l5 l7 : Value} {x : Nat} : Rr X d MTo_shift 45 [l0, l1, l2, l3, l4, l5, .ref x, l7] st h = Rr X d MTo_shift 47 [l0, l1, l2, l3, l4, l5, .ref x, l7] (.ref x :: st) h := Rr_nx d_MTo_shift_45 rfl
theorem r_MTo_shift_45n {l0 l1 l2 l3 l4 l5 l7 : Value} : Rr X d MTo_shift 45 [l0, l1, l2, l3, l4, l5, .null, l7] st h = Rr X d MTo_shift 47 [l0, l1, l2, l3, l4, l5, .null, l7] (.null :: st) h := Rr_nx d_MTo_shift_45 rfl
theorem fc_9_276 : fC 9 276 = some (0, 6, 0, MSh_isRow) := rfl
theorem r_MTo_shift_47 {a : Nat} (hO : qO a 6 = true) (hc : ckS st = true) : Rr X (d + 1) MTo_shift 47 L (.ref a :: st) (Wd mu la ro et) = (Rr X d MSh_isRow 0 [.ref a] [] (Wd mu la ro et)).bind fun q => Rr X (d + 1) MTo_shift 50 L (psh q.1 st) q.2 := R_iv (av := []) d_MTo_shift_47 fc_9_276 hO (ckS_le hc) rfl (Nat.le_of_ble_eq_true rfl) (Nat.le_of_ble_eq_true rfl)
theorem r_MTo_shift_50 {x : Int32} : Rr X d MTo_shift 50 L (.int x :: st) h = if x = 0 then Rr X d MTo_shift 66 L st h else Rr X d MTo_shift 53 L st h := R_if_eq d_MTo_shift_50 (by decide)
theorem r_MTo_shift_53 {l0 l1 l2 l3 l4 l5 l6 : Value} {x : Nat} : Rr X d MTo_shift 53 [l0, l1, l2, l3, l4, l5, l6, .ref x] st h = Rr X d MTo_shift 55 [l0, l1, l2, l3, l4, l5, l6, .ref x] (.ref x :: st) h := Rr_nx d_MTo_shift_53 rfl
theorem r_MTo_shift_53n {l0 l1 l2 l3 l4 l5 l6 : Value} : Rr X d MTo_shift 53 [l0, l1, l2, l3, l4, l5, l6, .null] st h = Rr X d MTo_shift 55 [l0, l1, l2, l3, l4, l5, l6, .null] (.null :: st) h := Rr_nx d_MTo_shift_53 rfl
theorem r_MTo_shift_55 {l0 l1 l2 l3 l4 l5 l7 : Value} {x : Nat} : Rr X d MTo_shift 55 [l0, l1, l2, l3, l4, l5, .ref x, l7] st h = Rr X d MTo_shift 57 [l0, l1, l2, l3, l4, l5, .ref x, l7] (.ref x :: st) h := Rr_nx d_MTo_shift_55 rfl
theorem r_MTo_shift_55n {l0 l1 l2 l3 l4 l5 l7 : Value} : Rr X d MTo_shift 55 [l0, l1, l2, l3, l4, l5, .null, l7] st h = Rr X d MTo_shift 57 [l0, l1, l2, l3, l4, l5, .null, l7] (.null :: st) h := Rr_nx d_MTo_shift_55 rfl
theorem ff_9_279 : fF 9 279 = some (6, 2, 0, 0) := rfl
theorem r_MTo_shift_57 {a : Nat} (hq : qI a 6 2 = true) : Rr X d MTo_shift 57 L (.ref a :: st) (Wd mu la ro et) = Rr X d MTo_shift 60 L (.int (mu a 2) :: st) (Wd mu la ro et) := R_gfI d_MTo_shift_57 ff_9_279 hq
theorem r_MTo_shift_60 {y0 : Int32} {a : Nat} (hO : qO a 6 = true) (hc : ckS st = true) : Rr X (d + 1) MTo_shift 60 L (.int y0 :: .ref a :: st) (Wd mu la ro et) = (Rr X d MSh_isRowOf 0 [.ref a, .int y0] [] (Wd mu la ro et)).bind fun q => Rr X (d + 1) MTo_shift 63 L (psh q.1 st) q.2 := R_iv (av := [.int y0]) d_MTo_shift_60 fc_9_219 hO (ckS_le hc) rfl (Nat.le_of_ble_eq_true rfl) (Nat.le_of_ble_eq_true rfl)
theorem r_MTo_shift_63 {x : Int32} : Rr X d MTo_shift 63 L (.int x :: st) h = if ¬ x = 0 then Rr X d MTo_shift 69 L st h else Rr X d MTo_shift 66 L st h := R_if_ne d_MTo_shift_63 (by decide)
theorem r_MTo_shift_66 : Rr X d MTo_shift 66 L st h = Rr X d MTo_shift 68 L (.int (-12) :: st) h := Rr_nx d_MTo_shift_66 rfl
theorem r_MTo_shift_68 {x : Int32} : Rr X d MTo_shift 68 L [.int x] h = some (some (.int x), h) := R_ir d_MTo_shift_68 rfl
theorem r_MTo_shift_69 {l0 l1 l2 l3 l4 l5 l7 : Value} {x : Nat} : Rr X d MTo_shift 69 [l0, l1, l2, l3, l4, l5, .ref x, l7] st h = Rr X d MTo_shift 71 [l0, l1, l2, l3, l4, l5, .ref x, l7] (.ref x :: st) h := Rr_nx d_MTo_shift_69 rfl
theorem r_MTo_shift_69n {l0 l1 l2 l3 l4 l5 l7 : Value} : Rr X d MTo_shift 69 [l0, l1, l2, l3, l4, l5, .null, l7] st h = Rr X d MTo_shift 71 [l0, l1, l2, l3, l4, l5, .null, l7] (.null :: st) h := Rr_nx d_MTo_shift_69 rfl
theorem r_MTo_shift_71 {l0 l1 l3 l4 l5 l6 l7 : Value} {x : Int32} : Rr X d MTo_shift 71 [l0, l1, .int x, l3, l4, l5, l6, l7] st h = Rr X d MTo_shift 72 [l0, l1, .int x, l3, l4, l5, l6, l7] (.int x :: st) h := Rr_nx d_MTo_shift_71 rfl
theorem r_MTo_shift_72 {l0 l1 l2 l3 l4 l6 l7 : Value} {x : Int32} : Rr X d MTo_shift 72 [l0, l1, l2, l3, l4, .int x, l6, l7] st h = Rr X d MTo_shift 74 [l0, l1, l2, l3, l4, .int x, l6, l7] (.int x :: st) h := Rr_nx d_MTo_shift_72 rfl
theorem fc_9_282 : fC 9 282 = some (0, 6, 2, MSh_hasPlaces) := rfl
theorem r_MTo_shift_74 {y0 : Int32} {y1 : Int32} {a : Nat} (hO : qO a 6 = true) (hc : ckS st = true) : Rr X (d + 1) MTo_shift 74 L (.int y1 :: .int y0 :: .ref a :: st) (Wd mu la ro et) = (Rr X d MSh_hasPlaces 0 [.ref a, .int y0, .int y1] [] (Wd mu la ro et)).bind fun q => Rr X (d + 1) MTo_shift 77 L (psh q.1 st) q.2 := R_iv (av := [.int y1, .int y0]) d_MTo_shift_74 fc_9_282 hO (ckS_le hc) rfl (Nat.le_of_ble_eq_true rfl) (Nat.le_of_ble_eq_true rfl)
theorem r_MTo_shift_77 {x : Int32} : Rr X d MTo_shift 77 L (.int x :: st) h = if x = 0 then Rr X d MTo_shift 92 L st h else Rr X d MTo_shift 80 L st h := R_if_eq d_MTo_shift_77 (by decide)
theorem r_MTo_shift_80 {l0 l1 l2 l3 l4 l5 l6 : Value} {x : Nat} : Rr X d MTo_shift 80 [l0, l1, l2, l3, l4, l5, l6, .ref x] st h = Rr X d MTo_shift 82 [l0, l1, l2, l3, l4, l5, l6, .ref x] (.ref x :: st) h := Rr_nx d_MTo_shift_80 rfl
theorem r_MTo_shift_80n {l0 l1 l2 l3 l4 l5 l6 : Value} : Rr X d MTo_shift 80 [l0, l1, l2, l3, l4, l5, l6, .null] st h = Rr X d MTo_shift 82 [l0, l1, l2, l3, l4, l5, l6, .null] (.null :: st) h := Rr_nx d_MTo_shift_80 rfl
theorem r_MTo_shift_82 {l0 l1 l2 l3 l5 l6 l7 : Value} {x : Int32} : Rr X d MTo_shift 82 [l0, l1, l2, l3, .int x, l5, l6, l7] st h = Rr X d MTo_shift 84 [l0, l1, l2, l3, .int x, l5, l6, l7] (.int x :: st) h := Rr_nx d_MTo_shift_82 rfl
theorem r_MTo_shift_84 {l0 l1 l2 l3 l4 l6 l7 : Value} {x : Int32} : Rr X d MTo_shift 84 [l0, l1, l2, l3, l4, .int x, l6, l7] st h = Rr X d MTo_shift 86 [l0, l1, l2, l3, l4, .int x, l6, l7] (.int x :: st) h := Rr_nx d_MTo_shift_84 rfl
theorem r_MTo_shift_86 {y0 : Int32} {y1 : Int32} {a : Nat} (hO : qO a 6 = true) (hc : ckS st = true) : Rr X (d + 1) MTo_shift 86 L (.int y1 :: .int y0 :: .ref a :: st) (Wd mu la ro et) = (Rr X d MSh_hasPlaces 0 [.ref a, .int y0, .int y1] [] (Wd mu la ro et)).bind fun q => Rr X (d + 1) MTo_shift 89 L (psh q.1 st) q.2 := R_iv (av := [.int y1, .int y0]) d_MTo_shift_86 fc_9_282 hO (ckS_le hc) rfl (Nat.le_of_ble_eq_true rfl) (Nat.le_of_ble_eq_true rfl)
theorem r_MTo_shift_89 {x : Int32} : Rr X d MTo_shift 89 L (.int x :: st) h = if ¬ x = 0 then Rr X d MTo_shift 95 L st h else Rr X d MTo_shift 92 L st h := R_if_ne d_MTo_shift_89 (by decide)
theorem r_MTo_shift_92 : Rr X d MTo_shift 92 L st h = Rr X d MTo_shift 94 L (.int (-13) :: st) h := Rr_nx d_MTo_shift_92 rfl
theorem r_MTo_shift_94 {x : Int32} : Rr X d MTo_shift 94 L [.int x] h = some (some (.int x), h) := R_ir d_MTo_shift_94 rfl
theorem r_MTo_shift_95 {l0 l1 l2 l3 l4 l5 l7 : Value} {x : Nat} : Rr X d MTo_shift 95 [l0, l1, l2, l3, l4, l5, .ref x, l7] st h = Rr X d MTo_shift 97 [l0, l1, l2, l3, l4, l5, .ref x, l7] (.ref x :: st) h := Rr_nx d_MTo_shift_95 rfl
theorem r_MTo_shift_95n {l0 l1 l2 l3 l4 l5 l7 : Value} : Rr X d MTo_shift 95 [l0, l1, l2, l3, l4, l5, .null, l7] st h = Rr X d MTo_shift 97 [l0, l1, l2, l3, l4, l5, .null, l7] (.null :: st) h := Rr_nx d_MTo_shift_95 rfl
theorem ff_9_285 : fF 9 285 = some (6, 0, 1, 1) := rfl
theorem r_MTo_shift_97 {a : Nat} (hq : (qR a 6 0).isSome = true) : Rr X d MTo_shift 97 L (.ref a :: st) (Wd mu la ro et) = Rr X d MTo_shift 100 L (.ref (qRd a 6 0) :: st) (Wd mu la ro et) := R_gfR d_MTo_shift_97 ff_9_285 hq
theorem r_MTo_shift_100 {l0 l1 l3 l4 l5 l6 l7 : Value} {x : Int32} : Rr X d MTo_shift 100 [l0, l1, .int x, l3, l4, l5, l6, l7] st h = Rr X d MTo_shift 101 [l0, l1, .int x, l3, l4, l5, l6, l7] (.int x :: st) h := Rr_nx d_MTo_shift_100 rfl
theorem r_MTo_shift_101 {l0 l1 l2 l3 l4 l5 l6 : Value} {x : Nat} : Rr X d MTo_shift 101 [l0, l1, l2, l3, l4, l5, l6, .ref x] st h = Rr X d MTo_shift 103 [l0, l1, l2, l3, l4, l5, l6, .ref x] (.ref x :: st) h := Rr_nx d_MTo_shift_101 rfl
theorem r_MTo_shift_101n {l0 l1 l2 l3 l4 l5 l6 : Value} : Rr X d MTo_shift 101 [l0, l1, l2, l3, l4, l5, l6, .null] st h = Rr X d MTo_shift 103 [l0, l1, l2, l3, l4, l5, l6, .null] (.null :: st) h := Rr_nx d_MTo_shift_101 rfl
theorem r_MTo_shift_103 {a : Nat} (hq : (qR a 6 0).isSome = true) : Rr X d MTo_shift 103 L (.ref a :: st) (Wd mu la ro et) = Rr X d MTo_shift 106 L (.ref (qRd a 6 0) :: st) (Wd mu la ro et) := R_gfR d_MTo_shift_103 ff_9_285 hq
theorem r_MTo_shift_106 {l0 l1 l2 l3 l5 l6 l7 : Value} {x : Int32} : Rr X d MTo_shift 106 [l0, l1, l2, l3, .int x, l5, l6, l7] st h = Rr X d MTo_shift 108 [l0, l1, l2, l3, .int x, l5, l6, l7] (.int x :: st) h := Rr_nx d_MTo_shift_106 rfl
theorem r_MTo_shift_108 {l0 l1 l2 l3 l4 l6 l7 : Value} {x : Int32} : Rr X d MTo_shift 108 [l0, l1, l2, l3, l4, .int x, l6, l7] st h = Rr X d MTo_shift 110 [l0, l1, l2, l3, l4, .int x, l6, l7] (.int x :: st) h := Rr_nx d_MTo_shift_108 rfl
theorem r_MTo_shift_113 {l0 l1 l2 l3 l4 l6 l7 : Value} {x : Int32} : Rr X d MTo_shift 113 [l0, l1, l2, l3, l4, .int x, l6, l7] st h = Rr X d MTo_shift 115 [l0, l1, l2, l3, l4, .int x, l6, l7] (.int x :: st) h := Rr_nx d_MTo_shift_113 rfl
theorem r_MTo_shift_115 {x : Int32} : Rr X d MTo_shift 115 L [.int x] h = some (some (.int x), h) := R_ir d_MTo_shift_115 rfl
theorem d_MTo_taken_0 : decode MTo_taken.2.2.1 0 = .ok (.aload_n 0, 1) := by decide +kernel
theorem d_MTo_taken_1 : decode MTo_taken.2.2.1 1 = .ok (.iload_n 1, 1) := by decide +kernel
theorem d_MTo_taken_2 : decode MTo_taken.2.2.1 2 = .ok (.invokevirtual 212, 3) := by decide +kernel
theorem d_MTo_taken_5 : decode MTo_taken.2.2.1 5 = .ok (.astore_n 3, 1) := by decide +kernel
theorem d_MTo_taken_6 : decode MTo_taken.2.2.1 6 = .ok (.aload_n 3, 1) := by decide +kernel
theorem d_MTo_taken_7 : decode MTo_taken.2.2.1 7 = .ok (.ifnull 13, 3) := by decide +kernel
theorem d_MTo_taken_10 : decode MTo_taken.2.2.1 10 = .ok (.iload_n 2, 1) := by decide +kernel
theorem d_MTo_taken_11 : decode MTo_taken.2.2.1 11 = .ok (.iconst 0, 1) := by decide +kernel
theorem d_MTo_taken_12 : decode MTo_taken.2.2.1 12 = .ok (.bipush 7, 2) := by decide +kernel
theorem d_MTo_taken_14 : decode MTo_taken.2.2.1 14 = .ok (.invokestatic 72, 3) := by decide +kernel
theorem d_MTo_taken_17 : decode MTo_taken.2.2.1 17 = .ok (.ifCond .ne 5, 3) := by decide +kernel
theorem d_MTo_taken_20 : decode MTo_taken.2.2.1 20 = .ok (.iconst (-1), 1) := by decide +kernel
theorem d_MTo_taken_21 : decode MTo_taken.2.2.1 21 = .ok (.ireturn, 1) := by decide +kernel
theorem d_MTo_taken_22 : decode MTo_taken.2.2.1 22 = .ok (.aload_n 3, 1) := by decide +kernel
theorem d_MTo_taken_23 : decode MTo_taken.2.2.1 23 = .ok (.invokevirtual 216, 3) := by decide +kernel
theorem d_MTo_taken_26 : decode MTo_taken.2.2.1 26 = .ok (.ifCond .eq 6, 3) := by decide +kernel
theorem d_MTo_taken_29 : decode MTo_taken.2.2.1 29 = .ok (.bipush (-11), 2) := by decide +kernel
theorem d_MTo_taken_31 : decode MTo_taken.2.2.1 31 = .ok (.ireturn, 1) := by decide +kernel
theorem d_MTo_taken_32 : decode MTo_taken.2.2.1 32 = .ok (.aload_n 0, 1) := by decide +kernel
theorem d_MTo_taken_33 : decode MTo_taken.2.2.1 33 = .ok (.getfield 65, 3) := by decide +kernel
theorem d_MTo_taken_36 : decode MTo_taken.2.2.1 36 = .ok (.aload_n 3, 1) := by decide +kernel
theorem d_MTo_taken_37 : decode MTo_taken.2.2.1 37 = .ok (.getfield 295, 3) := by decide +kernel
theorem d_MTo_taken_40 : decode MTo_taken.2.2.1 40 = .ok (.invokevirtual 298, 3) := by decide +kernel
theorem d_MTo_taken_43 : decode MTo_taken.2.2.1 43 = .ok (.istore 4, 2) := by decide +kernel
theorem d_MTo_taken_45 : decode MTo_taken.2.2.1 45 = .ok (.iload 4, 2) := by decide +kernel
theorem d_MTo_taken_47 : decode MTo_taken.2.2.1 47 = .ok (.iload_n 2, 1) := by decide +kernel
theorem d_MTo_taken_48 : decode MTo_taken.2.2.1 48 = .ok (.invokestatic 301, 3) := by decide +kernel
theorem d_MTo_taken_51 : decode MTo_taken.2.2.1 51 = .ok (.ifCond .eq 8, 3) := by decide +kernel
theorem d_MTo_taken_54 : decode MTo_taken.2.2.1 54 = .ok (.iload 4, 2) := by decide +kernel
theorem d_MTo_taken_56 : decode MTo_taken.2.2.1 56 = .ok (.goto 5, 3) := by decide +kernel
theorem d_MTo_taken_59 : decode MTo_taken.2.2.1 59 = .ok (.bipush (-12), 2) := by decide +kernel
theorem d_MTo_taken_61 : decode MTo_taken.2.2.1 61 = .ok (.ireturn, 1) := by decide +kernel
theorem r_MTo_taken_0 {l1 l2 l3 l4 : Value} {x : Nat} : Rr X d MTo_taken 0 [.ref x, l1, l2, l3, l4] st h = Rr X d MTo_taken 1 [.ref x, l1, l2, l3, l4] (.ref x :: st) h := Rr_nx d_MTo_taken_0 rfl
theorem r_MTo_taken_1 {l0 l2 l3 l4 : Value} {x : Int32} : Rr X d MTo_taken 1 [l0, .int x, l2, l3, l4] st h = Rr X d MTo_taken 2 [l0, .int x, l2, l3, l4] (.int x :: st) h := Rr_nx d_MTo_taken_1 rfl
theorem r_MTo_taken_2 {y0 : Int32} {a : Nat} (hO : qO a 9 = true) (hc : ckS st = true) : Rr X (d + 1) MTo_taken 2 L (.int y0 :: .ref a :: st) (Wd mu la ro et) = (Rr X d MTo_shelfAt 0 [.ref a, .int y0] [] (Wd mu la ro et)).bind fun q => Rr X (d + 1) MTo_taken 5 L (psh q.1 st) q.2 := R_iv (av := [.int y0]) d_MTo_taken_2 fc_9_212 hO (ckS_le hc) rfl (Nat.le_of_ble_eq_true rfl) (Nat.le_of_ble_eq_true rfl)
theorem r_MTo_taken_5 {l0 l1 l2 l3 l4 : Value} {x : Nat} : Rr X d MTo_taken 5 [l0, l1, l2, l3, l4] (.ref x :: st) h = Rr X d MTo_taken 6 (sL [l0, l1, l2, l3, l4] 3 (.ref x)) st h := Rr_nx d_MTo_taken_5 rfl
theorem r_MTo_taken_5n {l0 l1 l2 l3 l4 : Value} : Rr X d MTo_taken 5 [l0, l1, l2, l3, l4] (.null :: st) h = Rr X d MTo_taken 6 (sL [l0, l1, l2, l3, l4] 3 .null) st h := Rr_nx d_MTo_taken_5 rfl
theorem r_MTo_taken_6 {l0 l1 l2 l4 : Value} {x : Nat} : Rr X d MTo_taken 6 [l0, l1, l2, .ref x, l4] st h = Rr X d MTo_taken 7 [l0, l1, l2, .ref x, l4] (.ref x :: st) h := Rr_nx d_MTo_taken_6 rfl
theorem r_MTo_taken_6n {l0 l1 l2 l4 : Value} : Rr X d MTo_taken 6 [l0, l1, l2, .null, l4] st h = Rr X d MTo_taken 7 [l0, l1, l2, .null, l4] (.null :: st) h := Rr_nx d_MTo_taken_6 rfl
theorem r_MTo_taken_7 {x : Nat} : Rr X d MTo_taken 7 L (.ref x :: st) h = Rr X d MTo_taken 10 L st h := R_nul1 d_MTo_taken_7
theorem r_MTo_taken_7n : Rr X d MTo_taken 7 L (.null :: st) h = Rr X d MTo_taken 20 L st h := R_nul0 d_MTo_taken_7 (by decide)
theorem r_MTo_taken_10 {l0 l1 l3 l4 : Value} {x : Int32} : Rr X d MTo_taken 10 [l0, l1, .int x, l3, l4] st h = Rr X d MTo_taken 11 [l0, l1, .int x, l3, l4] (.int x :: st) h := Rr_nx d_MTo_taken_10 rfl
theorem r_MTo_taken_11 : Rr X d MTo_taken 11 L st h = Rr X d MTo_taken 12 L (.int (0) :: st) h := Rr_nx d_MTo_taken_11 rfl
theorem r_MTo_taken_12 : Rr X d MTo_taken 12 L st h = Rr X d MTo_taken 14 L (.int (7) :: st) h := Rr_nx d_MTo_taken_12 rfl
theorem r_MTo_taken_14 {y0 : Int32} {y1 : Int32} {y2 : Int32} (hc : ckS st = true) : Rr X (d + 1) MTo_taken 14 L (.int y2 :: .int y1 :: .int y0 :: st) h = (Rr X d MTo_isWithin 0 [.int y0, .int y1, .int y2] [] h).bind fun q => Rr X (d + 1) MTo_taken 17 L (psh q.1 st) q.2 := R_is (av := [.int y2, .int y1, .int y0]) d_MTo_taken_14 (Or.inl fc_9_72) (ckS_le hc) rfl (Nat.le_of_ble_eq_true rfl) (Nat.le_of_ble_eq_true rfl)
theorem r_MTo_taken_17 {x : Int32} : Rr X d MTo_taken 17 L (.int x :: st) h = if ¬ x = 0 then Rr X d MTo_taken 22 L st h else Rr X d MTo_taken 20 L st h := R_if_ne d_MTo_taken_17 (by decide)
theorem r_MTo_taken_20 : Rr X d MTo_taken 20 L st h = Rr X d MTo_taken 21 L (.int (-1) :: st) h := Rr_nx d_MTo_taken_20 rfl
theorem r_MTo_taken_21 {x : Int32} : Rr X d MTo_taken 21 L [.int x] h = some (some (.int x), h) := R_ir d_MTo_taken_21 rfl
theorem r_MTo_taken_22 {l0 l1 l2 l4 : Value} {x : Nat} : Rr X d MTo_taken 22 [l0, l1, l2, .ref x, l4] st h = Rr X d MTo_taken 23 [l0, l1, l2, .ref x, l4] (.ref x :: st) h := Rr_nx d_MTo_taken_22 rfl
theorem r_MTo_taken_22n {l0 l1 l2 l4 : Value} : Rr X d MTo_taken 22 [l0, l1, l2, .null, l4] st h = Rr X d MTo_taken 23 [l0, l1, l2, .null, l4] (.null :: st) h := Rr_nx d_MTo_taken_22 rfl
theorem r_MTo_taken_23 {a : Nat} (hO : qO a 6 = true) (hc : ckS st = true) : Rr X (d + 1) MTo_taken 23 L (.ref a :: st) (Wd mu la ro et) = (Rr X d MSh_isEmpty 0 [.ref a] [] (Wd mu la ro et)).bind fun q => Rr X (d + 1) MTo_taken 26 L (psh q.1 st) q.2 := R_iv (av := []) d_MTo_taken_23 fc_9_216 hO (ckS_le hc) rfl (Nat.le_of_ble_eq_true rfl) (Nat.le_of_ble_eq_true rfl)
theorem r_MTo_taken_26 {x : Int32} : Rr X d MTo_taken 26 L (.int x :: st) h = if x = 0 then Rr X d MTo_taken 32 L st h else Rr X d MTo_taken 29 L st h := R_if_eq d_MTo_taken_26 (by decide)
theorem r_MTo_taken_29 : Rr X d MTo_taken 29 L st h = Rr X d MTo_taken 31 L (.int (-11) :: st) h := Rr_nx d_MTo_taken_29 rfl
theorem r_MTo_taken_31 {x : Int32} : Rr X d MTo_taken 31 L [.int x] h = some (some (.int x), h) := R_ir d_MTo_taken_31 rfl
theorem r_MTo_taken_32 {l1 l2 l3 l4 : Value} {x : Nat} : Rr X d MTo_taken 32 [.ref x, l1, l2, l3, l4] st h = Rr X d MTo_taken 33 [.ref x, l1, l2, l3, l4] (.ref x :: st) h := Rr_nx d_MTo_taken_32 rfl
theorem r_MTo_taken_33 {a : Nat} (hq : (qR a 9 8).isSome = true) : Rr X d MTo_taken 33 L (.ref a :: st) (Wd mu la ro et) = Rr X d MTo_taken 36 L (.ref (qRd a 9 8) :: st) (Wd mu la ro et) := R_gfR d_MTo_taken_33 ff_9_65 hq
theorem r_MTo_taken_36 {l0 l1 l2 l4 : Value} {x : Nat} : Rr X d MTo_taken 36 [l0, l1, l2, .ref x, l4] st h = Rr X d MTo_taken 37 [l0, l1, l2, .ref x, l4] (.ref x :: st) h := Rr_nx d_MTo_taken_36 rfl
theorem r_MTo_taken_36n {l0 l1 l2 l4 : Value} : Rr X d MTo_taken 36 [l0, l1, l2, .null, l4] st h = Rr X d MTo_taken 37 [l0, l1, l2, .null, l4] (.null :: st) h := Rr_nx d_MTo_taken_36 rfl
theorem ff_9_295 : fF 9 295 = some (6, 1, 0, 0) := rfl
theorem r_MTo_taken_37 {a : Nat} (hq : qI a 6 1 = true) : Rr X d MTo_taken 37 L (.ref a :: st) (Wd mu la ro et) = Rr X d MTo_taken 40 L (.int (mu a 1) :: st) (Wd mu la ro et) := R_gfI d_MTo_taken_37 ff_9_295 hq
theorem fc_9_298 : fC 9 298 = some (0, 0, 1, MBo_kindOf) := rfl
theorem r_MTo_taken_40 {y0 : Int32} {a : Nat} (hO : qO a 0 = true) (hc : ckS st = true) : Rr X (d + 1) MTo_taken 40 L (.int y0 :: .ref a :: st) (Wd mu la ro et) = (Rr X d MBo_kindOf 0 [.ref a, .int y0] [] (Wd mu la ro et)).bind fun q => Rr X (d + 1) MTo_taken 43 L (psh q.1 st) q.2 := R_iv (av := [.int y0]) d_MTo_taken_40 fc_9_298 hO (ckS_le hc) rfl (Nat.le_of_ble_eq_true rfl) (Nat.le_of_ble_eq_true rfl)
theorem r_MTo_taken_43 {l0 l1 l2 l3 l4 : Value} {x : Int32} : Rr X d MTo_taken 43 [l0, l1, l2, l3, l4] (.int x :: st) h = Rr X d MTo_taken 45 (sL [l0, l1, l2, l3, l4] 4 (.int x)) st h := Rr_nx d_MTo_taken_43 rfl
theorem r_MTo_taken_45 {l0 l1 l2 l3 : Value} {x : Int32} : Rr X d MTo_taken 45 [l0, l1, l2, l3, .int x] st h = Rr X d MTo_taken 47 [l0, l1, l2, l3, .int x] (.int x :: st) h := Rr_nx d_MTo_taken_45 rfl
theorem r_MTo_taken_47 {l0 l1 l3 l4 : Value} {x : Int32} : Rr X d MTo_taken 47 [l0, l1, .int x, l3, l4] st h = Rr X d MTo_taken 48 [l0, l1, .int x, l3, l4] (.int x :: st) h := Rr_nx d_MTo_taken_47 rfl
theorem fc_9_301 : fC 9 301 = some (1, 0, 2, MBo_isUnder) := rfl
theorem r_MTo_taken_48 {y0 : Int32} {y1 : Int32} (hc : ckS st = true) : Rr X (d + 1) MTo_taken 48 L (.int y1 :: .int y0 :: st) h = (Rr X d MBo_isUnder 0 [.int y0, .int y1, mkU, mkU] [] h).bind fun q => Rr X (d + 1) MTo_taken 51 L (psh q.1 st) q.2 := R_is (av := [.int y1, .int y0]) d_MTo_taken_48 (Or.inl fc_9_301) (ckS_le hc) rfl (Nat.le_of_ble_eq_true rfl) (Nat.le_of_ble_eq_true rfl)
theorem r_MTo_taken_51 {x : Int32} : Rr X d MTo_taken 51 L (.int x :: st) h = if x = 0 then Rr X d MTo_taken 59 L st h else Rr X d MTo_taken 54 L st h := R_if_eq d_MTo_taken_51 (by decide)
theorem r_MTo_taken_54 {l0 l1 l2 l3 : Value} {x : Int32} : Rr X d MTo_taken 54 [l0, l1, l2, l3, .int x] st h = Rr X d MTo_taken 56 [l0, l1, l2, l3, .int x] (.int x :: st) h := Rr_nx d_MTo_taken_54 rfl
theorem r_MTo_taken_56 : Rr X d MTo_taken 56 L st h = Rr X d MTo_taken 61 L st h := R_goto d_MTo_taken_56 (by decide)
theorem r_MTo_taken_59 : Rr X d MTo_taken 59 L st h = Rr X d MTo_taken 61 L (.int (-12) :: st) h := Rr_nx d_MTo_taken_59 rfl
theorem r_MTo_taken_61 {x : Int32} : Rr X d MTo_taken 61 L [.int x] h = some (some (.int x), h) := R_ir d_MTo_taken_61 rfl
theorem d_MTo_count_0 : decode MTo_count.2.2.1 0 = .ok (.iload_n 1, 1) := by decide +kernel
theorem d_MTo_count_1 : decode MTo_count.2.2.1 1 = .ok (.tableswitch 93 0 6 #[43, 48, 53, 61, 69, 77, 85], 43) := by decide +kernel
theorem d_MTo_count_44 : decode MTo_count.2.2.1 44 = .ok (.aload_n 0, 1) := by decide +kernel
theorem d_MTo_count_45 : decode MTo_count.2.2.1 45 = .ok (.getfield 84, 3) := by decide +kernel
theorem d_MTo_count_48 : decode MTo_count.2.2.1 48 = .ok (.ireturn, 1) := by decide +kernel
theorem d_MTo_count_49 : decode MTo_count.2.2.1 49 = .ok (.aload_n 0, 1) := by decide +kernel
theorem d_MTo_count_50 : decode MTo_count.2.2.1 50 = .ok (.getfield 127, 3) := by decide +kernel
theorem d_MTo_count_53 : decode MTo_count.2.2.1 53 = .ok (.ireturn, 1) := by decide +kernel
theorem d_MTo_count_54 : decode MTo_count.2.2.1 54 = .ok (.aload_n 0, 1) := by decide +kernel
theorem d_MTo_count_55 : decode MTo_count.2.2.1 55 = .ok (.getfield 51, 3) := by decide +kernel
theorem d_MTo_count_58 : decode MTo_count.2.2.1 58 = .ok (.getfield 211, 3) := by decide +kernel
theorem d_MTo_count_61 : decode MTo_count.2.2.1 61 = .ok (.ireturn, 1) := by decide +kernel
theorem d_MTo_count_62 : decode MTo_count.2.2.1 62 = .ok (.aload_n 0, 1) := by decide +kernel
theorem d_MTo_count_63 : decode MTo_count.2.2.1 63 = .ok (.getfield 10, 3) := by decide +kernel
theorem d_MTo_count_66 : decode MTo_count.2.2.1 66 = .ok (.getfield 76, 3) := by decide +kernel
theorem d_MTo_count_69 : decode MTo_count.2.2.1 69 = .ok (.ireturn, 1) := by decide +kernel
theorem d_MTo_count_70 : decode MTo_count.2.2.1 70 = .ok (.aload_n 0, 1) := by decide +kernel
theorem d_MTo_count_71 : decode MTo_count.2.2.1 71 = .ok (.getfield 58, 3) := by decide +kernel
theorem d_MTo_count_74 : decode MTo_count.2.2.1 74 = .ok (.getfield 237, 3) := by decide +kernel
theorem d_MTo_count_77 : decode MTo_count.2.2.1 77 = .ok (.ireturn, 1) := by decide +kernel
theorem d_MTo_count_78 : decode MTo_count.2.2.1 78 = .ok (.aload_n 0, 1) := by decide +kernel
theorem d_MTo_count_79 : decode MTo_count.2.2.1 79 = .ok (.getfield 65, 3) := by decide +kernel
theorem d_MTo_count_82 : decode MTo_count.2.2.1 82 = .ok (.getfield 248, 3) := by decide +kernel
theorem d_MTo_count_85 : decode MTo_count.2.2.1 85 = .ok (.ireturn, 1) := by decide +kernel
theorem d_MTo_count_86 : decode MTo_count.2.2.1 86 = .ok (.aload_n 0, 1) := by decide +kernel
theorem d_MTo_count_87 : decode MTo_count.2.2.1 87 = .ok (.getfield 65, 3) := by decide +kernel
theorem d_MTo_count_90 : decode MTo_count.2.2.1 90 = .ok (.getfield 304, 3) := by decide +kernel
theorem d_MTo_count_93 : decode MTo_count.2.2.1 93 = .ok (.ireturn, 1) := by decide +kernel
theorem d_MTo_count_94 : decode MTo_count.2.2.1 94 = .ok (.iconst (-1), 1) := by decide +kernel
theorem d_MTo_count_95 : decode MTo_count.2.2.1 95 = .ok (.ireturn, 1) := by decide +kernel
theorem r_MTo_count_0 {l0 : Value} {x : Int32} : Rr X d MTo_count 0 [l0, .int x] st h = Rr X d MTo_count 1 [l0, .int x] (.int x :: st) h := Rr_nx d_MTo_count_0 rfl
theorem r_MTo_count_1_0 : Rr X d MTo_count 1 L (.int (0) :: st) h = Rr X d MTo_count 44 L st h := R_tab (off := 43) d_MTo_count_1 (by decide) (by decide) (by decide)
theorem r_MTo_count_1_1 : Rr X d MTo_count 1 L (.int (1) :: st) h = Rr X d MTo_count 49 L st h := R_tab (off := 48) d_MTo_count_1 (by decide) (by decide) (by decide)
theorem r_MTo_count_1_2 : Rr X d MTo_count 1 L (.int (2) :: st) h = Rr X d MTo_count 54 L st h := R_tab (off := 53) d_MTo_count_1 (by decide) (by decide) (by decide)
theorem r_MTo_count_1_3 : Rr X d MTo_count 1 L (.int (3) :: st) h = Rr X d MTo_count 62 L st h := R_tab (off := 61) d_MTo_count_1 (by decide) (by decide) (by decide)
theorem r_MTo_count_1_4 : Rr X d MTo_count 1 L (.int (4) :: st) h = Rr X d MTo_count 70 L st h := R_tab (off := 69) d_MTo_count_1 (by decide) (by decide) (by decide)
theorem r_MTo_count_1_5 : Rr X d MTo_count 1 L (.int (5) :: st) h = Rr X d MTo_count 78 L st h := R_tab (off := 77) d_MTo_count_1 (by decide) (by decide) (by decide)
theorem r_MTo_count_1_6 : Rr X d MTo_count 1 L (.int (6) :: st) h = Rr X d MTo_count 86 L st h := R_tab (off := 85) d_MTo_count_1 (by decide) (by decide) (by decide)
theorem r_MTo_count_1D {x : Int32} (hx : x.toInt < 0 ∨ 6 < x.toInt) : Rr X d MTo_count 1 L (.int x :: st) h = Rr X d MTo_count 94 L st h := R_tabD d_MTo_count_1 hx (by decide)
theorem r_MTo_count_44 {l1 : Value} {x : Nat} : Rr X d MTo_count 44 [.ref x, l1] st h = Rr X d MTo_count 45 [.ref x, l1] (.ref x :: st) h := Rr_nx d_MTo_count_44 rfl
theorem r_MTo_count_45 {a : Nat} (hq : qI a 9 9 = true) : Rr X d MTo_count 45 L (.ref a :: st) (Wd mu la ro et) = Rr X d MTo_count 48 L (.int (mu a 9) :: st) (Wd mu la ro et) := R_gfI d_MTo_count_45 ff_9_84 hq
theorem r_MTo_count_48 {x : Int32} : Rr X d MTo_count 48 L [.int x] h = some (some (.int x), h) := R_ir d_MTo_count_48 rfl
theorem r_MTo_count_49 {l1 : Value} {x : Nat} : Rr X d MTo_count 49 [.ref x, l1] st h = Rr X d MTo_count 50 [.ref x, l1] (.ref x :: st) h := Rr_nx d_MTo_count_49 rfl
theorem r_MTo_count_50 {a : Nat} (hq : qI a 9 10 = true) : Rr X d MTo_count 50 L (.ref a :: st) (Wd mu la ro et) = Rr X d MTo_count 53 L (.int (mu a 10) :: st) (Wd mu la ro et) := R_gfI d_MTo_count_50 ff_9_127 hq
theorem r_MTo_count_53 {x : Int32} : Rr X d MTo_count 53 L [.int x] h = some (some (.int x), h) := R_ir d_MTo_count_53 rfl
theorem r_MTo_count_54 {l1 : Value} {x : Nat} : Rr X d MTo_count 54 [.ref x, l1] st h = Rr X d MTo_count 55 [.ref x, l1] (.ref x :: st) h := Rr_nx d_MTo_count_54 rfl
theorem r_MTo_count_55 {a : Nat} (hq : (qR a 9 6).isSome = true) : Rr X d MTo_count 55 L (.ref a :: st) (Wd mu la ro et) = Rr X d MTo_count 58 L (.ref (qRd a 9 6) :: st) (Wd mu la ro et) := R_gfR d_MTo_count_55 ff_9_51 hq
theorem r_MTo_count_58 {a : Nat} (hq : qI a 2 2 = true) : Rr X d MTo_count 58 L (.ref a :: st) (Wd mu la ro et) = Rr X d MTo_count 61 L (.int (mu a 2) :: st) (Wd mu la ro et) := R_gfI d_MTo_count_58 ff_9_211 hq
theorem r_MTo_count_61 {x : Int32} : Rr X d MTo_count 61 L [.int x] h = some (some (.int x), h) := R_ir d_MTo_count_61 rfl
theorem r_MTo_count_62 {l1 : Value} {x : Nat} : Rr X d MTo_count 62 [.ref x, l1] st h = Rr X d MTo_count 63 [.ref x, l1] (.ref x :: st) h := Rr_nx d_MTo_count_62 rfl
theorem r_MTo_count_63 {a : Nat} (hq : (qR a 9 0).isSome = true) : Rr X d MTo_count 63 L (.ref a :: st) (Wd mu la ro et) = Rr X d MTo_count 66 L (.ref (qRd a 9 0) :: st) (Wd mu la ro et) := R_gfR d_MTo_count_63 ff_9_10 hq
theorem r_MTo_count_66 {a : Nat} (hq : qI a 8 1 = true) : Rr X d MTo_count 66 L (.ref a :: st) (Wd mu la ro et) = Rr X d MTo_count 69 L (.int (mu a 1) :: st) (Wd mu la ro et) := R_gfI d_MTo_count_66 ff_9_76 hq
theorem r_MTo_count_69 {x : Int32} : Rr X d MTo_count 69 L [.int x] h = some (some (.int x), h) := R_ir d_MTo_count_69 rfl
theorem r_MTo_count_70 {l1 : Value} {x : Nat} : Rr X d MTo_count 70 [.ref x, l1] st h = Rr X d MTo_count 71 [.ref x, l1] (.ref x :: st) h := Rr_nx d_MTo_count_70 rfl
theorem r_MTo_count_71 {a : Nat} (hq : (qR a 9 7).isSome = true) : Rr X d MTo_count 71 L (.ref a :: st) (Wd mu la ro et) = Rr X d MTo_count 74 L (.ref (qRd a 9 7) :: st) (Wd mu la ro et) := R_gfR d_MTo_count_71 ff_9_58 hq
theorem r_MTo_count_74 {a : Nat} (hq : qI a 1 1 = true) : Rr X d MTo_count 74 L (.ref a :: st) (Wd mu la ro et) = Rr X d MTo_count 77 L (.int (mu a 1) :: st) (Wd mu la ro et) := R_gfI d_MTo_count_74 ff_9_237 hq
theorem r_MTo_count_77 {x : Int32} : Rr X d MTo_count 77 L [.int x] h = some (some (.int x), h) := R_ir d_MTo_count_77 rfl
theorem r_MTo_count_78 {l1 : Value} {x : Nat} : Rr X d MTo_count 78 [.ref x, l1] st h = Rr X d MTo_count 79 [.ref x, l1] (.ref x :: st) h := Rr_nx d_MTo_count_78 rfl
theorem r_MTo_count_79 {a : Nat} (hq : (qR a 9 8).isSome = true) : Rr X d MTo_count 79 L (.ref a :: st) (Wd mu la ro et) = Rr X d MTo_count 82 L (.ref (qRd a 9 8) :: st) (Wd mu la ro et) := R_gfR d_MTo_count_79 ff_9_65 hq
theorem r_MTo_count_82 {a : Nat} (hq : qI a 0 2 = true) : Rr X d MTo_count 82 L (.ref a :: st) (Wd mu la ro et) = Rr X d MTo_count 85 L (.int (mu a 2) :: st) (Wd mu la ro et) := R_gfI d_MTo_count_82 ff_9_248 hq
theorem r_MTo_count_85 {x : Int32} : Rr X d MTo_count 85 L [.int x] h = some (some (.int x), h) := R_ir d_MTo_count_85 rfl
theorem r_MTo_count_86 {l1 : Value} {x : Nat} : Rr X d MTo_count 86 [.ref x, l1] st h = Rr X d MTo_count 87 [.ref x, l1] (.ref x :: st) h := Rr_nx d_MTo_count_86 rfl
theorem r_MTo_count_87 {a : Nat} (hq : (qR a 9 8).isSome = true) : Rr X d MTo_count 87 L (.ref a :: st) (Wd mu la ro et) = Rr X d MTo_count 90 L (.ref (qRd a 9 8) :: st) (Wd mu la ro et) := R_gfR d_MTo_count_87 ff_9_65 hq
theorem ff_9_304 : fF 9 304 = some (0, 3, 0, 0) := rfl
theorem r_MTo_count_90 {a : Nat} (hq : qI a 0 3 = true) : Rr X d MTo_count 90 L (.ref a :: st) (Wd mu la ro et) = Rr X d MTo_count 93 L (.int (mu a 3) :: st) (Wd mu la ro et) := R_gfI d_MTo_count_90 ff_9_304 hq
theorem r_MTo_count_93 {x : Int32} : Rr X d MTo_count 93 L [.int x] h = some (some (.int x), h) := R_ir d_MTo_count_93 rfl
theorem r_MTo_count_94 : Rr X d MTo_count 94 L st h = Rr X d MTo_count 95 L (.int (-1) :: st) h := Rr_nx d_MTo_count_94 rfl
theorem r_MTo_count_95 {x : Int32} : Rr X d MTo_count 95 L [.int x] h = some (some (.int x), h) := R_ir d_MTo_count_95 rfl
end RULES
