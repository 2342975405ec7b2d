section RULES
variable {X : Tok} {d : Nat} {st L : List Value} {h : Hp} {mu : Nat → Nat → Int32} {la : Nat → Nat → Int64} {ro : Nat → Nat → Option Nat} {et : Nat → Option va_E}
theorem d_MTo_isWithin_0 : decode MTo_isWithin.2.2.1 0 = .ok (.iload_n 0, 1) := by decide +kernel
theorem d_MTo_isWithin_1 : decode MTo_isWithin.2.2.1 1 = .ok (.iload_n 1, 1) := by decide +kernel
theorem d_MTo_isWithin_2 : decode MTo_isWithin.2.2.1 2 = .ok (.if_icmp .lt 12, 3) := by decide +kernel
theorem d_MTo_isWithin_5 : decode MTo_isWithin.2.2.1 5 = .ok (.iload_n 0, 1) := by decide +kernel
theorem d_MTo_isWithin_6 : decode MTo_isWithin.2.2.1 6 = .ok (.iload_n 2, 1) := by decide +kernel
theorem d_MTo_isWithin_7 : decode MTo_isWithin.2.2.1 7 = .ok (.if_icmp .gt 7, 3) := by decide +kernel
theorem d_MTo_isWithin_10 : decode MTo_isWithin.2.2.1 10 = .ok (.iconst 1, 1) := by decide +kernel
theorem d_MTo_isWithin_11 : decode MTo_isWithin.2.2.1 11 = .ok (.goto 4, 3) := by decide +kernel
theorem d_MTo_isWithin_14 : decode MTo_isWithin.2.2.1 14 = .ok (.iconst 0, 1) := by decide +kernel
theorem d_MTo_isWithin_15 : decode MTo_isWithin.2.2.1 15 = .ok (.ireturn, 1) := by decide +kernel
theorem r_MTo_isWithin_0 {l1 l2 : Value} {x : Int32} : Rr X d MTo_isWithin 0 [.int x, l1, l2] st h = Rr X d MTo_isWithin 1 [.int x, l1, l2] (.int x :: st) h := Rr_nx d_MTo_isWithin_0 rfl
theorem r_MTo_isWithin_1 {l0 l2 : Value} {x : Int32} : Rr X d MTo_isWithin 1 [l0, .int x, l2] st h = Rr X d MTo_isWithin 2 [l0, .int x, l2] (.int x :: st) h := Rr_nx d_MTo_isWithin_1 rfl
theorem r_MTo_isWithin_2 {x y : Int32} : Rr X d MTo_isWithin 2 L (.int y :: .int x :: st) h = if x < y then Rr X d MTo_isWithin 14 L st h else Rr X d MTo_isWithin 5 L st h := R_ic_lt d_MTo_isWithin_2 (by decide)
theorem r_MTo_isWithin_5 {l1 l2 : Value} {x : Int32} : Rr X d MTo_isWithin 5 [.int x, l1, l2] st h = Rr X d MTo_isWithin 6 [.int x, l1, l2] (.int x :: st) h := Rr_nx d_MTo_isWithin_5 rfl
theorem r_MTo_isWithin_6 {l0 l1 : Value} {x : Int32} : Rr X d MTo_isWithin 6 [l0, l1, .int x] st h = Rr X d MTo_isWithin 7 [l0, l1, .int x] (.int x :: st) h := Rr_nx d_MTo_isWithin_6 rfl
theorem r_MTo_isWithin_7 {x y : Int32} : Rr X d MTo_isWithin 7 L (.int y :: .int x :: st) h = if y < x then Rr X d MTo_isWithin 14 L st h else Rr X d MTo_isWithin 10 L st h := R_ic_gt d_MTo_isWithin_7 (by decide)
theorem r_MTo_isWithin_10 : Rr X d MTo_isWithin 10 L st h = Rr X d MTo_isWithin 11 L (.int (1) :: st) h := Rr_nx d_MTo_isWithin_10 rfl
theorem r_MTo_isWithin_11 : Rr X d MTo_isWithin 11 L st h = Rr X d MTo_isWithin 15 L st h := R_goto d_MTo_isWithin_11 (by decide)
theorem r_MTo_isWithin_14 : Rr X d MTo_isWithin 14 L st h = Rr X d MTo_isWithin 15 L (.int (0) :: st) h := Rr_nx d_MTo_isWithin_14 rfl
theorem r_MTo_isWithin_15 {x : Int32} : Rr X d MTo_isWithin 15 L [.int x] h = if x = 0 ∨ x = 1 then some (some (.int x), h) else none := R_zr d_MTo_isWithin_15 rfl
theorem d_MRm_in_0 : decode MRm_in.2.2.1 0 = .ok (.iload_n 0, 1) := by decide +kernel
theorem d_MRm_in_1 : decode MRm_in.2.2.1 1 = .ok (.iload_n 1, 1) := by decide +kernel
theorem d_MRm_in_2 : decode MRm_in.2.2.1 2 = .ok (.if_icmp .lt 12, 3) := by decide +kernel
theorem d_MRm_in_5 : decode MRm_in.2.2.1 5 = .ok (.iload_n 0, 1) := by decide +kernel
theorem d_MRm_in_6 : decode MRm_in.2.2.1 6 = .ok (.iload_n 2, 1) := by decide +kernel
theorem d_MRm_in_7 : decode MRm_in.2.2.1 7 = .ok (.if_icmp .gt 7, 3) := by decide +kernel
theorem d_MRm_in_10 : decode MRm_in.2.2.1 10 = .ok (.iconst 1, 1) := by decide +kernel
theorem d_MRm_in_11 : decode MRm_in.2.2.1 11 = .ok (.goto 4, 3) := by decide +kernel
theorem d_MRm_in_14 : decode MRm_in.2.2.1 14 = .ok (.iconst 0, 1) := by decide +kernel
theorem d_MRm_in_15 : decode MRm_in.2.2.1 15 = .ok (.ireturn, 1) := by decide +kernel
theorem r_MRm_in_0 {l1 l2 : Value} {x : Int32} : Rr X d MRm_in 0 [.int x, l1, l2] st h = Rr X d MRm_in 1 [.int x, l1, l2] (.int x :: st) h := Rr_nx d_MRm_in_0 rfl
theorem r_MRm_in_1 {l0 l2 : Value} {x : Int32} : Rr X d MRm_in 1 [l0, .int x, l2] st h = Rr X d MRm_in 2 [l0, .int x, l2] (.int x :: st) h := Rr_nx d_MRm_in_1 rfl
theorem r_MRm_in_2 {x y : Int32} : Rr X d MRm_in 2 L (.int y :: .int x :: st) h = if x < y then Rr X d MRm_in 14 L st h else Rr X d MRm_in 5 L st h := R_ic_lt d_MRm_in_2 (by decide)
theorem r_MRm_in_5 {l1 l2 : Value} {x : Int32} : Rr X d MRm_in 5 [.int x, l1, l2] st h = Rr X d MRm_in 6 [.int x, l1, l2] (.int x :: st) h := Rr_nx d_MRm_in_5 rfl
theorem r_MRm_in_6 {l0 l1 : Value} {x : Int32} : Rr X d MRm_in 6 [l0, l1, .int x] st h = Rr X d MRm_in 7 [l0, l1, .int x] (.int x :: st) h := Rr_nx d_MRm_in_6 rfl
theorem r_MRm_in_7 {x y : Int32} : Rr X d MRm_in 7 L (.int y :: .int x :: st) h = if y < x then Rr X d MRm_in 14 L st h else Rr X d MRm_in 10 L st h := R_ic_gt d_MRm_in_7 (by decide)
theorem r_MRm_in_10 : Rr X d MRm_in 10 L st h = Rr X d MRm_in 11 L (.int (1) :: st) h := Rr_nx d_MRm_in_10 rfl
theorem r_MRm_in_11 : Rr X d MRm_in 11 L st h = Rr X d MRm_in 15 L st h := R_goto d_MRm_in_11 (by decide)
theorem r_MRm_in_14 : Rr X d MRm_in 14 L st h = Rr X d MRm_in 15 L (.int (0) :: st) h := Rr_nx d_MRm_in_14 rfl
theorem r_MRm_in_15 {x : Int32} : Rr X d MRm_in 15 L [.int x] h = if x = 0 ∨ x = 1 then some (some (.int x), h) else none := R_zr d_MRm_in_15 rfl
theorem d_MTo_feed_0 : decode MTo_feed.2.2.1 0 = .ok (.iload_n 1, 1) := by decide +kernel
theorem d_MTo_feed_1 : decode MTo_feed.2.2.1 1 = .ok (.iconst 1, 1) := by decide +kernel
theorem d_MTo_feed_2 : decode MTo_feed.2.2.1 2 = .ok (.iconst 4, 1) := by decide +kernel
theorem d_MTo_feed_3 : decode MTo_feed.2.2.1 3 = .ok (.invokestatic 72, 3) := by decide +kernel
theorem d_MTo_feed_6 : decode MTo_feed.2.2.1 6 = .ok (.ifCond .ne 5, 3) := by decide +kernel
theorem d_MTo_feed_9 : decode MTo_feed.2.2.1 9 = .ok (.iconst (-1), 1) := by decide +kernel
theorem d_MTo_feed_10 : decode MTo_feed.2.2.1 10 = .ok (.ireturn, 1) := by decide +kernel
theorem d_MTo_feed_11 : decode MTo_feed.2.2.1 11 = .ok (.aload_n 0, 1) := by decide +kernel
theorem d_MTo_feed_12 : decode MTo_feed.2.2.1 12 = .ok (.getfield 10, 3) := by decide +kernel
theorem d_MTo_feed_15 : decode MTo_feed.2.2.1 15 = .ok (.getfield 76, 3) := by decide +kernel
theorem d_MTo_feed_18 : decode MTo_feed.2.2.1 18 = .ok (.iload_n 1, 1) := by decide +kernel
theorem d_MTo_feed_19 : decode MTo_feed.2.2.1 19 = .ok (.iadd, 1) := by decide +kernel
theorem d_MTo_feed_20 : decode MTo_feed.2.2.1 20 = .ok (.bipush 120, 2) := by decide +kernel
theorem d_MTo_feed_22 : decode MTo_feed.2.2.1 22 = .ok (.if_icmp .le 6, 3) := by decide +kernel
theorem d_MTo_feed_25 : decode MTo_feed.2.2.1 25 = .ok (.bipush (-3), 2) := by decide +kernel
theorem d_MTo_feed_27 : decode MTo_feed.2.2.1 27 = .ok (.ireturn, 1) := by decide +kernel
theorem d_MTo_feed_28 : decode MTo_feed.2.2.1 28 = .ok (.iconst 0, 1) := by decide +kernel
theorem d_MTo_feed_29 : decode MTo_feed.2.2.1 29 = .ok (.istore_n 3, 1) := by decide +kernel
theorem d_MTo_feed_30 : decode MTo_feed.2.2.1 30 = .ok (.iload_n 3, 1) := by decide +kernel
theorem d_MTo_feed_31 : decode MTo_feed.2.2.1 31 = .ok (.iload_n 1, 1) := by decide +kernel
theorem d_MTo_feed_32 : decode MTo_feed.2.2.1 32 = .ok (.if_icmp .ge 22, 3) := by decide +kernel
theorem d_MTo_feed_35 : decode MTo_feed.2.2.1 35 = .ok (.aload_n 0, 1) := by decide +kernel
theorem d_MTo_feed_36 : decode MTo_feed.2.2.1 36 = .ok (.getfield 10, 3) := by decide +kernel
theorem d_MTo_feed_39 : decode MTo_feed.2.2.1 39 = .ok (.iload_n 2, 1) := by decide +kernel
theorem d_MTo_feed_40 : decode MTo_feed.2.2.1 40 = .ok (.bipush 8, 2) := by decide +kernel
theorem d_MTo_feed_42 : decode MTo_feed.2.2.1 42 = .ok (.iload_n 3, 1) := by decide +kernel
theorem d_MTo_feed_43 : decode MTo_feed.2.2.1 43 = .ok (.imul, 1) := by decide +kernel
theorem d_MTo_feed_44 : decode MTo_feed.2.2.1 44 = .ok (.iushr, 1) := by decide +kernel
theorem d_MTo_feed_45 : decode MTo_feed.2.2.1 45 = .ok (.invokevirtual 80, 3) := by decide +kernel
theorem d_MTo_feed_48 : decode MTo_feed.2.2.1 48 = .ok (.iinc 3 1, 3) := by decide +kernel
theorem d_MTo_feed_51 : decode MTo_feed.2.2.1 51 = .ok (.goto (-21), 3) := by decide +kernel
theorem d_MTo_feed_54 : decode MTo_feed.2.2.1 54 = .ok (.aload_n 0, 1) := by decide +kernel
theorem d_MTo_feed_55 : decode MTo_feed.2.2.1 55 = .ok (.getfield 10, 3) := by decide +kernel
theorem d_MTo_feed_58 : decode MTo_feed.2.2.1 58 = .ok (.getfield 76, 3) := by decide +kernel
theorem d_MTo_feed_61 : decode MTo_feed.2.2.1 61 = .ok (.ireturn, 1) := by decide +kernel
theorem r_MTo_feed_0 {l0 l2 l3 : Value} {x : Int32} : Rr X d MTo_feed 0 [l0, .int x, l2, l3] st h = Rr X d MTo_feed 1 [l0, .int x, l2, l3] (.int x :: st) h := Rr_nx d_MTo_feed_0 rfl
theorem r_MTo_feed_1 : Rr X d MTo_feed 1 L st h = Rr X d MTo_feed 2 L (.int (1) :: st) h := Rr_nx d_MTo_feed_1 rfl
theorem r_MTo_feed_2 : Rr X d MTo_feed 2 L st h = Rr X d MTo_feed 3 L (.int (4) :: st) h := Rr_nx d_MTo_feed_2 rfl
theorem fc_9_72 : fC 9 72 = some (1, 0, 3, MTo_isWithin) := rfl
theorem r_MTo_feed_3 {y0 : Int32} {y1 : Int32} {y2 : Int32} (hc : ckS st = true) : Rr X (d + 1) MTo_feed 3 L (.int y2 :: .int y1 :: .int y0 :: st) h = (Rr X d MTo_isWithin 0 [.int y0, .int y1, .int y2] [] h).bind fun q => Rr X (d + 1) MTo_feed 6 L (psh q.1 st) q.2 := R_is (av := [.int y2, .int y1, .int y0]) d_MTo_feed_3 (Or.inl fc_9_72) (ckS_le hc) rfl (Nat.le_of_ble_eq_true rfl) (Nat.le_of_ble_eq_true rfl)
theorem r_MTo_feed_6 {x : Int32} : Rr X d MTo_feed 6 L (.int x :: st) h = if ¬ x = 0 then Rr X d MTo_feed 11 L st h else Rr X d MTo_feed 9 L st h := R_if_ne d_MTo_feed_6 (by decide)
theorem r_MTo_feed_9 : Rr X d MTo_feed 9 L st h = Rr X d MTo_feed 10 L (.int (-1) :: st) h := Rr_nx d_MTo_feed_9 rfl
theorem r_MTo_feed_10 {x : Int32} : Rr X d MTo_feed 10 L [.int x] h = some (some (.int x), h) := R_ir d_MTo_feed_10 rfl
theorem r_MTo_feed_11 {l1 l2 l3 : Value} {x : Nat} : Rr X d MTo_feed 11 [.ref x, l1, l2, l3] st h = Rr X d MTo_feed 12 [.ref x, l1, l2, l3] (.ref x :: st) h := Rr_nx d_MTo_feed_11 rfl
theorem ff_9_10 : fF 9 10 = some (9, 0, 1, 1) := rfl
theorem r_MTo_feed_12 {a : Nat} (hq : (qR a 9 0).isSome = true) : Rr X d MTo_feed 12 L (.ref a :: st) (Wd mu la ro et) = Rr X d MTo_feed 15 L (.ref (qRd a 9 0) :: st) (Wd mu la ro et) := R_gfR d_MTo_feed_12 ff_9_10 hq
theorem ff_9_76 : fF 9 76 = some (8, 1, 0, 0) := rfl
theorem r_MTo_feed_15 {a : Nat} (hq : qI a 8 1 = true) : Rr X d MTo_feed 15 L (.ref a :: st) (Wd mu la ro et) = Rr X d MTo_feed 18 L (.int (mu a 1) :: st) (Wd mu la ro et) := R_gfI d_MTo_feed_15 ff_9_76 hq
theorem r_MTo_feed_18 {l0 l2 l3 : Value} {x : Int32} : Rr X d MTo_feed 18 [l0, .int x, l2, l3] st h = Rr X d MTo_feed 19 [l0, .int x, l2, l3] (.int x :: st) h := Rr_nx d_MTo_feed_18 rfl
theorem r_MTo_feed_19 {x y : Int32} : Rr X d MTo_feed 19 L (.int y :: .int x :: st) h = Rr X d MTo_feed 20 L (.int (x + y) :: st) h := Rr_nx d_MTo_feed_19 rfl
theorem r_MTo_feed_20 : Rr X d MTo_feed 20 L st h = Rr X d MTo_feed 22 L (.int (120) :: st) h := Rr_nx d_MTo_feed_20 rfl
theorem r_MTo_feed_22 {x y : Int32} : Rr X d MTo_feed 22 L (.int y :: .int x :: st) h = if x ≤ y then Rr X d MTo_feed 28 L st h else Rr X d MTo_feed 25 L st h := R_ic_le d_MTo_feed_22 (by decide)
theorem r_MTo_feed_25 : Rr X d MTo_feed 25 L st h = Rr X d MTo_feed 27 L (.int (-3) :: st) h := Rr_nx d_MTo_feed_25 rfl
theorem r_MTo_feed_27 {x : Int32} : Rr X d MTo_feed 27 L [.int x] h = some (some (.int x), h) := R_ir d_MTo_feed_27 rfl
theorem r_MTo_feed_28 : Rr X d MTo_feed 28 L st h = Rr X d MTo_feed 29 L (.int (0) :: st) h := Rr_nx d_MTo_feed_28 rfl
theorem r_MTo_feed_29 {l0 l1 l2 l3 : Value} {x : Int32} : Rr X d MTo_feed 29 [l0, l1, l2, l3] (.int x :: st) h = Rr X d MTo_feed 30 (sL [l0, l1, l2, l3] 3 (.int x)) st h := Rr_nx d_MTo_feed_29 rfl
theorem r_MTo_feed_30 {l0 l1 l2 : Value} {x : Int32} : Rr X d MTo_feed 30 [l0, l1, l2, .int x] st h = Rr X d MTo_feed 31 [l0, l1, l2, .int x] (.int x :: st) h := Rr_nx d_MTo_feed_30 rfl
theorem r_MTo_feed_31 {l0 l2 l3 : Value} {x : Int32} : Rr X d MTo_feed 31 [l0, .int x, l2, l3] st h = Rr X d MTo_feed 32 [l0, .int x, l2, l3] (.int x :: st) h := Rr_nx d_MTo_feed_31 rfl
theorem r_MTo_feed_32 {x y : Int32} : Rr X d MTo_feed 32 L (.int y :: .int x :: st) h = if y ≤ x then Rr X d MTo_feed 54 L st h else Rr X d MTo_feed 35 L st h := R_ic_ge d_MTo_feed_32 (by decide)
theorem r_MTo_feed_35 {l1 l2 l3 : Value} {x : Nat} : Rr X d MTo_feed 35 [.ref x, l1, l2, l3] st h = Rr X d MTo_feed 36 [.ref x, l1, l2, l3] (.ref x :: st) h := Rr_nx d_MTo_feed_35 rfl
theorem r_MTo_feed_36 {a : Nat} (hq : (qR a 9 0).isSome = true) : Rr X d MTo_feed 36 L (.ref a :: st) (Wd mu la ro et) = Rr X d MTo_feed 39 L (.ref (qRd a 9 0) :: st) (Wd mu la ro et) := R_gfR d_MTo_feed_36 ff_9_10 hq
theorem r_MTo_feed_39 {l0 l1 l3 : Value} {x : Int32} : Rr X d MTo_feed 39 [l0, l1, .int x, l3] st h = Rr X d MTo_feed 40 [l0, l1, .int x, l3] (.int x :: st) h := Rr_nx d_MTo_feed_39 rfl
theorem r_MTo_feed_40 : Rr X d MTo_feed 40 L st h = Rr X d MTo_feed 42 L (.int (8) :: st) h := Rr_nx d_MTo_feed_40 rfl
theorem r_MTo_feed_42 {l0 l1 l2 : Value} {x : Int32} : Rr X d MTo_feed 42 [l0, l1, l2, .int x] st h = Rr X d MTo_feed 43 [l0, l1, l2, .int x] (.int x :: st) h := Rr_nx d_MTo_feed_42 rfl
theorem r_MTo_feed_43 {x y : Int32} : Rr X d MTo_feed 43 L (.int y :: .int x :: st) h = Rr X d MTo_feed 44 L (.int (x * y) :: st) h := Rr_nx d_MTo_feed_43 rfl
theorem r_MTo_feed_44 {x y : Int32} : Rr X d MTo_feed 44 L (.int y :: .int x :: st) h = Rr X d MTo_feed 45 L (.int ((x.toUInt32 >>> (y.toUInt32 &&& Int32.toUInt32 31)).toInt32) :: st) h := Rr_nx d_MTo_feed_44 rfl
theorem fc_9_80 : fC 9 80 = some (0, 8, 1, MTa_append) := rfl
theorem r_MTo_feed_45 {y0 : Int32} {a : Nat} (hO : qO a 8 = true) (hc : ckS st = true) : Rr X (d + 1) MTo_feed 45 L (.int y0 :: .ref a :: st) (Wd mu la ro et) = (Rr X d MTa_append 0 [.ref a, .int y0] [] (Wd mu la ro et)).bind fun q => Rr X (d + 1) MTo_feed 48 L (psh q.1 st) q.2 := R_iv (av := [.int y0]) d_MTo_feed_45 fc_9_80 hO (ckS_le hc) rfl (Nat.le_of_ble_eq_true rfl) (Nat.le_of_ble_eq_true rfl)
theorem r_MTo_feed_48 {l0 l1 l2 : Value} {x : Int32} : Rr X d MTo_feed 48 [l0, l1, l2, .int x] st h = Rr X d MTo_feed 51 (sL [l0, l1, l2, .int x] 3 (.int (x + (1)))) st h := Rr_nx d_MTo_feed_48 rfl
theorem r_MTo_feed_51 : Rr X d MTo_feed 51 L st h = Rr X d MTo_feed 30 L st h := R_goto d_MTo_feed_51 (by decide)
theorem r_MTo_feed_54 {l1 l2 l3 : Value} {x : Nat} : Rr X d MTo_feed 54 [.ref x, l1, l2, l3] st h = Rr X d MTo_feed 55 [.ref x, l1, l2, l3] (.ref x :: st) h := Rr_nx d_MTo_feed_54 rfl
theorem r_MTo_feed_55 {a : Nat} (hq : (qR a 9 0).isSome = true) : Rr X d MTo_feed 55 L (.ref a :: st) (Wd mu la ro et) = Rr X d MTo_feed 58 L (.ref (qRd a 9 0) :: st) (Wd mu la ro et) := R_gfR d_MTo_feed_55 ff_9_10 hq
theorem r_MTo_feed_58 {a : Nat} (hq : qI a 8 1 = true) : Rr X d MTo_feed 58 L (.ref a :: st) (Wd mu la ro et) = Rr X d MTo_feed 61 L (.int (mu a 1) :: st) (Wd mu la ro et) := R_gfI d_MTo_feed_58 ff_9_76 hq
theorem r_MTo_feed_61 {x : Int32} : Rr X d MTo_feed 61 L [.int x] h = some (some (.int x), h) := R_ir d_MTo_feed_61 rfl
theorem d_MTa_append_0 : decode MTa_append.2.2.1 0 = .ok (.aload_n 0, 1) := by decide +kernel
theorem d_MTa_append_1 : decode MTa_append.2.2.1 1 = .ok (.getfield 13, 3) := by decide +kernel
theorem d_MTa_append_4 : decode MTa_append.2.2.1 4 = .ok (.ifCond .lt 36, 3) := by decide +kernel
theorem d_MTa_append_7 : decode MTa_append.2.2.1 7 = .ok (.aload_n 0, 1) := by decide +kernel
theorem d_MTa_append_8 : decode MTa_append.2.2.1 8 = .ok (.getfield 13, 3) := by decide +kernel
theorem d_MTa_append_11 : decode MTa_append.2.2.1 11 = .ok (.aload_n 0, 1) := by decide +kernel
theorem d_MTa_append_12 : decode MTa_append.2.2.1 12 = .ok (.getfield 9, 3) := by decide +kernel
theorem d_MTa_append_15 : decode MTa_append.2.2.1 15 = .ok (.arraylength, 1) := by decide +kernel
theorem d_MTa_append_16 : decode MTa_append.2.2.1 16 = .ok (.if_icmp .ge 24, 3) := by decide +kernel
theorem d_MTa_append_19 : decode MTa_append.2.2.1 19 = .ok (.aload_n 0, 1) := by decide +kernel
theorem d_MTa_append_20 : decode MTa_append.2.2.1 20 = .ok (.getfield 9, 3) := by decide +kernel
theorem d_MTa_append_23 : decode MTa_append.2.2.1 23 = .ok (.aload_n 0, 1) := by decide +kernel
theorem d_MTa_append_24 : decode MTa_append.2.2.1 24 = .ok (.getfield 13, 3) := by decide +kernel
theorem d_MTa_append_27 : decode MTa_append.2.2.1 27 = .ok (.iload_n 1, 1) := by decide +kernel
theorem d_MTa_append_28 : decode MTa_append.2.2.1 28 = .ok (.i2b, 1) := by decide +kernel
theorem d_MTa_append_29 : decode MTa_append.2.2.1 29 = .ok (.bastore, 1) := by decide +kernel
theorem d_MTa_append_30 : decode MTa_append.2.2.1 30 = .ok (.aload_n 0, 1) := by decide +kernel
theorem d_MTa_append_31 : decode MTa_append.2.2.1 31 = .ok (.dup, 1) := by decide +kernel
theorem d_MTa_append_32 : decode MTa_append.2.2.1 32 = .ok (.getfield 13, 3) := by decide +kernel
theorem d_MTa_append_35 : decode MTa_append.2.2.1 35 = .ok (.iconst 1, 1) := by decide +kernel
theorem d_MTa_append_36 : decode MTa_append.2.2.1 36 = .ok (.iadd, 1) := by decide +kernel
theorem d_MTa_append_37 : decode MTa_append.2.2.1 37 = .ok (.putfield 13, 3) := by decide +kernel
theorem d_MTa_append_40 : decode MTa_append.2.2.1 40 = .ok (.return_, 1) := by decide +kernel
theorem r_MTa_append_0 {l1 : Value} {x : Nat} : Rr X d MTa_append 0 [.ref x, l1] st h = Rr X d MTa_append 1 [.ref x, l1] (.ref x :: st) h := Rr_nx d_MTa_append_0 rfl
theorem ff_8_13 : fF 8 13 = some (8, 1, 0, 0) := rfl
theorem r_MTa_append_1 {a : Nat} (hq : qI a 8 1 = true) : Rr X d MTa_append 1 L (.ref a :: st) (Wd mu la ro et) = Rr X d MTa_append 4 L (.int (mu a 1) :: st) (Wd mu la ro et) := R_gfI d_MTa_append_1 ff_8_13 hq
theorem r_MTa_append_4 {x : Int32} : Rr X d MTa_append 4 L (.int x :: st) h = if x < 0 then Rr X d MTa_append 40 L st h else Rr X d MTa_append 7 L st h := R_if_lt d_MTa_append_4 (by decide)
theorem r_MTa_append_7 {l1 : Value} {x : Nat} : Rr X d MTa_append 7 [.ref x, l1] st h = Rr X d MTa_append 8 [.ref x, l1] (.ref x :: st) h := Rr_nx d_MTa_append_7 rfl
theorem r_MTa_append_8 {a : Nat} (hq : qI a 8 1 = true) : Rr X d MTa_append 8 L (.ref a :: st) (Wd mu la ro et) = Rr X d MTa_append 11 L (.int (mu a 1) :: st) (Wd mu la ro et) := R_gfI d_MTa_append_8 ff_8_13 hq
theorem r_MTa_append_11 {l1 : Value} {x : Nat} : Rr X d MTa_append 11 [.ref x, l1] st h = Rr X d MTa_append 12 [.ref x, l1] (.ref x :: st) h := Rr_nx d_MTa_append_11 rfl
theorem ff_8_9 : fF 8 9 = some (8, 0, 1, 1) := rfl
theorem r_MTa_append_12 {a : Nat} (hq : (qR a 8 0).isSome = true) : Rr X d MTa_append 12 L (.ref a :: st) (Wd mu la ro et) = Rr X d MTa_append 15 L (.ref (qRd a 8 0) :: st) (Wd mu la ro et) := R_gfR d_MTa_append_12 ff_8_9 hq
theorem r_MTa_append_15 {a : Nat} (hq : (qL a).isSome = true) : Rr X d MTa_append 15 L (.ref a :: st) (Wd mu la ro et) = Rr X d MTa_append 16 L (.int (Int32.ofNat (qLd a)) :: st) (Wd mu la ro et) := R_lenW d_MTa_append_15 hq
theorem r_MTa_append_16 {x y : Int32} : Rr X d MTa_append 16 L (.int y :: .int x :: st) h = if y ≤ x then Rr X d MTa_append 40 L st h else Rr X d MTa_append 19 L st h := R_ic_ge d_MTa_append_16 (by decide)
theorem r_MTa_append_19 {l1 : Value} {x : Nat} : Rr X d MTa_append 19 [.ref x, l1] st h = Rr X d MTa_append 20 [.ref x, l1] (.ref x :: st) h := Rr_nx d_MTa_append_19 rfl
theorem r_MTa_append_20 {a : Nat} (hq : (qR a 8 0).isSome = true) : Rr X d MTa_append 20 L (.ref a :: st) (Wd mu la ro et) = Rr X d MTa_append 23 L (.ref (qRd a 8 0) :: st) (Wd mu la ro et) := R_gfR d_MTa_append_20 ff_8_9 hq
theorem r_MTa_append_23 {l1 : Value} {x : Nat} : Rr X d MTa_append 23 [.ref x, l1] st h = Rr X d MTa_append 24 [.ref x, l1] (.ref x :: st) h := Rr_nx d_MTa_append_23 rfl
theorem r_MTa_append_24 {a : Nat} (hq : qI a 8 1 = true) : Rr X d MTa_append 24 L (.ref a :: st) (Wd mu la ro et) = Rr X d MTa_append 27 L (.int (mu a 1) :: st) (Wd mu la ro et) := R_gfI d_MTa_append_24 ff_8_13 hq
theorem r_MTa_append_27 {l0 : Value} {x : Int32} : Rr X d MTa_append 27 [l0, .int x] st h = Rr X d MTa_append 28 [l0, .int x] (.int x :: st) h := Rr_nx d_MTa_append_27 rfl
theorem r_MTa_append_28 {x : Int32} : Rr X d MTa_append 28 L (.int x :: st) h = Rr X d MTa_append 29 L (.int (x.toInt8.toInt32) :: st) h := Rr_nx d_MTa_append_28 rfl
theorem r_MTa_append_29 {a : Nat} {j x : Int32} (hq : (qA a 2).isSome = true) : Rr X d MTa_append 29 L (.int x :: .int j :: .ref a :: st) (Wd mu la ro et) = if j < 0 ∨ qAd a 2 ≤ j.toNatClampNeg then none else Rr X d MTa_append 30 L st (Wd (up2 mu a j.toNatClampNeg (x.toInt8.toInt32)) la ro et) := R_basW d_MTa_append_29 hq
theorem r_MTa_append_30 {l1 : Value} {x : Nat} : Rr X d MTa_append 30 [.ref x, l1] st h = Rr X d MTa_append 31 [.ref x, l1] (.ref x :: st) h := Rr_nx d_MTa_append_30 rfl
theorem r_MTa_append_31 {x : Nat} : Rr X d MTa_append 31 L (.ref x :: st) h = Rr X d MTa_append 32 L (.ref x :: .ref x :: st) h := Rr_nx d_MTa_append_31 rfl
theorem r_MTa_append_31i {x : Int32} : Rr X d MTa_append 31 L (.int x :: st) h = Rr X d MTa_append 32 L (.int x :: .int x :: st) h := Rr_nx d_MTa_append_31 rfl
theorem r_MTa_append_32 {a : Nat} (hq : qI a 8 1 = true) : Rr X d MTa_append 32 L (.ref a :: st) (Wd mu la ro et) = Rr X d MTa_append 35 L (.int (mu a 1) :: st) (Wd mu la ro et) := R_gfI d_MTa_append_32 ff_8_13 hq
theorem r_MTa_append_35 : Rr X d MTa_append 35 L st h = Rr X d MTa_append 36 L (.int (1) :: st) h := Rr_nx d_MTa_append_35 rfl
theorem r_MTa_append_36 {x y : Int32} : Rr X d MTa_append 36 L (.int y :: .int x :: st) h = Rr X d MTa_append 37 L (.int (x + y) :: st) h := Rr_nx d_MTa_append_36 rfl
theorem r_MTa_append_37 {a : Nat} {x : Int32} (hq : qI a 8 1 = true) : Rr X d MTa_append 37 L (.int x :: .ref a :: st) (Wd mu la ro et) = Rr X d MTa_append 40 L st (Wd (up2 mu a 1 x) la ro et) := R_pfI d_MTa_append_37 ff_8_13 hq
theorem r_MTa_append_40 : Rr X d MTa_append 40 L [] h = some (none, h) := Rr_rt d_MTa_append_40 rfl
theorem d_MRm_feed_0 : decode MRm_feed.2.2.1 0 = .ok (.iload_n 1, 1) := by decide +kernel
theorem d_MRm_feed_1 : decode MRm_feed.2.2.1 1 = .ok (.iconst 1, 1) := by decide +kernel
theorem d_MRm_feed_2 : decode MRm_feed.2.2.1 2 = .ok (.iconst 4, 1) := by decide +kernel
theorem d_MRm_feed_3 : decode MRm_feed.2.2.1 3 = .ok (.invokestatic 107, 3) := by decide +kernel
theorem d_MRm_feed_6 : decode MRm_feed.2.2.1 6 = .ok (.ifCond .ne 5, 3) := by decide +kernel
theorem d_MRm_feed_9 : decode MRm_feed.2.2.1 9 = .ok (.iconst (-1), 1) := by decide +kernel
theorem d_MRm_feed_10 : decode MRm_feed.2.2.1 10 = .ok (.ireturn, 1) := by decide +kernel
theorem d_MRm_feed_11 : decode MRm_feed.2.2.1 11 = .ok (.aload_n 0, 1) := by decide +kernel
theorem d_MRm_feed_12 : decode MRm_feed.2.2.1 12 = .ok (.getfield 111, 3) := by decide +kernel
theorem d_MRm_feed_15 : decode MRm_feed.2.2.1 15 = .ok (.iload_n 1, 1) := by decide +kernel
theorem d_MRm_feed_16 : decode MRm_feed.2.2.1 16 = .ok (.iadd, 1) := by decide +kernel
theorem d_MRm_feed_17 : decode MRm_feed.2.2.1 17 = .ok (.bipush 120, 2) := by decide +kernel
theorem d_MRm_feed_19 : decode MRm_feed.2.2.1 19 = .ok (.if_icmp .le 6, 3) := by decide +kernel
theorem d_MRm_feed_22 : decode MRm_feed.2.2.1 22 = .ok (.bipush (-3), 2) := by decide +kernel
theorem d_MRm_feed_24 : decode MRm_feed.2.2.1 24 = .ok (.ireturn, 1) := by decide +kernel
theorem d_MRm_feed_25 : decode MRm_feed.2.2.1 25 = .ok (.iconst 0, 1) := by decide +kernel
theorem d_MRm_feed_26 : decode MRm_feed.2.2.1 26 = .ok (.istore_n 3, 1) := by decide +kernel
theorem d_MRm_feed_27 : decode MRm_feed.2.2.1 27 = .ok (.iload_n 3, 1) := by decide +kernel
theorem d_MRm_feed_28 : decode MRm_feed.2.2.1 28 = .ok (.iload_n 1, 1) := by decide +kernel
theorem d_MRm_feed_29 : decode MRm_feed.2.2.1 29 = .ok (.if_icmp .ge 35, 3) := by decide +kernel
theorem d_MRm_feed_32 : decode MRm_feed.2.2.1 32 = .ok (.aload_n 0, 1) := by decide +kernel
theorem d_MRm_feed_33 : decode MRm_feed.2.2.1 33 = .ok (.getfield 7, 3) := by decide +kernel
theorem d_MRm_feed_36 : decode MRm_feed.2.2.1 36 = .ok (.aload_n 0, 1) := by decide +kernel
theorem d_MRm_feed_37 : decode MRm_feed.2.2.1 37 = .ok (.getfield 111, 3) := by decide +kernel
theorem d_MRm_feed_40 : decode MRm_feed.2.2.1 40 = .ok (.iload_n 2, 1) := by decide +kernel
theorem d_MRm_feed_41 : decode MRm_feed.2.2.1 41 = .ok (.bipush 8, 2) := by decide +kernel
theorem d_MRm_feed_43 : decode MRm_feed.2.2.1 43 = .ok (.iload_n 3, 1) := by decide +kernel
theorem d_MRm_feed_44 : decode MRm_feed.2.2.1 44 = .ok (.imul, 1) := by decide +kernel
theorem d_MRm_feed_45 : decode MRm_feed.2.2.1 45 = .ok (.ishr, 1) := by decide +kernel
theorem d_MRm_feed_46 : decode MRm_feed.2.2.1 46 = .ok (.i2b, 1) := by decide +kernel
theorem d_MRm_feed_47 : decode MRm_feed.2.2.1 47 = .ok (.bastore, 1) := by decide +kernel
theorem d_MRm_feed_48 : decode MRm_feed.2.2.1 48 = .ok (.aload_n 0, 1) := by decide +kernel
theorem d_MRm_feed_49 : decode MRm_feed.2.2.1 49 = .ok (.dup, 1) := by decide +kernel
theorem d_MRm_feed_50 : decode MRm_feed.2.2.1 50 = .ok (.getfield 111, 3) := by decide +kernel
theorem d_MRm_feed_53 : decode MRm_feed.2.2.1 53 = .ok (.iconst 1, 1) := by decide +kernel
theorem d_MRm_feed_54 : decode MRm_feed.2.2.1 54 = .ok (.iadd, 1) := by decide +kernel
theorem d_MRm_feed_55 : decode MRm_feed.2.2.1 55 = .ok (.putfield 111, 3) := by decide +kernel
theorem d_MRm_feed_58 : decode MRm_feed.2.2.1 58 = .ok (.iinc 3 1, 3) := by decide +kernel
theorem d_MRm_feed_61 : decode MRm_feed.2.2.1 61 = .ok (.goto (-34), 3) := by decide +kernel
theorem d_MRm_feed_64 : decode MRm_feed.2.2.1 64 = .ok (.aload_n 0, 1) := by decide +kernel
theorem d_MRm_feed_65 : decode MRm_feed.2.2.1 65 = .ok (.getfield 111, 3) := by decide +kernel
theorem d_MRm_feed_68 : decode MRm_feed.2.2.1 68 = .ok (.ireturn, 1) := by decide +kernel
theorem r_MRm_feed_0 {l0 l2 l3 : Value} {x : Int32} : Rr X d MRm_feed 0 [l0, .int x, l2, l3] st h = Rr X d MRm_feed 1 [l0, .int x, l2, l3] (.int x :: st) h := Rr_nx d_MRm_feed_0 rfl
theorem r_MRm_feed_1 : Rr X d MRm_feed 1 L st h = Rr X d MRm_feed 2 L (.int (1) :: st) h := Rr_nx d_MRm_feed_1 rfl
theorem r_MRm_feed_2 : Rr X d MRm_feed 2 L st h = Rr X d MRm_feed 3 L (.int (4) :: st) h := Rr_nx d_MRm_feed_2 rfl
theorem fc_10_107 : fC 10 107 = some (1, 0, 3, MRm_in) := rfl
theorem r_MRm_feed_3 {y0 : Int32} {y1 : Int32} {y2 : Int32} (hc : ckS st = true) : Rr X (d + 1) MRm_feed 3 L (.int y2 :: .int y1 :: .int y0 :: st) h = (Rr X d MRm_in 0 [.int y0, .int y1, .int y2] [] h).bind fun q => Rr X (d + 1) MRm_feed 6 L (psh q.1 st) q.2 := R_is (av := [.int y2, .int y1, .int y0]) d_MRm_feed_3 (Or.inl fc_10_107) (ckS_le hc) rfl (Nat.le_of_ble_eq_true rfl) (Nat.le_of_ble_eq_true rfl)
theorem r_MRm_feed_6 {x : Int32} : Rr X d MRm_feed 6 L (.int x :: st) h = if ¬ x = 0 then Rr X d MRm_feed 11 L st h else Rr X d MRm_feed 9 L st h := R_if_ne d_MRm_feed_6 (by decide)
theorem r_MRm_feed_9 : Rr X d MRm_feed 9 L st h = Rr X d MRm_feed 10 L (.int (-1) :: st) h := Rr_nx d_MRm_feed_9 rfl
theorem r_MRm_feed_10 {x : Int32} : Rr X d MRm_feed 10 L [.int x] h = some (some (.int x), h) := R_ir d_MRm_feed_10 rfl
theorem r_MRm_feed_11 {l1 l2 l3 : Value} {x : Nat} : Rr X d MRm_feed 11 [.ref x, l1, l2, l3] st h = Rr X d MRm_feed 12 [.ref x, l1, l2, l3] (.ref x :: st) h := Rr_nx d_MRm_feed_11 rfl
theorem ff_10_111 : fF 10 111 = some (10, 2, 0, 0) := rfl
theorem r_MRm_feed_12 {a : Nat} (hq : qI a 10 2 = true) : Rr X d MRm_feed 12 L (.ref a :: st) (Wd mu la ro et) = Rr X d MRm_feed 15 L (.int (mu a 2) :: st) (Wd mu la ro et) := R_gfI d_MRm_feed_12 ff_10_111 hq
theorem r_MRm_feed_15 {l0 l2 l3 : Value} {x : Int32} : Rr X d MRm_feed 15 [l0, .int x, l2, l3] st h = Rr X d MRm_feed 16 [l0, .int x, l2, l3] (.int x :: st) h := Rr_nx d_MRm_feed_15 rfl
theorem r_MRm_feed_16 {x y : Int32} : Rr X d MRm_feed 16 L (.int y :: .int x :: st) h = Rr X d MRm_feed 17 L (.int (x + y) :: st) h := Rr_nx d_MRm_feed_16 rfl
theorem r_MRm_feed_17 : Rr X d MRm_feed 17 L st h = Rr X d MRm_feed 19 L (.int (120) :: st) h := Rr_nx d_MRm_feed_17 rfl
theorem r_MRm_feed_19 {x y : Int32} : Rr X d MRm_feed 19 L (.int y :: .int x :: st) h = if x ≤ y then Rr X d MRm_feed 25 L st h else Rr X d MRm_feed 22 L st h := R_ic_le d_MRm_feed_19 (by decide)
theorem r_MRm_feed_22 : Rr X d MRm_feed 22 L st h = Rr X d MRm_feed 24 L (.int (-3) :: st) h := Rr_nx d_MRm_feed_22 rfl
theorem r_MRm_feed_24 {x : Int32} : Rr X d MRm_feed 24 L [.int x] h = some (some (.int x), h) := R_ir d_MRm_feed_24 rfl
theorem r_MRm_feed_25 : Rr X d MRm_feed 25 L st h = Rr X d MRm_feed 26 L (.int (0) :: st) h := Rr_nx d_MRm_feed_25 rfl
theorem r_MRm_feed_26 {l0 l1 l2 l3 : Value} {x : Int32} : Rr X d MRm_feed 26 [l0, l1, l2, l3] (.int x :: st) h = Rr X d MRm_feed 27 (sL [l0, l1, l2, l3] 3 (.int x)) st h := Rr_nx d_MRm_feed_26 rfl
theorem r_MRm_feed_27 {l0 l1 l2 : Value} {x : Int32} : Rr X d MRm_feed 27 [l0, l1, l2, .int x] st h = Rr X d MRm_feed 28 [l0, l1, l2, .int x] (.int x :: st) h := Rr_nx d_MRm_feed_27 rfl
theorem r_MRm_feed_28 {l0 l2 l3 : Value} {x : Int32} : Rr X d MRm_feed 28 [l0, .int x, l2, l3] st h = Rr X d MRm_feed 29 [l0, .int x, l2, l3] (.int x :: st) h := Rr_nx d_MRm_feed_28 rfl
theorem r_MRm_feed_29 {x y : Int32} : Rr X d MRm_feed 29 L (.int y :: .int x :: st) h = if y ≤ x then Rr X d MRm_feed 64 L st h else Rr X d MRm_feed 32 L st h := R_ic_ge d_MRm_feed_29 (by decide)
theorem r_MRm_feed_32 {l1 l2 l3 : Value} {x : Nat} : Rr X d MRm_feed 32 [.ref x, l1, l2, l3] st h = Rr X d MRm_feed 33 [.ref x, l1, l2, l3] (.ref x :: st) h := Rr_nx d_MRm_feed_32 rfl
theorem ff_10_7 : fF 10 7 = some (10, 1, 1, 1) := rfl
theorem r_MRm_feed_33 {a : Nat} (hq : (qR a 10 1).isSome = true) : Rr X d MRm_feed 33 L (.ref a :: st) (Wd mu la ro et) = Rr X d MRm_feed 36 L (.ref (qRd a 10 1) :: st) (Wd mu la ro et) := R_gfR d_MRm_feed_33 ff_10_7 hq
theorem r_MRm_feed_36 {l1 l2 l3 : Value} {x : Nat} : Rr X d MRm_feed 36 [.ref x, l1, l2, l3] st h = Rr X d MRm_feed 37 [.ref x, l1, l2, l3] (.ref x :: st) h := Rr_nx d_MRm_feed_36 rfl
theorem r_MRm_feed_37 {a : Nat} (hq : qI a 10 2 = true) : Rr X d MRm_feed 37 L (.ref a :: st) (Wd mu la ro et) = Rr X d MRm_feed 40 L (.int (mu a 2) :: st) (Wd mu la ro et) := R_gfI d_MRm_feed_37 ff_10_111 hq
theorem r_MRm_feed_40 {l0 l1 l3 : Value} {x : Int32} : Rr X d MRm_feed 40 [l0, l1, .int x, l3] st h = Rr X d MRm_feed 41 [l0, l1, .int x, l3] (.int x :: st) h := Rr_nx d_MRm_feed_40 rfl
theorem r_MRm_feed_41 : Rr X d MRm_feed 41 L st h = Rr X d MRm_feed 43 L (.int (8) :: st) h := Rr_nx d_MRm_feed_41 rfl
theorem r_MRm_feed_43 {l0 l1 l2 : Value} {x : Int32} : Rr X d MRm_feed 43 [l0, l1, l2, .int x] st h = Rr X d MRm_feed 44 [l0, l1, l2, .int x] (.int x :: st) h := Rr_nx d_MRm_feed_43 rfl
theorem r_MRm_feed_44 {x y : Int32} : Rr X d MRm_feed 44 L (.int y :: .int x :: st) h = Rr X d MRm_feed 45 L (.int (x * y) :: st) h := Rr_nx d_MRm_feed_44 rfl
theorem r_MRm_feed_45 {x y : Int32} : Rr X d MRm_feed 45 L (.int y :: .int x :: st) h = Rr X d MRm_feed 46 L (.int (x >>> (y &&& 31)) :: st) h := Rr_nx d_MRm_feed_45 rfl
theorem r_MRm_feed_46 {x : Int32} : Rr X d MRm_feed 46 L (.int x :: st) h = Rr X d MRm_feed 47 L (.int (x.toInt8.toInt32) :: st) h := Rr_nx d_MRm_feed_46 rfl
theorem r_MRm_feed_47 {a : Nat} {j x : Int32} (hq : (qA a 2).isSome = true) : Rr X d MRm_feed 47 L (.int x :: .int j :: .ref a :: st) (Wd mu la ro et) = if j < 0 ∨ qAd a 2 ≤ j.toNatClampNeg then none else Rr X d MRm_feed 48 L st (Wd (up2 mu a j.toNatClampNeg (x.toInt8.toInt32)) la ro et) := R_basW d_MRm_feed_47 hq
theorem r_MRm_feed_48 {l1 l2 l3 : Value} {x : Nat} : Rr X d MRm_feed 48 [.ref x, l1, l2, l3] st h = Rr X d MRm_feed 49 [.ref x, l1, l2, l3] (.ref x :: st) h := Rr_nx d_MRm_feed_48 rfl
theorem r_MRm_feed_49 {x : Nat} : Rr X d MRm_feed 49 L (.ref x :: st) h = Rr X d MRm_feed 50 L (.ref x :: .ref x :: st) h := Rr_nx d_MRm_feed_49 rfl
theorem r_MRm_feed_49i {x : Int32} : Rr X d MRm_feed 49 L (.int x :: st) h = Rr X d MRm_feed 50 L (.int x :: .int x :: st) h := Rr_nx d_MRm_feed_49 rfl
theorem r_MRm_feed_50 {a : Nat} (hq : qI a 10 2 = true) : Rr X d MRm_feed 50 L (.ref a :: st) (Wd mu la ro et) = Rr X d MRm_feed 53 L (.int (mu a 2) :: st) (Wd mu la ro et) := R_gfI d_MRm_feed_50 ff_10_111 hq
theorem r_MRm_feed_53 : Rr X d MRm_feed 53 L st h = Rr X d MRm_feed 54 L (.int (1) :: st) h := Rr_nx d_MRm_feed_53 rfl
theorem r_MRm_feed_54 {x y : Int32} : Rr X d MRm_feed 54 L (.int y :: .int x :: st) h = Rr X d MRm_feed 55 L (.int (x + y) :: st) h := Rr_nx d_MRm_feed_54 rfl
theorem r_MRm_feed_55 {a : Nat} {x : Int32} (hq : qI a 10 2 = true) : Rr X d MRm_feed 55 L (.int x :: .ref a :: st) (Wd mu la ro et) = Rr X d MRm_feed 58 L st (Wd (up2 mu a 2 x) la ro et) := R_pfI d_MRm_feed_55 ff_10_111 hq
theorem r_MRm_feed_58 {l0 l1 l2 : Value} {x : Int32} : Rr X d MRm_feed 58 [l0, l1, l2, .int x] st h = Rr X d MRm_feed 61 (sL [l0, l1, l2, .int x] 3 (.int (x + (1)))) st h := Rr_nx d_MRm_feed_58 rfl
theorem r_MRm_feed_61 : Rr X d MRm_feed 61 L st h = Rr X d MRm_feed 27 L st h := R_goto d_MRm_feed_61 (by decide)
theorem r_MRm_feed_64 {l1 l2 l3 : Value} {x : Nat} : Rr X d MRm_feed 64 [.ref x, l1, l2, l3] st h = Rr X d MRm_feed 65 [.ref x, l1, l2, l3] (.ref x :: st) h := Rr_nx d_MRm_feed_64 rfl
theorem r_MRm_feed_65 {a : Nat} (hq : qI a 10 2 = true) : Rr X d MRm_feed 65 L (.ref a :: st) (Wd mu la ro et) = Rr X d MRm_feed 68 L (.int (mu a 2) :: st) (Wd mu la ro et) := R_gfI d_MRm_feed_65 ff_10_111 hq
theorem r_MRm_feed_68 {x : Int32} : Rr X d MRm_feed 68 L [.int x] h = some (some (.int x), h) := R_ir d_MRm_feed_68 rfl
theorem d_MTo_count_0 : decode MTo_count.2.2.1 0 = .ok (.iload_n 1, 1) := by decide +kernel
theorem d_MTo_count_1 : decode MTo_count.2.2.1 1 = .ok (.tableswitch 93 0 6 #[43, 48, 53, 61, 69, 77, 85], 43) := by decide +kernel
theorem d_MTo_count_44 : decode MTo_count.2.2.1 44 = .ok (.aload_n 0, 1) := by decide +kernel
theorem d_MTo_count_45 : decode MTo_count.2.2.1 45 = .ok (.getfield 84, 3) := by decide +kernel
theorem d_MTo_count_48 : decode MTo_count.2.2.1 48 = .ok (.ireturn, 1) := by decide +kernel
theorem d_MTo_count_49 : decode MTo_count.2.2.1 49 = .ok (.aload_n 0, 1) := by decide +kernel
theorem d_MTo_count_50 : decode MTo_count.2.2.1 50 = .ok (.getfield 127, 3) := by decide +kernel
theorem d_MTo_count_53 : decode MTo_count.2.2.1 53 = .ok (.ireturn, 1) := by decide +kernel
theorem d_MTo_count_54 : decode MTo_count.2.2.1 54 = .ok (.aload_n 0, 1) := by decide +kernel
theorem d_MTo_count_55 : decode MTo_count.2.2.1 55 = .ok (.getfield 51, 3) := by decide +kernel
theorem d_MTo_count_58 : decode MTo_count.2.2.1 58 = .ok (.getfield 211, 3) := by decide +kernel
theorem d_MTo_count_61 : decode MTo_count.2.2.1 61 = .ok (.ireturn, 1) := by decide +kernel
theorem d_MTo_count_62 : decode MTo_count.2.2.1 62 = .ok (.aload_n 0, 1) := by decide +kernel
theorem d_MTo_count_63 : decode MTo_count.2.2.1 63 = .ok (.getfield 10, 3) := by decide +kernel
theorem d_MTo_count_66 : decode MTo_count.2.2.1 66 = .ok (.getfield 76, 3) := by decide +kernel
theorem d_MTo_count_69 : decode MTo_count.2.2.1 69 = .ok (.ireturn, 1) := by decide +kernel
theorem d_MTo_count_70 : decode MTo_count.2.2.1 70 = .ok (.aload_n 0, 1) := by decide +kernel
theorem d_MTo_count_71 : decode MTo_count.2.2.1 71 = .ok (.getfield 58, 3) := by decide +kernel
theorem d_MTo_count_74 : decode MTo_count.2.2.1 74 = .ok (.getfield 237, 3) := by decide +kernel
theorem d_MTo_count_77 : decode MTo_count.2.2.1 77 = .ok (.ireturn, 1) := by decide +kernel
theorem d_MTo_count_78 : decode MTo_count.2.2.1 78 = .ok (.aload_n 0, 1) := by decide +kernel
theorem d_MTo_count_79 : decode MTo_count.2.2.1 79 = .ok (.getfield 65, 3) := by decide +kernel
theorem d_MTo_count_82 : decode MTo_count.2.2.1 82 = .ok (.getfield 248, 3) := by decide +kernel
theorem d_MTo_count_85 : decode MTo_count.2.2.1 85 = .ok (.ireturn, 1) := by decide +kernel
theorem d_MTo_count_86 : decode MTo_count.2.2.1 86 = .ok (.aload_n 0, 1) := by decide +kernel
theorem d_MTo_count_87 : decode MTo_count.2.2.1 87 = .ok (.getfield 65, 3) := by decide +kernel
theorem d_MTo_count_90 : decode MTo_count.2.2.1 90 = .ok (.getfield 304, 3) := by decide +kernel
theorem d_MTo_count_93 : decode MTo_count.2.2.1 93 = .ok (.ireturn, 1) := by decide +kernel
theorem d_MTo_count_94 : decode MTo_count.2.2.1 94 = .ok (.iconst (-1), 1) := by decide +kernel
theorem d_MTo_count_95 : decode MTo_count.2.2.1 95 = .ok (.ireturn, 1) := by decide +kernel
theorem r_MTo_count_0 {l0 : Value} {x : Int32} : Rr X d MTo_count 0 [l0, .int x] st h = Rr X d MTo_count 1 [l0, .int x] (.int x :: st) h := Rr_nx d_MTo_count_0 rfl
theorem r_MTo_count_1_0 : Rr X d MTo_count 1 L (.int (0) :: st) h = Rr X d MTo_count 44 L st h := R_tab (off := 43) d_MTo_count_1 (by decide) (by decide) (by decide)
theorem r_MTo_count_1_1 : Rr X d MTo_count 1 L (.int (1) :: st) h = Rr X d MTo_count 49 L st h := R_tab (off := 48) d_MTo_count_1 (by decide) (by decide) (by decide)
theorem r_MTo_count_1_2 : Rr X d MTo_count 1 L (.int (2) :: st) h = Rr X d MTo_count 54 L st h := R_tab (off := 53) d_MTo_count_1 (by decide) (by decide) (by decide)
theorem r_MTo_count_1_3 : Rr X d MTo_count 1 L (.int (3) :: st) h = Rr X d MTo_count 62 L st h := R_tab (off := 61) d_MTo_count_1 (by decide) (by decide) (by decide)
theorem r_MTo_count_1_4 : Rr X d MTo_count 1 L (.int (4) :: st) h = Rr X d MTo_count 70 L st h := R_tab (off := 69) d_MTo_count_1 (by decide) (by decide) (by decide)
theorem r_MTo_count_1_5 : Rr X d MTo_count 1 L (.int (5) :: st) h = Rr X d MTo_count 78 L st h := R_tab (off := 77) d_MTo_count_1 (by decide) (by decide) (by decide)
theorem r_MTo_count_1_6 : Rr X d MTo_count 1 L (.int (6) :: st) h = Rr X d MTo_count 86 L st h := R_tab (off := 85) d_MTo_count_1 (by decide) (by decide) (by decide)
theorem r_MTo_count_1D {x : Int32} (hx : x.toInt < 0 ∨ 6 < x.toInt) : Rr X d MTo_count 1 L (.int x :: st) h = Rr X d MTo_count 94 L st h := R_tabD d_MTo_count_1 hx (by decide)
theorem r_MTo_count_44 {l1 : Value} {x : Nat} : Rr X d MTo_count 44 [.ref x, l1] st h = Rr X d MTo_count 45 [.ref x, l1] (.ref x :: st) h := Rr_nx d_MTo_count_44 rfl
theorem ff_9_84 : fF 9 84 = some (9, 9, 0, 0) := rfl
theorem r_MTo_count_45 {a : Nat} (hq : qI a 9 9 = true) : Rr X d MTo_count 45 L (.ref a :: st) (Wd mu la ro et) = Rr X d MTo_count 48 L (.int (mu a 9) :: st) (Wd mu la ro et) := R_gfI d_MTo_count_45 ff_9_84 hq
theorem r_MTo_count_48 {x : Int32} : Rr X d MTo_count 48 L [.int x] h = some (some (.int x), h) := R_ir d_MTo_count_48 rfl
theorem r_MTo_count_49 {l1 : Value} {x : Nat} : Rr X d MTo_count 49 [.ref x, l1] st h = Rr X d MTo_count 50 [.ref x, l1] (.ref x :: st) h := Rr_nx d_MTo_count_49 rfl
theorem ff_9_127 : fF 9 127 = some (9, 10, 0, 0) := rfl
theorem r_MTo_count_50 {a : Nat} (hq : qI a 9 10 = true) : Rr X d MTo_count 50 L (.ref a :: st) (Wd mu la ro et) = Rr X d MTo_count 53 L (.int (mu a 10) :: st) (Wd mu la ro et) := R_gfI d_MTo_count_50 ff_9_127 hq
theorem r_MTo_count_53 {x : Int32} : Rr X d MTo_count 53 L [.int x] h = some (some (.int x), h) := R_ir d_MTo_count_53 rfl
theorem r_MTo_count_54 {l1 : Value} {x : Nat} : Rr X d MTo_count 54 [.ref x, l1] st h = Rr X d MTo_count 55 [.ref x, l1] (.ref x :: st) h := Rr_nx d_MTo_count_54 rfl
theorem ff_9_51 : fF 9 51 = some (9, 6, 1, 1) := rfl
theorem r_MTo_count_55 {a : Nat} (hq : (qR a 9 6).isSome = true) : Rr X d MTo_count 55 L (.ref a :: st) (Wd mu la ro et) = Rr X d MTo_count 58 L (.ref (qRd a 9 6) :: st) (Wd mu la ro et) := R_gfR d_MTo_count_55 ff_9_51 hq
theorem ff_9_211 : fF 9 211 = some (2, 2, 0, 0) := rfl
theorem r_MTo_count_58 {a : Nat} (hq : qI a 2 2 = true) : Rr X d MTo_count 58 L (.ref a :: st) (Wd mu la ro et) = Rr X d MTo_count 61 L (.int (mu a 2) :: st) (Wd mu la ro et) := R_gfI d_MTo_count_58 ff_9_211 hq
theorem r_MTo_count_61 {x : Int32} : Rr X d MTo_count 61 L [.int x] h = some (some (.int x), h) := R_ir d_MTo_count_61 rfl
theorem r_MTo_count_62 {l1 : Value} {x : Nat} : Rr X d MTo_count 62 [.ref x, l1] st h = Rr X d MTo_count 63 [.ref x, l1] (.ref x :: st) h := Rr_nx d_MTo_count_62 rfl
theorem r_MTo_count_63 {a : Nat} (hq : (qR a 9 0).isSome = true) : Rr X d MTo_count 63 L (.ref a :: st) (Wd mu la ro et) = Rr X d MTo_count 66 L (.ref (qRd a 9 0) :: st) (Wd mu la ro et) := R_gfR d_MTo_count_63 ff_9_10 hq
theorem r_MTo_count_66 {a : Nat} (hq : qI a 8 1 = true) : Rr X d MTo_count 66 L (.ref a :: st) (Wd mu la ro et) = Rr X d MTo_count 69 L (.int (mu a 1) :: st) (Wd mu la ro et) := R_gfI d_MTo_count_66 ff_9_76 hq
theorem r_MTo_count_69 {x : Int32} : Rr X d MTo_count 69 L [.int x] h = some (some (.int x), h) := R_ir d_MTo_count_69 rfl
theorem r_MTo_count_70 {l1 : Value} {x : Nat} : Rr X d MTo_count 70 [.ref x, l1] st h = Rr X d MTo_count 71 [.ref x, l1] (.ref x :: st) h := Rr_nx d_MTo_count_70 rfl
theorem ff_9_58 : fF 9 58 = some (9, 7, 1, 1) := rfl
theorem r_MTo_count_71 {a : Nat} (hq : (qR a 9 7).isSome = true) : Rr X d MTo_count 71 L (.ref a :: st) (Wd mu la ro et) = Rr X d MTo_count 74 L (.ref (qRd a 9 7) :: st) (Wd mu la ro et) := R_gfR d_MTo_count_71 ff_9_58 hq
theorem ff_9_237 : fF 9 237 = some (1, 1, 0, 0) := rfl
theorem r_MTo_count_74 {a : Nat} (hq : qI a 1 1 = true) : Rr X d MTo_count 74 L (.ref a :: st) (Wd mu la ro et) = Rr X d MTo_count 77 L (.int (mu a 1) :: st) (Wd mu la ro et) := R_gfI d_MTo_count_74 ff_9_237 hq
theorem r_MTo_count_77 {x : Int32} : Rr X d MTo_count 77 L [.int x] h = some (some (.int x), h) := R_ir d_MTo_count_77 rfl
theorem r_MTo_count_78 {l1 : Value} {x : Nat} : Rr X d MTo_count 78 [.ref x, l1] st h = Rr X d MTo_count 79 [.ref x, l1] (.ref x :: st) h := Rr_nx d_MTo_count_78 rfl
theorem ff_9_65 : fF 9 65 = some (9, 8, 1, 1) := rfl
theorem r_MTo_count_79 {a : Nat} (hq : (qR a 9 8).isSome = true) : Rr X d MTo_count 79 L (.ref a :: st) (Wd mu la ro et) = Rr X d MTo_count 82 L (.ref (qRd a 9 8) :: st) (Wd mu la ro et) := R_gfR d_MTo_count_79 ff_9_65 hq
theorem ff_9_248 : fF 9 248 = some (0, 2, 0, 0) := rfl
theorem r_MTo_count_82 {a : Nat} (hq : qI a 0 2 = true) : Rr X d MTo_count 82 L (.ref a :: st) (Wd mu la ro et) = Rr X d MTo_count 85 L (.int (mu a 2) :: st) (Wd mu la ro et) := R_gfI d_MTo_count_82 ff_9_248 hq
theorem r_MTo_count_85 {x : Int32} : Rr X d MTo_count 85 L [.int x] h = some (some (.int x), h) := R_ir d_MTo_count_85 rfl
theorem r_MTo_count_86 {l1 : Value} {x : Nat} : Rr X d MTo_count 86 [.ref x, l1] st h = Rr X d MTo_count 87 [.ref x, l1] (.ref x :: st) h := Rr_nx d_MTo_count_86 rfl
theorem r_MTo_count_87 {a : Nat} (hq : (qR a 9 8).isSome = true) : Rr X d MTo_count 87 L (.ref a :: st) (Wd mu la ro et) = Rr X d MTo_count 90 L (.ref (qRd a 9 8) :: st) (Wd mu la ro et) := R_gfR d_MTo_count_87 ff_9_65 hq
theorem ff_9_304 : fF 9 304 = some (0, 3, 0, 0) := rfl
theorem r_MTo_count_90 {a : Nat} (hq : qI a 0 3 = true) : Rr X d MTo_count 90 L (.ref a :: st) (Wd mu la ro et) = Rr X d MTo_count 93 L (.int (mu a 3) :: st) (Wd mu la ro et) := R_gfI d_MTo_count_90 ff_9_304 hq
theorem r_MTo_count_93 {x : Int32} : Rr X d MTo_count 93 L [.int x] h = some (some (.int x), h) := R_ir d_MTo_count_93 rfl
theorem r_MTo_count_94 : Rr X d MTo_count 94 L st h = Rr X d MTo_count 95 L (.int (-1) :: st) h := Rr_nx d_MTo_count_94 rfl
theorem r_MTo_count_95 {x : Int32} : Rr X d MTo_count 95 L [.int x] h = some (some (.int x), h) := R_ir d_MTo_count_95 rfl
theorem d_MRm_count_0 : decode MRm_count.2.2.1 0 = .ok (.iload_n 1, 1) := by decide +kernel
theorem d_MRm_count_1 : decode MRm_count.2.2.1 1 = .ok (.tableswitch 78 0 6 #[43, 48, 53, 58, 63, 68, 73], 43) := by decide +kernel
theorem d_MRm_count_44 : decode MRm_count.2.2.1 44 = .ok (.aload_n 0, 1) := by decide +kernel
theorem d_MRm_count_45 : decode MRm_count.2.2.1 45 = .ok (.getfield 114, 3) := by decide +kernel
theorem d_MRm_count_48 : decode MRm_count.2.2.1 48 = .ok (.ireturn, 1) := by decide +kernel
theorem d_MRm_count_49 : decode MRm_count.2.2.1 49 = .ok (.aload_n 0, 1) := by decide +kernel
theorem d_MRm_count_50 : decode MRm_count.2.2.1 50 = .ok (.getfield 250, 3) := by decide +kernel
theorem d_MRm_count_53 : decode MRm_count.2.2.1 53 = .ok (.ireturn, 1) := by decide +kernel
theorem d_MRm_count_54 : decode MRm_count.2.2.1 54 = .ok (.aload_n 0, 1) := by decide +kernel
theorem d_MRm_count_55 : decode MRm_count.2.2.1 55 = .ok (.getfield 339, 3) := by decide +kernel
theorem d_MRm_count_58 : decode MRm_count.2.2.1 58 = .ok (.ireturn, 1) := by decide +kernel
theorem d_MRm_count_59 : decode MRm_count.2.2.1 59 = .ok (.aload_n 0, 1) := by decide +kernel
theorem d_MRm_count_60 : decode MRm_count.2.2.1 60 = .ok (.getfield 111, 3) := by decide +kernel
theorem d_MRm_count_63 : decode MRm_count.2.2.1 63 = .ok (.ireturn, 1) := by decide +kernel
theorem d_MRm_count_64 : decode MRm_count.2.2.1 64 = .ok (.aload_n 0, 1) := by decide +kernel
theorem d_MRm_count_65 : decode MRm_count.2.2.1 65 = .ok (.getfield 187, 3) := by decide +kernel
theorem d_MRm_count_68 : decode MRm_count.2.2.1 68 = .ok (.ireturn, 1) := by decide +kernel
theorem d_MRm_count_69 : decode MRm_count.2.2.1 69 = .ok (.aload_n 0, 1) := by decide +kernel
theorem d_MRm_count_70 : decode MRm_count.2.2.1 70 = .ok (.getfield 356, 3) := by decide +kernel
theorem d_MRm_count_73 : decode MRm_count.2.2.1 73 = .ok (.ireturn, 1) := by decide +kernel
theorem d_MRm_count_74 : decode MRm_count.2.2.1 74 = .ok (.aload_n 0, 1) := by decide +kernel
theorem d_MRm_count_75 : decode MRm_count.2.2.1 75 = .ok (.getfield 359, 3) := by decide +kernel
theorem d_MRm_count_78 : decode MRm_count.2.2.1 78 = .ok (.ireturn, 1) := by decide +kernel
theorem d_MRm_count_79 : decode MRm_count.2.2.1 79 = .ok (.iconst (-1), 1) := by decide +kernel
theorem d_MRm_count_80 : decode MRm_count.2.2.1 80 = .ok (.ireturn, 1) := by decide +kernel
theorem r_MRm_count_0 {l0 : Value} {x : Int32} : Rr X d MRm_count 0 [l0, .int x] st h = Rr X d MRm_count 1 [l0, .int x] (.int x :: st) h := Rr_nx d_MRm_count_0 rfl
theorem r_MRm_count_1_0 : Rr X d MRm_count 1 L (.int (0) :: st) h = Rr X d MRm_count 44 L st h := R_tab (off := 43) d_MRm_count_1 (by decide) (by decide) (by decide)
theorem r_MRm_count_1_1 : Rr X d MRm_count 1 L (.int (1) :: st) h = Rr X d MRm_count 49 L st h := R_tab (off := 48) d_MRm_count_1 (by decide) (by decide) (by decide)
theorem r_MRm_count_1_2 : Rr X d MRm_count 1 L (.int (2) :: st) h = Rr X d MRm_count 54 L st h := R_tab (off := 53) d_MRm_count_1 (by decide) (by decide) (by decide)
theorem r_MRm_count_1_3 : Rr X d MRm_count 1 L (.int (3) :: st) h = Rr X d MRm_count 59 L st h := R_tab (off := 58) d_MRm_count_1 (by decide) (by decide) (by decide)
theorem r_MRm_count_1_4 : Rr X d MRm_count 1 L (.int (4) :: st) h = Rr X d MRm_count 64 L st h := R_tab (off := 63) d_MRm_count_1 (by decide) (by decide) (by decide)
theorem r_MRm_count_1_5 : Rr X d MRm_count 1 L (.int (5) :: st) h = Rr X d MRm_count 69 L st h := R_tab (off := 68) d_MRm_count_1 (by decide) (by decide) (by decide)
theorem r_MRm_count_1_6 : Rr X d MRm_count 1 L (.int (6) :: st) h = Rr X d MRm_count 74 L st h := R_tab (off := 73) d_MRm_count_1 (by decide) (by decide) (by decide)
theorem r_MRm_count_1D {x : Int32} (hx : x.toInt < 0 ∨ 6 < x.toInt) : Rr X d MRm_count 1 L (.int x :: st) h = Rr X d MRm_count 79 L st h := R_tabD d_MRm_count_1 hx (by decide)
theorem r_MRm_count_44 {l1 : Value} {x : Nat} : Rr X d MRm_count 44 [.ref x, l1] st h = Rr X d MRm_count 45 [.ref x, l1] (.ref x :: st) h := Rr_nx d_MRm_count_44 rfl
theorem ff_10_114 : fF 10 114 = some (10, 3, 0, 0) := rfl
theorem r_MRm_count_45 {a : Nat} (hq : qI a 10 3 = true) : Rr X d MRm_count 45 L (.ref a :: st) (Wd mu la ro et) = Rr X d MRm_count 48 L (.int (mu a 3) :: st) (Wd mu la ro et) := R_gfI d_MRm_count_45 ff_10_114 hq
theorem r_MRm_count_48 {x : Int32} : Rr X d MRm_count 48 L [.int x] h = some (some (.int x), h) := R_ir d_MRm_count_48 rfl
theorem r_MRm_count_49 {l1 : Value} {x : Nat} : Rr X d MRm_count 49 [.ref x, l1] st h = Rr X d MRm_count 50 [.ref x, l1] (.ref x :: st) h := Rr_nx d_MRm_count_49 rfl
theorem ff_10_250 : fF 10 250 = some (10, 29, 0, 0) := rfl
theorem r_MRm_count_50 {a : Nat} (hq : qI a 10 29 = true) : Rr X d MRm_count 50 L (.ref a :: st) (Wd mu la ro et) = Rr X d MRm_count 53 L (.int (mu a 29) :: st) (Wd mu la ro et) := R_gfI d_MRm_count_50 ff_10_250 hq
theorem r_MRm_count_53 {x : Int32} : Rr X d MRm_count 53 L [.int x] h = some (some (.int x), h) := R_ir d_MRm_count_53 rfl
theorem r_MRm_count_54 {l1 : Value} {x : Nat} : Rr X d MRm_count 54 [.ref x, l1] st h = Rr X d MRm_count 55 [.ref x, l1] (.ref x :: st) h := Rr_nx d_MRm_count_54 rfl
theorem ff_10_339 : fF 10 339 = some (10, 47, 0, 0) := rfl
theorem r_MRm_count_55 {a : Nat} (hq : qI a 10 47 = true) : Rr X d MRm_count 55 L (.ref a :: st) (Wd mu la ro et) = Rr X d MRm_count 58 L (.int (mu a 47) :: st) (Wd mu la ro et) := R_gfI d_MRm_count_55 ff_10_339 hq
theorem r_MRm_count_58 {x : Int32} : Rr X d MRm_count 58 L [.int x] h = some (some (.int x), h) := R_ir d_MRm_count_58 rfl
theorem r_MRm_count_59 {l1 : Value} {x : Nat} : Rr X d MRm_count 59 [.ref x, l1] st h = Rr X d MRm_count 60 [.ref x, l1] (.ref x :: st) h := Rr_nx d_MRm_count_59 rfl
theorem r_MRm_count_60 {a : Nat} (hq : qI a 10 2 = true) : Rr X d MRm_count 60 L (.ref a :: st) (Wd mu la ro et) = Rr X d MRm_count 63 L (.int (mu a 2) :: st) (Wd mu la ro et) := R_gfI d_MRm_count_60 ff_10_111 hq
theorem r_MRm_count_63 {x : Int32} : Rr X d MRm_count 63 L [.int x] h = some (some (.int x), h) := R_ir d_MRm_count_63 rfl
theorem r_MRm_count_64 {l1 : Value} {x : Nat} : Rr X d MRm_count 64 [.ref x, l1] st h = Rr X d MRm_count 65 [.ref x, l1] (.ref x :: st) h := Rr_nx d_MRm_count_64 rfl
theorem ff_10_187 : fF 10 187 = some (10, 12, 0, 0) := rfl
theorem r_MRm_count_65 {a : Nat} (hq : qI a 10 12 = true) : Rr X d MRm_count 65 L (.ref a :: st) (Wd mu la ro et) = Rr X d MRm_count 68 L (.int (mu a 12) :: st) (Wd mu la ro et) := R_gfI d_MRm_count_65 ff_10_187 hq
theorem r_MRm_count_68 {x : Int32} : Rr X d MRm_count 68 L [.int x] h = some (some (.int x), h) := R_ir d_MRm_count_68 rfl
theorem r_MRm_count_69 {l1 : Value} {x : Nat} : Rr X d MRm_count 69 [.ref x, l1] st h = Rr X d MRm_count 70 [.ref x, l1] (.ref x :: st) h := Rr_nx d_MRm_count_69 rfl
theorem ff_10_356 : fF 10 356 = some (10, 51, 0, 0) := rfl
theorem r_MRm_count_70 {a : Nat} (hq : qI a 10 51 = true) : Rr X d MRm_count 70 L (.ref a :: st) (Wd mu la ro et) = Rr X d MRm_count 73 L (.int (mu a 51) :: st) (Wd mu la ro et) := R_gfI d_MRm_count_70 ff_10_356 hq
theorem r_MRm_count_73 {x : Int32} : Rr X d MRm_count 73 L [.int x] h = some (some (.int x), h) := R_ir d_MRm_count_73 rfl
theorem r_MRm_count_74 {l1 : Value} {x : Nat} : Rr X d MRm_count 74 [.ref x, l1] st h = Rr X d MRm_count 75 [.ref x, l1] (.ref x :: st) h := Rr_nx d_MRm_count_74 rfl
theorem ff_10_359 : fF 10 359 = some (10, 53, 0, 0) := rfl
theorem r_MRm_count_75 {a : Nat} (hq : qI a 10 53 = true) : Rr X d MRm_count 75 L (.ref a :: st) (Wd mu la ro et) = Rr X d MRm_count 78 L (.int (mu a 53) :: st) (Wd mu la ro et) := R_gfI d_MRm_count_75 ff_10_359 hq
theorem r_MRm_count_78 {x : Int32} : Rr X d MRm_count 78 L [.int x] h = some (some (.int x), h) := R_ir d_MRm_count_78 rfl
theorem r_MRm_count_79 : Rr X d MRm_count 79 L st h = Rr X d MRm_count 80 L (.int (-1) :: st) h := Rr_nx d_MRm_count_79 rfl
theorem r_MRm_count_80 {x : Int32} : Rr X d MRm_count 80 L [.int x] h = some (some (.int x), h) := R_ir d_MRm_count_80 rfl
theorem d_MTo_chance_0 : decode MTo_chance.2.2.1 0 = .ok (.iload_n 1, 1) := by decide +kernel
theorem d_MTo_chance_1 : decode MTo_chance.2.2.1 1 = .ok (.iconst 1, 1) := by decide +kernel
theorem d_MTo_chance_2 : decode MTo_chance.2.2.1 2 = .ok (.bipush 40, 2) := by decide +kernel
theorem d_MTo_chance_4 : decode MTo_chance.2.2.1 4 = .ok (.invokestatic 72, 3) := by decide +kernel
theorem d_MTo_chance_7 : decode MTo_chance.2.2.1 7 = .ok (.ifCond .eq 12, 3) := by decide +kernel
theorem d_MTo_chance_10 : decode MTo_chance.2.2.1 10 = .ok (.iload_n 2, 1) := by decide +kernel
theorem d_MTo_chance_11 : decode MTo_chance.2.2.1 11 = .ok (.iconst 0, 1) := by decide +kernel
theorem d_MTo_chance_12 : decode MTo_chance.2.2.1 12 = .ok (.iload_n 1, 1) := by decide +kernel
theorem d_MTo_chance_13 : decode MTo_chance.2.2.1 13 = .ok (.invokestatic 72, 3) := by decide +kernel
theorem d_MTo_chance_16 : decode MTo_chance.2.2.1 16 = .ok (.ifCond .ne 5, 3) := by decide +kernel
theorem d_MTo_chance_19 : decode MTo_chance.2.2.1 19 = .ok (.iconst (-1), 1) := by decide +kernel
theorem d_MTo_chance_20 : decode MTo_chance.2.2.1 20 = .ok (.ireturn, 1) := by decide +kernel
theorem d_MTo_chance_21 : decode MTo_chance.2.2.1 21 = .ok (.iload_n 2, 1) := by decide +kernel
theorem d_MTo_chance_22 : decode MTo_chance.2.2.1 22 = .ok (.iload_n 1, 1) := by decide +kernel
theorem d_MTo_chance_23 : decode MTo_chance.2.2.1 23 = .ok (.iload_n 2, 1) := by decide +kernel
theorem d_MTo_chance_24 : decode MTo_chance.2.2.1 24 = .ok (.isub, 1) := by decide +kernel
theorem d_MTo_chance_25 : decode MTo_chance.2.2.1 25 = .ok (.invokestatic 230, 3) := by decide +kernel
theorem d_MTo_chance_28 : decode MTo_chance.2.2.1 28 = .ok (.istore_n 3, 1) := by decide +kernel
theorem d_MTo_chance_29 : decode MTo_chance.2.2.1 29 = .ok (.lconst 0, 1) := by decide +kernel
theorem d_MTo_chance_30 : decode MTo_chance.2.2.1 30 = .ok (.lstore 4, 2) := by decide +kernel
theorem d_MTo_chance_32 : decode MTo_chance.2.2.1 32 = .ok (.lconst 1, 1) := by decide +kernel
theorem d_MTo_chance_33 : decode MTo_chance.2.2.1 33 = .ok (.lstore 6, 2) := by decide +kernel
theorem d_MTo_chance_35 : decode MTo_chance.2.2.1 35 = .ok (.iconst 0, 1) := by decide +kernel
theorem d_MTo_chance_36 : decode MTo_chance.2.2.1 36 = .ok (.istore 8, 2) := by decide +kernel
theorem d_MTo_chance_38 : decode MTo_chance.2.2.1 38 = .ok (.iload 8, 2) := by decide +kernel
theorem d_MTo_chance_40 : decode MTo_chance.2.2.1 40 = .ok (.iload_n 1, 1) := by decide +kernel
theorem d_MTo_chance_41 : decode MTo_chance.2.2.1 41 = .ok (.if_icmp .gt 45, 3) := by decide +kernel
theorem d_MTo_chance_44 : decode MTo_chance.2.2.1 44 = .ok (.iload 8, 2) := by decide +kernel
theorem d_MTo_chance_46 : decode MTo_chance.2.2.1 46 = .ok (.iload_n 1, 1) := by decide +kernel
theorem d_MTo_chance_47 : decode MTo_chance.2.2.1 47 = .ok (.iload 8, 2) := by decide +kernel
theorem d_MTo_chance_49 : decode MTo_chance.2.2.1 49 = .ok (.isub, 1) := by decide +kernel
theorem d_MTo_chance_50 : decode MTo_chance.2.2.1 50 = .ok (.invokestatic 230, 3) := by decide +kernel
theorem d_MTo_chance_53 : decode MTo_chance.2.2.1 53 = .ok (.iload_n 3, 1) := by decide +kernel
theorem d_MTo_chance_54 : decode MTo_chance.2.2.1 54 = .ok (.if_icmp .lt 10, 3) := by decide +kernel
theorem d_MTo_chance_57 : decode MTo_chance.2.2.1 57 = .ok (.lload 4, 2) := by decide +kernel
theorem d_MTo_chance_59 : decode MTo_chance.2.2.1 59 = .ok (.lload 6, 2) := by decide +kernel
theorem d_MTo_chance_61 : decode MTo_chance.2.2.1 61 = .ok (.ladd, 1) := by decide +kernel
theorem d_MTo_chance_62 : decode MTo_chance.2.2.1 62 = .ok (.lstore 4, 2) := by decide +kernel
theorem d_MTo_chance_64 : decode MTo_chance.2.2.1 64 = .ok (.lload 6, 2) := by decide +kernel
theorem d_MTo_chance_66 : decode MTo_chance.2.2.1 66 = .ok (.iload_n 1, 1) := by decide +kernel
theorem d_MTo_chance_67 : decode MTo_chance.2.2.1 67 = .ok (.iload 8, 2) := by decide +kernel
theorem d_MTo_chance_69 : decode MTo_chance.2.2.1 69 = .ok (.isub, 1) := by decide +kernel
theorem d_MTo_chance_70 : decode MTo_chance.2.2.1 70 = .ok (.i2l, 1) := by decide +kernel
theorem d_MTo_chance_71 : decode MTo_chance.2.2.1 71 = .ok (.lmul, 1) := by decide +kernel
theorem d_MTo_chance_72 : decode MTo_chance.2.2.1 72 = .ok (.iload 8, 2) := by decide +kernel
theorem d_MTo_chance_74 : decode MTo_chance.2.2.1 74 = .ok (.iconst 1, 1) := by decide +kernel
theorem d_MTo_chance_75 : decode MTo_chance.2.2.1 75 = .ok (.iadd, 1) := by decide +kernel
theorem d_MTo_chance_76 : decode MTo_chance.2.2.1 76 = .ok (.i2l, 1) := by decide +kernel
theorem d_MTo_chance_77 : decode MTo_chance.2.2.1 77 = .ok (.ldiv, 1) := by decide +kernel
theorem d_MTo_chance_78 : decode MTo_chance.2.2.1 78 = .ok (.lstore 6, 2) := by decide +kernel
theorem d_MTo_chance_80 : decode MTo_chance.2.2.1 80 = .ok (.iinc 8 1, 3) := by decide +kernel
theorem d_MTo_chance_83 : decode MTo_chance.2.2.1 83 = .ok (.goto (-45), 3) := by decide +kernel
theorem d_MTo_chance_86 : decode MTo_chance.2.2.1 86 = .ok (.lload 4, 2) := by decide +kernel
theorem d_MTo_chance_88 : decode MTo_chance.2.2.1 88 = .ok (.ldc2_w 235, 3) := by decide +kernel
theorem d_MTo_chance_91 : decode MTo_chance.2.2.1 91 = .ok (.lmul, 1) := by decide +kernel
theorem d_MTo_chance_92 : decode MTo_chance.2.2.1 92 = .ok (.lconst 1, 1) := by decide +kernel
theorem d_MTo_chance_93 : decode MTo_chance.2.2.1 93 = .ok (.iload_n 1, 1) := by decide +kernel
theorem d_MTo_chance_94 : decode MTo_chance.2.2.1 94 = .ok (.lshl, 1) := by decide +kernel
theorem d_MTo_chance_95 : decode MTo_chance.2.2.1 95 = .ok (.ldiv, 1) := by decide +kernel
theorem d_MTo_chance_96 : decode MTo_chance.2.2.1 96 = .ok (.l2i, 1) := by decide +kernel
theorem d_MTo_chance_97 : decode MTo_chance.2.2.1 97 = .ok (.ireturn, 1) := by decide +kernel
theorem r_MTo_chance_0 {l0 l2 l3 l4 l5 l6 l7 l8 : Value} {x : Int32} : Rr X d MTo_chance 0 [l0, .int x, l2, l3, l4, l5, l6, l7, l8] st h = Rr X d MTo_chance 1 [l0, .int x, l2, l3, l4, l5, l6, l7, l8] (.int x :: st) h := Rr_nx d_MTo_chance_0 rfl
theorem r_MTo_chance_1 : Rr X d MTo_chance 1 L st h = Rr X d MTo_chance 2 L (.int (1) :: st) h := Rr_nx d_MTo_chance_1 rfl
theorem r_MTo_chance_2 : Rr X d MTo_chance 2 L st h = Rr X d MTo_chance 4 L (.int (40) :: st) h := Rr_nx d_MTo_chance_2 rfl
theorem r_MTo_chance_4 {y0 : Int32} {y1 : Int32} {y2 : Int32} (hc : ckS st = true) : Rr X (d + 1) MTo_chance 4 L (.int y2 :: .int y1 :: .int y0 :: st) h = (Rr X d MTo_isWithin 0 [.int y0, .int y1, .int y2] [] h).bind fun q => Rr X (d + 1) MTo_chance 7 L (psh q.1 st) q.2 := R_is (av := [.int y2, .int y1, .int y0]) d_MTo_chance_4 (Or.inl fc_9_72) (ckS_le hc) rfl (Nat.le_of_ble_eq_true rfl) (Nat.le_of_ble_eq_true rfl)
theorem r_MTo_chance_7 {x : Int32} : Rr X d MTo_chance 7 L (.int x :: st) h = if x = 0 then Rr X d MTo_chance 19 L st h else Rr X d MTo_chance 10 L st h := R_if_eq d_MTo_chance_7 (by decide)
theorem r_MTo_chance_10 {l0 l1 l3 l4 l5 l6 l7 l8 : Value} {x : Int32} : Rr X d MTo_chance 10 [l0, l1, .int x, l3, l4, l5, l6, l7, l8] st h = Rr X d MTo_chance 11 [l0, l1, .int x, l3, l4, l5, l6, l7, l8] (.int x :: st) h := Rr_nx d_MTo_chance_10 rfl
theorem r_MTo_chance_11 : Rr X d MTo_chance 11 L st h = Rr X d MTo_chance 12 L (.int (0) :: st) h := Rr_nx d_MTo_chance_11 rfl
theorem r_MTo_chance_12 {l0 l2 l3 l4 l5 l6 l7 l8 : Value} {x : Int32} : Rr X d MTo_chance 12 [l0, .int x, l2, l3, l4, l5, l6, l7, l8] st h = Rr X d MTo_chance 13 [l0, .int x, l2, l3, l4, l5, l6, l7, l8] (.int x :: st) h := Rr_nx d_MTo_chance_12 rfl
theorem r_MTo_chance_13 {y0 : Int32} {y1 : Int32} {y2 : Int32} (hc : ckS st = true) : Rr X (d + 1) MTo_chance 13 L (.int y2 :: .int y1 :: .int y0 :: st) h = (Rr X d MTo_isWithin 0 [.int y0, .int y1, .int y2] [] h).bind fun q => Rr X (d + 1) MTo_chance 16 L (psh q.1 st) q.2 := R_is (av := [.int y2, .int y1, .int y0]) d_MTo_chance_13 (Or.inl fc_9_72) (ckS_le hc) rfl (Nat.le_of_ble_eq_true rfl) (Nat.le_of_ble_eq_true rfl)
theorem r_MTo_chance_16 {x : Int32} : Rr X d MTo_chance 16 L (.int x :: st) h = if ¬ x = 0 then Rr X d MTo_chance 21 L st h else Rr X d MTo_chance 19 L st h := R_if_ne d_MTo_chance_16 (by decide)
theorem r_MTo_chance_19 : Rr X d MTo_chance 19 L st h = Rr X d MTo_chance 20 L (.int (-1) :: st) h := Rr_nx d_MTo_chance_19 rfl
theorem r_MTo_chance_20 {x : Int32} : Rr X d MTo_chance 20 L [.int x] h = some (some (.int x), h) := R_ir d_MTo_chance_20 rfl
theorem r_MTo_chance_21 {l0 l1 l3 l4 l5 l6 l7 l8 : Value} {x : Int32} : Rr X d MTo_chance 21 [l0, l1, .int x, l3, l4, l5, l6, l7, l8] st h = Rr X d MTo_chance 22 [l0, l1, .int x, l3, l4, l5, l6, l7, l8] (.int x :: st) h := Rr_nx d_MTo_chance_21 rfl
theorem r_MTo_chance_22 {l0 l2 l3 l4 l5 l6 l7 l8 : Value} {x : Int32} : Rr X d MTo_chance 22 [l0, .int x, l2, l3, l4, l5, l6, l7, l8] st h = Rr X d MTo_chance 23 [l0, .int x, l2, l3, l4, l5, l6, l7, l8] (.int x :: st) h := Rr_nx d_MTo_chance_22 rfl
theorem r_MTo_chance_23 {l0 l1 l3 l4 l5 l6 l7 l8 : Value} {x : Int32} : Rr X d MTo_chance 23 [l0, l1, .int x, l3, l4, l5, l6, l7, l8] st h = Rr X d MTo_chance 24 [l0, l1, .int x, l3, l4, l5, l6, l7, l8] (.int x :: st) h := Rr_nx d_MTo_chance_23 rfl
theorem r_MTo_chance_24 {x y : Int32} : Rr X d MTo_chance 24 L (.int y :: .int x :: st) h = Rr X d MTo_chance 25 L (.int (x - y) :: st) h := Rr_nx d_MTo_chance_24 rfl
theorem fc_9_230 : fC 9 230 = some (6, 0, 0, mI 0) := rfl
theorem r_MTo_chance_25 {x y : Int32} (hc : ckS st = true) : Rr X (d + 1) MTo_chance 25 L (.int y :: .int x :: st) h = Rr X (d + 1) MTo_chance 28 L (.int (if x < y then y else x) :: st) h := R_max d_MTo_chance_25 fc_9_230 (ckS_le hc)
theorem r_MTo_chance_28 {l0 l1 l2 l3 l4 l5 l6 l7 l8 : Value} {x : Int32} : Rr X d MTo_chance 28 [l0, l1, l2, l3, l4, l5, l6, l7, l8] (.int x :: st) h = Rr X d MTo_chance 29 (sL [l0, l1, l2, l3, l4, l5, l6, l7, l8] 3 (.int x)) st h := Rr_nx d_MTo_chance_28 rfl
theorem r_MTo_chance_29 : Rr X d MTo_chance 29 L st h = Rr X d MTo_chance 30 L (.long 0 :: st) h := Rr_nx d_MTo_chance_29 rfl
theorem r_MTo_chance_30 {l0 l1 l2 l3 l4 l5 l6 l7 l8 : Value} {x : Int64} : Rr X d MTo_chance 30 [l0, l1, l2, l3, l4, l5, l6, l7, l8] (.long x :: st) h = Rr X d MTo_chance 32 ((sL [l0, l1, l2, l3, l4, l5, l6, l7, l8] 4 (.long x)).set 5 mkU) st h := Rr_nx d_MTo_chance_30 rfl
theorem r_MTo_chance_32 : Rr X d MTo_chance 32 L st h = Rr X d MTo_chance 33 L (.long 1 :: st) h := Rr_nx d_MTo_chance_32 rfl
theorem r_MTo_chance_33 {l0 l1 l2 l3 l4 l5 l6 l7 l8 : Value} {x : Int64} : Rr X d MTo_chance 33 [l0, l1, l2, l3, l4, l5, l6, l7, l8] (.long x :: st) h = Rr X d MTo_chance 35 ((sL [l0, l1, l2, l3, l4, l5, l6, l7, l8] 6 (.long x)).set 7 mkU) st h := Rr_nx d_MTo_chance_33 rfl
theorem r_MTo_chance_35 : Rr X d MTo_chance 35 L st h = Rr X d MTo_chance 36 L (.int (0) :: st) h := Rr_nx d_MTo_chance_35 rfl
theorem r_MTo_chance_36 {l0 l1 l2 l3 l4 l5 l6 l7 l8 : Value} {x : Int32} : Rr X d MTo_chance 36 [l0, l1, l2, l3, l4, l5, l6, l7, l8] (.int x :: st) h = Rr X d MTo_chance 38 (sL [l0, l1, l2, l3, l4, l5, l6, l7, l8] 8 (.int x)) st h := Rr_nx d_MTo_chance_36 rfl
theorem r_MTo_chance_38 {l0 l1 l2 l3 l4 l5 l6 l7 : Value} {x : Int32} : Rr X d MTo_chance 38 [l0, l1, l2, l3, l4, l5, l6, l7, .int x] st h = Rr X d MTo_chance 40 [l0, l1, l2, l3, l4, l5, l6, l7, .int x] (.int x :: st) h := Rr_nx d_MTo_chance_38 rfl
theorem r_MTo_chance_40 {l0 l2 l3 l4 l5 l6 l7 l8 : Value} {x : Int32} : Rr X d MTo_chance 40 [l0, .int x, l2, l3, l4, l5, l6, l7, l8] st h = Rr X d MTo_chance 41 [l0, .int x, l2, l3, l4, l5, l6, l7, l8] (.int x :: st) h := Rr_nx d_MTo_chance_40 rfl
theorem r_MTo_chance_41 {x y : Int32} : Rr X d MTo_chance 41 L (.int y :: .int x :: st) h = if y < x then Rr X d MTo_chance 86 L st h else Rr X d MTo_chance 44 L st h := R_ic_gt d_MTo_chance_41 (by decide)
theorem r_MTo_chance_44 {l0 l1 l2 l3 l4 l5 l6 l7 : Value} {x : Int32} : Rr X d MTo_chance 44 [l0, l1, l2, l3, l4, l5, l6, l7, .int x] st h = Rr X d MTo_chance 46 [l0, l1, l2, l3, l4, l5, l6, l7, .int x] (.int x :: st) h := Rr_nx d_MTo_chance_44 rfl
theorem r_MTo_chance_46 {l0 l2 l3 l4 l5 l6 l7 l8 : Value} {x : Int32} : Rr X d MTo_chance 46 [l0, .int x, l2, l3, l4, l5, l6, l7, l8] st h = Rr X d MTo_chance 47 [l0, .int x, l2, l3, l4, l5, l6, l7, l8] (.int x :: st) h := Rr_nx d_MTo_chance_46 rfl
theorem r_MTo_chance_47 {l0 l1 l2 l3 l4 l5 l6 l7 : Value} {x : Int32} : Rr X d MTo_chance 47 [l0, l1, l2, l3, l4, l5, l6, l7, .int x] st h = Rr X d MTo_chance 49 [l0, l1, l2, l3, l4, l5, l6, l7, .int x] (.int x :: st) h := Rr_nx d_MTo_chance_47 rfl
theorem r_MTo_chance_49 {x y : Int32} : Rr X d MTo_chance 49 L (.int y :: .int x :: st) h = Rr X d MTo_chance 50 L (.int (x - y) :: st) h := Rr_nx d_MTo_chance_49 rfl
theorem r_MTo_chance_50 {x y : Int32} (hc : ckS st = true) : Rr X (d + 1) MTo_chance 50 L (.int y :: .int x :: st) h = Rr X (d + 1) MTo_chance 53 L (.int (if x < y then y else x) :: st) h := R_max d_MTo_chance_50 fc_9_230 (ckS_le hc)
theorem r_MTo_chance_53 {l0 l1 l2 l4 l5 l6 l7 l8 : Value} {x : Int32} : Rr X d MTo_chance 53 [l0, l1, l2, .int x, l4, l5, l6, l7, l8] st h = Rr X d MTo_chance 54 [l0, l1, l2, .int x, l4, l5, l6, l7, l8] (.int x :: st) h := Rr_nx d_MTo_chance_53 rfl
theorem r_MTo_chance_54 {x y : Int32} : Rr X d MTo_chance 54 L (.int y :: .int x :: st) h = if x < y then Rr X d MTo_chance 64 L st h else Rr X d MTo_chance 57 L st h := R_ic_lt d_MTo_chance_54 (by decide)
theorem r_MTo_chance_57 {l0 l1 l2 l3 l5 l6 l7 l8 : Value} {x : Int64} : Rr X d MTo_chance 57 [l0, l1, l2, l3, .long x, l5, l6, l7, l8] st h = Rr X d MTo_chance 59 [l0, l1, l2, l3, .long x, l5, l6, l7, l8] (.long x :: st) h := Rr_nx d_MTo_chance_57 rfl
theorem r_MTo_chance_59 {l0 l1 l2 l3 l4 l5 l7 l8 : Value} {x : Int64} : Rr X d MTo_chance 59 [l0, l1, l2, l3, l4, l5, .long x, l7, l8] st h = Rr X d MTo_chance 61 [l0, l1, l2, l3, l4, l5, .long x, l7, l8] (.long x :: st) h := Rr_nx d_MTo_chance_59 rfl
theorem r_MTo_chance_61 {x y : Int64} : Rr X d MTo_chance 61 L (.long y :: .long x :: st) h = Rr X d MTo_chance 62 L (.long (x + y) :: st) h := Rr_nx d_MTo_chance_61 rfl
theorem r_MTo_chance_62 {l0 l1 l2 l3 l4 l5 l6 l7 l8 : Value} {x : Int64} : Rr X d MTo_chance 62 [l0, l1, l2, l3, l4, l5, l6, l7, l8] (.long x :: st) h = Rr X d MTo_chance 64 ((sL [l0, l1, l2, l3, l4, l5, l6, l7, l8] 4 (.long x)).set 5 mkU) st h := Rr_nx d_MTo_chance_62 rfl
theorem r_MTo_chance_64 {l0 l1 l2 l3 l4 l5 l7 l8 : Value} {x : Int64} : Rr X d MTo_chance 64 [l0, l1, l2, l3, l4, l5, .long x, l7, l8] st h = Rr X d MTo_chance 66 [l0, l1, l2, l3, l4, l5, .long x, l7, l8] (.long x :: st) h := Rr_nx d_MTo_chance_64 rfl
theorem r_MTo_chance_66 {l0 l2 l3 l4 l5 l6 l7 l8 : Value} {x : Int32} : Rr X d MTo_chance 66 [l0, .int x, l2, l3, l4, l5, l6, l7, l8] st h = Rr X d MTo_chance 67 [l0, .int x, l2, l3, l4, l5, l6, l7, l8] (.int x :: st) h := Rr_nx d_MTo_chance_66 rfl
theorem r_MTo_chance_67 {l0 l1 l2 l3 l4 l5 l6 l7 : Value} {x : Int32} : Rr X d MTo_chance 67 [l0, l1, l2, l3, l4, l5, l6, l7, .int x] st h = Rr X d MTo_chance 69 [l0, l1, l2, l3, l4, l5, l6, l7, .int x] (.int x :: st) h := Rr_nx d_MTo_chance_67 rfl
theorem r_MTo_chance_69 {x y : Int32} : Rr X d MTo_chance 69 L (.int y :: .int x :: st) h = Rr X d MTo_chance 70 L (.int (x - y) :: st) h := Rr_nx d_MTo_chance_69 rfl
theorem r_MTo_chance_70 {x : Int32} : Rr X d MTo_chance 70 L (.int x :: st) h = Rr X d MTo_chance 71 L (.long x.toInt64 :: st) h := Rr_nx d_MTo_chance_70 rfl
theorem r_MTo_chance_71 {x y : Int64} : Rr X d MTo_chance 71 L (.long y :: .long x :: st) h = Rr X d MTo_chance 72 L (.long (x * y) :: st) h := Rr_nx d_MTo_chance_71 rfl
theorem r_MTo_chance_72 {l0 l1 l2 l3 l4 l5 l6 l7 : Value} {x : Int32} : Rr X d MTo_chance 72 [l0, l1, l2, l3, l4, l5, l6, l7, .int x] st h = Rr X d MTo_chance 74 [l0, l1, l2, l3, l4, l5, l6, l7, .int x] (.int x :: st) h := Rr_nx d_MTo_chance_72 rfl
theorem r_MTo_chance_74 : Rr X d MTo_chance 74 L st h = Rr X d MTo_chance 75 L (.int (1) :: st) h := Rr_nx d_MTo_chance_74 rfl
theorem r_MTo_chance_75 {x y : Int32} : Rr X d MTo_chance 75 L (.int y :: .int x :: st) h = Rr X d MTo_chance 76 L (.int (x + y) :: st) h := Rr_nx d_MTo_chance_75 rfl
theorem r_MTo_chance_76 {x : Int32} : Rr X d MTo_chance 76 L (.int x :: st) h = Rr X d MTo_chance 77 L (.long x.toInt64 :: st) h := Rr_nx d_MTo_chance_76 rfl
theorem r_MTo_chance_77 {x y : Int64} : Rr X d MTo_chance 77 L (.long y :: .long x :: st) h = if y = 0 then none else Rr X d MTo_chance 78 L (.long (x / y) :: st) h := R_ldv d_MTo_chance_77
theorem r_MTo_chance_78 {l0 l1 l2 l3 l4 l5 l6 l7 l8 : Value} {x : Int64} : Rr X d MTo_chance 78 [l0, l1, l2, l3, l4, l5, l6, l7, l8] (.long x :: st) h = Rr X d MTo_chance 80 ((sL [l0, l1, l2, l3, l4, l5, l6, l7, l8] 6 (.long x)).set 7 mkU) st h := Rr_nx d_MTo_chance_78 rfl
theorem r_MTo_chance_80 {l0 l1 l2 l3 l4 l5 l6 l7 : Value} {x : Int32} : Rr X d MTo_chance 80 [l0, l1, l2, l3, l4, l5, l6, l7, .int x] st h = Rr X d MTo_chance 83 (sL [l0, l1, l2, l3, l4, l5, l6, l7, .int x] 8 (.int (x + (1)))) st h := Rr_nx d_MTo_chance_80 rfl
theorem r_MTo_chance_83 : Rr X d MTo_chance 83 L st h = Rr X d MTo_chance 38 L st h := R_goto d_MTo_chance_83 (by decide)
theorem r_MTo_chance_86 {l0 l1 l2 l3 l5 l6 l7 l8 : Value} {x : Int64} : Rr X d MTo_chance 86 [l0, l1, l2, l3, .long x, l5, l6, l7, l8] st h = Rr X d MTo_chance 88 [l0, l1, l2, l3, .long x, l5, l6, l7, l8] (.long x :: st) h := Rr_nx d_MTo_chance_86 rfl
theorem r_MTo_chance_88 : Rr X d MTo_chance 88 L st h = Rr X d MTo_chance 91 L (.long (1000) :: st) h := Rr_nx d_MTo_chance_88 rfl
theorem r_MTo_chance_91 {x y : Int64} : Rr X d MTo_chance 91 L (.long y :: .long x :: st) h = Rr X d MTo_chance 92 L (.long (x * y) :: st) h := Rr_nx d_MTo_chance_91 rfl
theorem r_MTo_chance_92 : Rr X d MTo_chance 92 L st h = Rr X d MTo_chance 93 L (.long 1 :: st) h := Rr_nx d_MTo_chance_92 rfl
theorem r_MTo_chance_93 {l0 l2 l3 l4 l5 l6 l7 l8 : Value} {x : Int32} : Rr X d MTo_chance 93 [l0, .int x, l2, l3, l4, l5, l6, l7, l8] st h = Rr X d MTo_chance 94 [l0, .int x, l2, l3, l4, l5, l6, l7, l8] (.int x :: st) h := Rr_nx d_MTo_chance_93 rfl
theorem r_MTo_chance_94 {x : Int64} {y : Int32} : Rr X d MTo_chance 94 L (.int y :: .long x :: st) h = Rr X d MTo_chance 95 L (.long (x <<< (y.toInt64 &&& 63)) :: st) h := Rr_nx d_MTo_chance_94 rfl
theorem r_MTo_chance_95 {x y : Int64} : Rr X d MTo_chance 95 L (.long y :: .long x :: st) h = if y = 0 then none else Rr X d MTo_chance 96 L (.long (x / y) :: st) h := R_ldv d_MTo_chance_95
theorem r_MTo_chance_96 {x : Int64} : Rr X d MTo_chance 96 L (.long x :: st) h = Rr X d MTo_chance 97 L (.int x.toInt32 :: st) h := Rr_nx d_MTo_chance_96 rfl
theorem r_MTo_chance_97 {x : Int32} : Rr X d MTo_chance 97 L [.int x] h = some (some (.int x), h) := R_ir d_MTo_chance_97 rfl
theorem d_MRm_chance_0 : decode MRm_chance.2.2.1 0 = .ok (.iload_n 1, 1) := by decide +kernel
theorem d_MRm_chance_1 : decode MRm_chance.2.2.1 1 = .ok (.iconst 1, 1) := by decide +kernel
theorem d_MRm_chance_2 : decode MRm_chance.2.2.1 2 = .ok (.bipush 40, 2) := by decide +kernel
theorem d_MRm_chance_4 : decode MRm_chance.2.2.1 4 = .ok (.invokestatic 107, 3) := by decide +kernel
theorem d_MRm_chance_7 : decode MRm_chance.2.2.1 7 = .ok (.ifCond .eq 12, 3) := by decide +kernel
theorem d_MRm_chance_10 : decode MRm_chance.2.2.1 10 = .ok (.iload_n 2, 1) := by decide +kernel
theorem d_MRm_chance_11 : decode MRm_chance.2.2.1 11 = .ok (.iconst 0, 1) := by decide +kernel
theorem d_MRm_chance_12 : decode MRm_chance.2.2.1 12 = .ok (.iload_n 1, 1) := by decide +kernel
theorem d_MRm_chance_13 : decode MRm_chance.2.2.1 13 = .ok (.invokestatic 107, 3) := by decide +kernel
theorem d_MRm_chance_16 : decode MRm_chance.2.2.1 16 = .ok (.ifCond .ne 5, 3) := by decide +kernel
theorem d_MRm_chance_19 : decode MRm_chance.2.2.1 19 = .ok (.iconst (-1), 1) := by decide +kernel
theorem d_MRm_chance_20 : decode MRm_chance.2.2.1 20 = .ok (.ireturn, 1) := by decide +kernel
theorem d_MRm_chance_21 : decode MRm_chance.2.2.1 21 = .ok (.iload_n 2, 1) := by decide +kernel
theorem d_MRm_chance_22 : decode MRm_chance.2.2.1 22 = .ok (.iload_n 1, 1) := by decide +kernel
theorem d_MRm_chance_23 : decode MRm_chance.2.2.1 23 = .ok (.iload_n 2, 1) := by decide +kernel
theorem d_MRm_chance_24 : decode MRm_chance.2.2.1 24 = .ok (.isub, 1) := by decide +kernel
theorem d_MRm_chance_25 : decode MRm_chance.2.2.1 25 = .ok (.if_icmp .le 7, 3) := by decide +kernel
theorem d_MRm_chance_28 : decode MRm_chance.2.2.1 28 = .ok (.iload_n 2, 1) := by decide +kernel
theorem d_MRm_chance_29 : decode MRm_chance.2.2.1 29 = .ok (.goto 6, 3) := by decide +kernel
theorem d_MRm_chance_32 : decode MRm_chance.2.2.1 32 = .ok (.iload_n 1, 1) := by decide +kernel
theorem d_MRm_chance_33 : decode MRm_chance.2.2.1 33 = .ok (.iload_n 2, 1) := by decide +kernel
theorem d_MRm_chance_34 : decode MRm_chance.2.2.1 34 = .ok (.isub, 1) := by decide +kernel
theorem d_MRm_chance_35 : decode MRm_chance.2.2.1 35 = .ok (.istore_n 3, 1) := by decide +kernel
theorem d_MRm_chance_36 : decode MRm_chance.2.2.1 36 = .ok (.iconst 0, 1) := by decide +kernel
theorem d_MRm_chance_37 : decode MRm_chance.2.2.1 37 = .ok (.istore 4, 2) := by decide +kernel
theorem d_MRm_chance_39 : decode MRm_chance.2.2.1 39 = .ok (.iload 4, 2) := by decide +kernel
theorem d_MRm_chance_41 : decode MRm_chance.2.2.1 41 = .ok (.bipush 40, 2) := by decide +kernel
theorem d_MRm_chance_43 : decode MRm_chance.2.2.1 43 = .ok (.if_icmp .gt 26, 3) := by decide +kernel
theorem d_MRm_chance_46 : decode MRm_chance.2.2.1 46 = .ok (.aload_n 0, 1) := by decide +kernel
theorem d_MRm_chance_47 : decode MRm_chance.2.2.1 47 = .ok (.getfield 82, 3) := by decide +kernel
theorem d_MRm_chance_50 : decode MRm_chance.2.2.1 50 = .ok (.iload 4, 2) := by decide +kernel
theorem d_MRm_chance_52 : decode MRm_chance.2.2.1 52 = .ok (.iload 4, 2) := by decide +kernel
theorem d_MRm_chance_54 : decode MRm_chance.2.2.1 54 = .ok (.ifCond .ne 7, 3) := by decide +kernel
theorem d_MRm_chance_57 : decode MRm_chance.2.2.1 57 = .ok (.lconst 1, 1) := by decide +kernel
theorem d_MRm_chance_58 : decode MRm_chance.2.2.1 58 = .ok (.goto 4, 3) := by decide +kernel
theorem d_MRm_chance_61 : decode MRm_chance.2.2.1 61 = .ok (.lconst 0, 1) := by decide +kernel
theorem d_MRm_chance_62 : decode MRm_chance.2.2.1 62 = .ok (.lastore, 1) := by decide +kernel
theorem d_MRm_chance_63 : decode MRm_chance.2.2.1 63 = .ok (.iinc 4 1, 3) := by decide +kernel
theorem d_MRm_chance_66 : decode MRm_chance.2.2.1 66 = .ok (.goto (-27), 3) := by decide +kernel
theorem d_MRm_chance_69 : decode MRm_chance.2.2.1 69 = .ok (.iconst 0, 1) := by decide +kernel
theorem d_MRm_chance_70 : decode MRm_chance.2.2.1 70 = .ok (.istore 4, 2) := by decide +kernel
theorem d_MRm_chance_72 : decode MRm_chance.2.2.1 72 = .ok (.iload 4, 2) := by decide +kernel
theorem d_MRm_chance_74 : decode MRm_chance.2.2.1 74 = .ok (.iload_n 1, 1) := by decide +kernel
theorem d_MRm_chance_75 : decode MRm_chance.2.2.1 75 = .ok (.if_icmp .ge 42, 3) := by decide +kernel
theorem d_MRm_chance_78 : decode MRm_chance.2.2.1 78 = .ok (.iload_n 1, 1) := by decide +kernel
theorem d_MRm_chance_79 : decode MRm_chance.2.2.1 79 = .ok (.istore 5, 2) := by decide +kernel
theorem d_MRm_chance_81 : decode MRm_chance.2.2.1 81 = .ok (.iload 5, 2) := by decide +kernel
theorem d_MRm_chance_83 : decode MRm_chance.2.2.1 83 = .ok (.ifCond .le 28, 3) := by decide +kernel
theorem d_MRm_chance_86 : decode MRm_chance.2.2.1 86 = .ok (.aload_n 0, 1) := by decide +kernel
theorem d_MRm_chance_87 : decode MRm_chance.2.2.1 87 = .ok (.getfield 82, 3) := by decide +kernel
theorem d_MRm_chance_90 : decode MRm_chance.2.2.1 90 = .ok (.iload 5, 2) := by decide +kernel
theorem d_MRm_chance_92 : decode MRm_chance.2.2.1 92 = .ok (.dup2, 1) := by decide +kernel
theorem d_MRm_chance_93 : decode MRm_chance.2.2.1 93 = .ok (.laload, 1) := by decide +kernel
theorem d_MRm_chance_94 : decode MRm_chance.2.2.1 94 = .ok (.aload_n 0, 1) := by decide +kernel
theorem d_MRm_chance_95 : decode MRm_chance.2.2.1 95 = .ok (.getfield 82, 3) := by decide +kernel
theorem d_MRm_chance_98 : decode MRm_chance.2.2.1 98 = .ok (.iload 5, 2) := by decide +kernel
theorem d_MRm_chance_100 : decode MRm_chance.2.2.1 100 = .ok (.iconst 1, 1) := by decide +kernel
theorem d_MRm_chance_101 : decode MRm_chance.2.2.1 101 = .ok (.isub, 1) := by decide +kernel
theorem d_MRm_chance_102 : decode MRm_chance.2.2.1 102 = .ok (.laload, 1) := by decide +kernel
theorem d_MRm_chance_103 : decode MRm_chance.2.2.1 103 = .ok (.ladd, 1) := by decide +kernel
theorem d_MRm_chance_104 : decode MRm_chance.2.2.1 104 = .ok (.lastore, 1) := by decide +kernel
theorem d_MRm_chance_105 : decode MRm_chance.2.2.1 105 = .ok (.iinc 5 (-1), 3) := by decide +kernel
theorem d_MRm_chance_108 : decode MRm_chance.2.2.1 108 = .ok (.goto (-27), 3) := by decide +kernel
theorem d_MRm_chance_111 : decode MRm_chance.2.2.1 111 = .ok (.iinc 4 1, 3) := by decide +kernel
theorem d_MRm_chance_114 : decode MRm_chance.2.2.1 114 = .ok (.goto (-42), 3) := by decide +kernel
theorem d_MRm_chance_117 : decode MRm_chance.2.2.1 117 = .ok (.lconst 0, 1) := by decide +kernel
theorem d_MRm_chance_118 : decode MRm_chance.2.2.1 118 = .ok (.lstore 4, 2) := by decide +kernel
theorem d_MRm_chance_120 : decode MRm_chance.2.2.1 120 = .ok (.lconst 0, 1) := by decide +kernel
theorem d_MRm_chance_121 : decode MRm_chance.2.2.1 121 = .ok (.lstore 6, 2) := by decide +kernel
theorem d_MRm_chance_123 : decode MRm_chance.2.2.1 123 = .ok (.iconst 0, 1) := by decide +kernel
theorem d_MRm_chance_124 : decode MRm_chance.2.2.1 124 = .ok (.istore 8, 2) := by decide +kernel
theorem d_MRm_chance_126 : decode MRm_chance.2.2.1 126 = .ok (.iload 8, 2) := by decide +kernel
theorem d_MRm_chance_128 : decode MRm_chance.2.2.1 128 = .ok (.iload_n 1, 1) := by decide +kernel
theorem d_MRm_chance_129 : decode MRm_chance.2.2.1 129 = .ok (.if_icmp .gt 47, 3) := by decide +kernel
theorem d_MRm_chance_132 : decode MRm_chance.2.2.1 132 = .ok (.lload 4, 2) := by decide +kernel
theorem d_MRm_chance_134 : decode MRm_chance.2.2.1 134 = .ok (.aload_n 0, 1) := by decide +kernel
theorem d_MRm_chance_135 : decode MRm_chance.2.2.1 135 = .ok (.getfield 82, 3) := by decide +kernel
theorem d_MRm_chance_138 : decode MRm_chance.2.2.1 138 = .ok (.iload 8, 2) := by decide +kernel
theorem d_MRm_chance_140 : decode MRm_chance.2.2.1 140 = .ok (.laload, 1) := by decide +kernel
theorem d_MRm_chance_141 : decode MRm_chance.2.2.1 141 = .ok (.ladd, 1) := by decide +kernel
theorem d_MRm_chance_142 : decode MRm_chance.2.2.1 142 = .ok (.lstore 4, 2) := by decide +kernel
theorem d_MRm_chance_144 : decode MRm_chance.2.2.1 144 = .ok (.iload 8, 2) := by decide +kernel
theorem d_MRm_chance_146 : decode MRm_chance.2.2.1 146 = .ok (.iload_n 3, 1) := by decide +kernel
theorem d_MRm_chance_147 : decode MRm_chance.2.2.1 147 = .ok (.if_icmp .ge 11, 3) := by decide +kernel
theorem d_MRm_chance_150 : decode MRm_chance.2.2.1 150 = .ok (.iload_n 1, 1) := by decide +kernel
theorem d_MRm_chance_151 : decode MRm_chance.2.2.1 151 = .ok (.iload 8, 2) := by decide +kernel
theorem d_MRm_chance_153 : decode MRm_chance.2.2.1 153 = .ok (.isub, 1) := by decide +kernel
theorem d_MRm_chance_154 : decode MRm_chance.2.2.1 154 = .ok (.iload_n 3, 1) := by decide +kernel
theorem d_MRm_chance_155 : decode MRm_chance.2.2.1 155 = .ok (.if_icmp .lt 15, 3) := by decide +kernel
theorem d_MRm_chance_158 : decode MRm_chance.2.2.1 158 = .ok (.lload 6, 2) := by decide +kernel
theorem d_MRm_chance_160 : decode MRm_chance.2.2.1 160 = .ok (.aload_n 0, 1) := by decide +kernel
theorem d_MRm_chance_161 : decode MRm_chance.2.2.1 161 = .ok (.getfield 82, 3) := by decide +kernel
theorem d_MRm_chance_164 : decode MRm_chance.2.2.1 164 = .ok (.iload 8, 2) := by decide +kernel
theorem d_MRm_chance_166 : decode MRm_chance.2.2.1 166 = .ok (.laload, 1) := by decide +kernel
theorem d_MRm_chance_167 : decode MRm_chance.2.2.1 167 = .ok (.ladd, 1) := by decide +kernel
theorem d_MRm_chance_168 : decode MRm_chance.2.2.1 168 = .ok (.lstore 6, 2) := by decide +kernel
theorem d_MRm_chance_170 : decode MRm_chance.2.2.1 170 = .ok (.iinc 8 1, 3) := by decide +kernel
theorem d_MRm_chance_173 : decode MRm_chance.2.2.1 173 = .ok (.goto (-47), 3) := by decide +kernel
theorem d_MRm_chance_176 : decode MRm_chance.2.2.1 176 = .ok (.lload 6, 2) := by decide +kernel
theorem d_MRm_chance_178 : decode MRm_chance.2.2.1 178 = .ok (.ldc2_w 354, 3) := by decide +kernel
theorem d_MRm_chance_181 : decode MRm_chance.2.2.1 181 = .ok (.lmul, 1) := by decide +kernel
theorem d_MRm_chance_182 : decode MRm_chance.2.2.1 182 = .ok (.lload 4, 2) := by decide +kernel
theorem d_MRm_chance_184 : decode MRm_chance.2.2.1 184 = .ok (.ldiv, 1) := by decide +kernel
theorem d_MRm_chance_185 : decode MRm_chance.2.2.1 185 = .ok (.l2i, 1) := by decide +kernel
theorem d_MRm_chance_186 : decode MRm_chance.2.2.1 186 = .ok (.ireturn, 1) := by decide +kernel
theorem r_MRm_chance_0 {l0 l2 l3 l4 l5 l6 l7 l8 : Value} {x : Int32} : Rr X d MRm_chance 0 [l0, .int x, l2, l3, l4, l5, l6, l7, l8] st h = Rr X d MRm_chance 1 [l0, .int x, l2, l3, l4, l5, l6, l7, l8] (.int x :: st) h := Rr_nx d_MRm_chance_0 rfl
theorem r_MRm_chance_1 : Rr X d MRm_chance 1 L st h = Rr X d MRm_chance 2 L (.int (1) :: st) h := Rr_nx d_MRm_chance_1 rfl
theorem r_MRm_chance_2 : Rr X d MRm_chance 2 L st h = Rr X d MRm_chance 4 L (.int (40) :: st) h := Rr_nx d_MRm_chance_2 rfl
theorem r_MRm_chance_4 {y0 : Int32} {y1 : Int32} {y2 : Int32} (hc : ckS st = true) : Rr X (d + 1) MRm_chance 4 L (.int y2 :: .int y1 :: .int y0 :: st) h = (Rr X d MRm_in 0 [.int y0, .int y1, .int y2] [] h).bind fun q => Rr X (d + 1) MRm_chance 7 L (psh q.1 st) q.2 := R_is (av := [.int y2, .int y1, .int y0]) d_MRm_chance_4 (Or.inl fc_10_107) (ckS_le hc) rfl (Nat.le_of_ble_eq_true rfl) (Nat.le_of_ble_eq_true rfl)
theorem r_MRm_chance_7 {x : Int32} : Rr X d MRm_chance 7 L (.int x :: st) h = if x = 0 then Rr X d MRm_chance 19 L st h else Rr X d MRm_chance 10 L st h := R_if_eq d_MRm_chance_7 (by decide)
theorem r_MRm_chance_10 {l0 l1 l3 l4 l5 l6 l7 l8 : Value} {x : Int32} : Rr X d MRm_chance 10 [l0, l1, .int x, l3, l4, l5, l6, l7, l8] st h = Rr X d MRm_chance 11 [l0, l1, .int x, l3, l4, l5, l6, l7, l8] (.int x :: st) h := Rr_nx d_MRm_chance_10 rfl
theorem r_MRm_chance_11 : Rr X d MRm_chance 11 L st h = Rr X d MRm_chance 12 L (.int (0) :: st) h := Rr_nx d_MRm_chance_11 rfl
theorem r_MRm_chance_12 {l0 l2 l3 l4 l5 l6 l7 l8 : Value} {x : Int32} : Rr X d MRm_chance 12 [l0, .int x, l2, l3, l4, l5, l6, l7, l8] st h = Rr X d MRm_chance 13 [l0, .int x, l2, l3, l4, l5, l6, l7, l8] (.int x :: st) h := Rr_nx d_MRm_chance_12 rfl
theorem r_MRm_chance_13 {y0 : Int32} {y1 : Int32} {y2 : Int32} (hc : ckS st = true) : Rr X (d + 1) MRm_chance 13 L (.int y2 :: .int y1 :: .int y0 :: st) h = (Rr X d MRm_in 0 [.int y0, .int y1, .int y2] [] h).bind fun q => Rr X (d + 1) MRm_chance 16 L (psh q.1 st) q.2 := R_is (av := [.int y2, .int y1, .int y0]) d_MRm_chance_13 (Or.inl fc_10_107) (ckS_le hc) rfl (Nat.le_of_ble_eq_true rfl) (Nat.le_of_ble_eq_true rfl)
theorem r_MRm_chance_16 {x : Int32} : Rr X d MRm_chance 16 L (.int x :: st) h = if ¬ x = 0 then Rr X d MRm_chance 21 L st h else Rr X d MRm_chance 19 L st h := R_if_ne d_MRm_chance_16 (by decide)
theorem r_MRm_chance_19 : Rr X d MRm_chance 19 L st h = Rr X d MRm_chance 20 L (.int (-1) :: st) h := Rr_nx d_MRm_chance_19 rfl
theorem r_MRm_chance_20 {x : Int32} : Rr X d MRm_chance 20 L [.int x] h = some (some (.int x), h) := R_ir d_MRm_chance_20 rfl
theorem r_MRm_chance_21 {l0 l1 l3 l4 l5 l6 l7 l8 : Value} {x : Int32} : Rr X d MRm_chance 21 [l0, l1, .int x, l3, l4, l5, l6, l7, l8] st h = Rr X d MRm_chance 22 [l0, l1, .int x, l3, l4, l5, l6, l7, l8] (.int x :: st) h := Rr_nx d_MRm_chance_21 rfl
theorem r_MRm_chance_22 {l0 l2 l3 l4 l5 l6 l7 l8 : Value} {x : Int32} : Rr X d MRm_chance 22 [l0, .int x, l2, l3, l4, l5, l6, l7, l8] st h = Rr X d MRm_chance 23 [l0, .int x, l2, l3, l4, l5, l6, l7, l8] (.int x :: st) h := Rr_nx d_MRm_chance_22 rfl
theorem r_MRm_chance_23 {l0 l1 l3 l4 l5 l6 l7 l8 : Value} {x : Int32} : Rr X d MRm_chance 23 [l0, l1, .int x, l3, l4, l5, l6, l7, l8] st h = Rr X d MRm_chance 24 [l0, l1, .int x, l3, l4, l5, l6, l7, l8] (.int x :: st) h := Rr_nx d_MRm_chance_23 rfl
theorem r_MRm_chance_24 {x y : Int32} : Rr X d MRm_chance 24 L (.int y :: .int x :: st) h = Rr X d MRm_chance 25 L (.int (x - y) :: st) h := Rr_nx d_MRm_chance_24 rfl
theorem r_MRm_chance_25 {x y : Int32} : Rr X d MRm_chance 25 L (.int y :: .int x :: st) h = if x ≤ y then Rr X d MRm_chance 32 L st h else Rr X d MRm_chance 28 L st h := R_ic_le d_MRm_chance_25 (by decide)
theorem r_MRm_chance_28 {l0 l1 l3 l4 l5 l6 l7 l8 : Value} {x : Int32} : Rr X d MRm_chance 28 [l0, l1, .int x, l3, l4, l5, l6, l7, l8] st h = Rr X d MRm_chance 29 [l0, l1, .int x, l3, l4, l5, l6, l7, l8] (.int x :: st) h := Rr_nx d_MRm_chance_28 rfl
theorem r_MRm_chance_29 : Rr X d MRm_chance 29 L st h = Rr X d MRm_chance 35 L st h := R_goto d_MRm_chance_29 (by decide)
theorem r_MRm_chance_32 {l0 l2 l3 l4 l5 l6 l7 l8 : Value} {x : Int32} : Rr X d MRm_chance 32 [l0, .int x, l2, l3, l4, l5, l6, l7, l8] st h = Rr X d MRm_chance 33 [l0, .int x, l2, l3, l4, l5, l6, l7, l8] (.int x :: st) h := Rr_nx d_MRm_chance_32 rfl
theorem r_MRm_chance_33 {l0 l1 l3 l4 l5 l6 l7 l8 : Value} {x : Int32} : Rr X d MRm_chance 33 [l0, l1, .int x, l3, l4, l5, l6, l7, l8] st h = Rr X d MRm_chance 34 [l0, l1, .int x, l3, l4, l5, l6, l7, l8] (.int x :: st) h := Rr_nx d_MRm_chance_33 rfl
theorem r_MRm_chance_34 {x y : Int32} : Rr X d MRm_chance 34 L (.int y :: .int x :: st) h = Rr X d MRm_chance 35 L (.int (x - y) :: st) h := Rr_nx d_MRm_chance_34 rfl
theorem r_MRm_chance_35 {l0 l1 l2 l3 l4 l5 l6 l7 l8 : Value} {x : Int32} : Rr X d MRm_chance 35 [l0, l1, l2, l3, l4, l5, l6, l7, l8] (.int x :: st) h = Rr X d MRm_chance 36 (sL [l0, l1, l2, l3, l4, l5, l6, l7, l8] 3 (.int x)) st h := Rr_nx d_MRm_chance_35 rfl
theorem r_MRm_chance_36 : Rr X d MRm_chance 36 L st h = Rr X d MRm_chance 37 L (.int (0) :: st) h := Rr_nx d_MRm_chance_36 rfl
theorem r_MRm_chance_37 {l0 l1 l2 l3 l4 l5 l6 l7 l8 : Value} {x : Int32} : Rr X d MRm_chance 37 [l0, l1, l2, l3, l4, l5, l6, l7, l8] (.int x :: st) h = Rr X d MRm_chance 39 (sL [l0, l1, l2, l3, l4, l5, l6, l7, l8] 4 (.int x)) st h := Rr_nx d_MRm_chance_37 rfl
theorem r_MRm_chance_39 {l0 l1 l2 l3 l5 l6 l7 l8 : Value} {x : Int32} : Rr X d MRm_chance 39 [l0, l1, l2, l3, .int x, l5, l6, l7, l8] st h = Rr X d MRm_chance 41 [l0, l1, l2, l3, .int x, l5, l6, l7, l8] (.int x :: st) h := Rr_nx d_MRm_chance_39 rfl
theorem r_MRm_chance_41 : Rr X d MRm_chance 41 L st h = Rr X d MRm_chance 43 L (.int (40) :: st) h := Rr_nx d_MRm_chance_41 rfl
theorem r_MRm_chance_43 {x y : Int32} : Rr X d MRm_chance 43 L (.int y :: .int x :: st) h = if y < x then Rr X d MRm_chance 69 L st h else Rr X d MRm_chance 46 L st h := R_ic_gt d_MRm_chance_43 (by decide)
theorem r_MRm_chance_46 {l1 l2 l3 l4 l5 l6 l7 l8 : Value} {x : Nat} : Rr X d MRm_chance 46 [.ref x, l1, l2, l3, l4, l5, l6, l7, l8] st h = Rr X d MRm_chance 47 [.ref x, l1, l2, l3, l4, l5, l6, l7, l8] (.ref x :: st) h := Rr_nx d_MRm_chance_46 rfl
theorem ff_10_82 : fF 10 82 = some (10, 50, 1, 1) := rfl
theorem r_MRm_chance_47 {a : Nat} (hq : (qR a 10 50).isSome = true) : Rr X d MRm_chance 47 L (.ref a :: st) (Wd mu la ro et) = Rr X d MRm_chance 50 L (.ref (qRd a 10 50) :: st) (Wd mu la ro et) := R_gfR d_MRm_chance_47 ff_10_82 hq
theorem r_MRm_chance_50 {l0 l1 l2 l3 l5 l6 l7 l8 : Value} {x : Int32} : Rr X d MRm_chance 50 [l0, l1, l2, l3, .int x, l5, l6, l7, l8] st h = Rr X d MRm_chance 52 [l0, l1, l2, l3, .int x, l5, l6, l7, l8] (.int x :: st) h := Rr_nx d_MRm_chance_50 rfl
theorem r_MRm_chance_52 {l0 l1 l2 l3 l5 l6 l7 l8 : Value} {x : Int32} : Rr X d MRm_chance 52 [l0, l1, l2, l3, .int x, l5, l6, l7, l8] st h = Rr X d MRm_chance 54 [l0, l1, l2, l3, .int x, l5, l6, l7, l8] (.int x :: st) h := Rr_nx d_MRm_chance_52 rfl
theorem r_MRm_chance_54 {x : Int32} : Rr X d MRm_chance 54 L (.int x :: st) h = if ¬ x = 0 then Rr X d MRm_chance 61 L st h else Rr X d MRm_chance 57 L st h := R_if_ne d_MRm_chance_54 (by decide)
theorem r_MRm_chance_57 : Rr X d MRm_chance 57 L st h = Rr X d MRm_chance 58 L (.long 1 :: st) h := Rr_nx d_MRm_chance_57 rfl
theorem r_MRm_chance_58 : Rr X d MRm_chance 58 L st h = Rr X d MRm_chance 62 L st h := R_goto d_MRm_chance_58 (by decide)
theorem r_MRm_chance_61 : Rr X d MRm_chance 61 L st h = Rr X d MRm_chance 62 L (.long 0 :: st) h := Rr_nx d_MRm_chance_61 rfl
theorem r_MRm_chance_62 {a : Nat} {j : Int32} {x : Int64} (hq : (qJ a).isSome = true) : Rr X d MRm_chance 62 L (.long x :: .int j :: .ref a :: st) (Wd mu la ro et) = if j < 0 ∨ qJd a ≤ j.toNatClampNeg then none else Rr X d MRm_chance 63 L st (Wd mu (upJ la a j.toNatClampNeg x) ro et) := R_lasW d_MRm_chance_62 hq
theorem r_MRm_chance_63 {l0 l1 l2 l3 l5 l6 l7 l8 : Value} {x : Int32} : Rr X d MRm_chance 63 [l0, l1, l2, l3, .int x, l5, l6, l7, l8] st h = Rr X d MRm_chance 66 (sL [l0, l1, l2, l3, .int x, l5, l6, l7, l8] 4 (.int (x + (1)))) st h := Rr_nx d_MRm_chance_63 rfl
theorem r_MRm_chance_66 : Rr X d MRm_chance 66 L st h = Rr X d MRm_chance 39 L st h := R_goto d_MRm_chance_66 (by decide)
theorem r_MRm_chance_69 : Rr X d MRm_chance 69 L st h = Rr X d MRm_chance 70 L (.int (0) :: st) h := Rr_nx d_MRm_chance_69 rfl
theorem r_MRm_chance_70 {l0 l1 l2 l3 l4 l5 l6 l7 l8 : Value} {x : Int32} : Rr X d MRm_chance 70 [l0, l1, l2, l3, l4, l5, l6, l7, l8] (.int x :: st) h = Rr X d MRm_chance 72 (sL [l0, l1, l2, l3, l4, l5, l6, l7, l8] 4 (.int x)) st h := Rr_nx d_MRm_chance_70 rfl
theorem r_MRm_chance_72 {l0 l1 l2 l3 l5 l6 l7 l8 : Value} {x : Int32} : Rr X d MRm_chance 72 [l0, l1, l2, l3, .int x, l5, l6, l7, l8] st h = Rr X d MRm_chance 74 [l0, l1, l2, l3, .int x, l5, l6, l7, l8] (.int x :: st) h := Rr_nx d_MRm_chance_72 rfl
theorem r_MRm_chance_74 {l0 l2 l3 l4 l5 l6 l7 l8 : Value} {x : Int32} : Rr X d MRm_chance 74 [l0, .int x, l2, l3, l4, l5, l6, l7, l8] st h = Rr X d MRm_chance 75 [l0, .int x, l2, l3, l4, l5, l6, l7, l8] (.int x :: st) h := Rr_nx d_MRm_chance_74 rfl
theorem r_MRm_chance_75 {x y : Int32} : Rr X d MRm_chance 75 L (.int y :: .int x :: st) h = if y ≤ x then Rr X d MRm_chance 117 L st h else Rr X d MRm_chance 78 L st h := R_ic_ge d_MRm_chance_75 (by decide)
theorem r_MRm_chance_78 {l0 l2 l3 l4 l5 l6 l7 l8 : Value} {x : Int32} : Rr X d MRm_chance 78 [l0, .int x, l2, l3, l4, l5, l6, l7, l8] st h = Rr X d MRm_chance 79 [l0, .int x, l2, l3, l4, l5, l6, l7, l8] (.int x :: st) h := Rr_nx d_MRm_chance_78 rfl
theorem r_MRm_chance_79 {l0 l1 l2 l3 l4 l5 l6 l7 l8 : Value} {x : Int32} : Rr X d MRm_chance 79 [l0, l1, l2, l3, l4, l5, l6, l7, l8] (.int x :: st) h = Rr X d MRm_chance 81 (sL [l0, l1, l2, l3, l4, l5, l6, l7, l8] 5 (.int x)) st h := Rr_nx d_MRm_chance_79 rfl
theorem r_MRm_chance_81 {l0 l1 l2 l3 l4 l6 l7 l8 : Value} {x : Int32} : Rr X d MRm_chance 81 [l0, l1, l2, l3, l4, .int x, l6, l7, l8] st h = Rr X d MRm_chance 83 [l0, l1, l2, l3, l4, .int x, l6, l7, l8] (.int x :: st) h := Rr_nx d_MRm_chance_81 rfl
theorem r_MRm_chance_83 {x : Int32} : Rr X d MRm_chance 83 L (.int x :: st) h = if x ≤ 0 then Rr X d MRm_chance 111 L st h else Rr X d MRm_chance 86 L st h := R_if_le d_MRm_chance_83 (by decide)
theorem r_MRm_chance_86 {l1 l2 l3 l4 l5 l6 l7 l8 : Value} {x : Nat} : Rr X d MRm_chance 86 [.ref x, l1, l2, l3, l4, l5, l6, l7, l8] st h = Rr X d MRm_chance 87 [.ref x, l1, l2, l3, l4, l5, l6, l7, l8] (.ref x :: st) h := Rr_nx d_MRm_chance_86 rfl
theorem r_MRm_chance_87 {a : Nat} (hq : (qR a 10 50).isSome = true) : Rr X d MRm_chance 87 L (.ref a :: st) (Wd mu la ro et) = Rr X d MRm_chance 90 L (.ref (qRd a 10 50) :: st) (Wd mu la ro et) := R_gfR d_MRm_chance_87 ff_10_82 hq
theorem r_MRm_chance_90 {l0 l1 l2 l3 l4 l6 l7 l8 : Value} {x : Int32} : Rr X d MRm_chance 90 [l0, l1, l2, l3, l4, .int x, l6, l7, l8] st h = Rr X d MRm_chance 92 [l0, l1, l2, l3, l4, .int x, l6, l7, l8] (.int x :: st) h := Rr_nx d_MRm_chance_90 rfl
theorem r_MRm_chance_92 {x : Int32} {y : Nat} : Rr X d MRm_chance 92 L (.int x :: .ref y :: st) h = Rr X d MRm_chance 93 L (.int x :: .ref y :: .int x :: .ref y :: st) h := Rr_nx d_MRm_chance_92 rfl
theorem r_MRm_chance_93 {a : Nat} {j : Int32} (hq : (qJ a).isSome = true) : Rr X d MRm_chance 93 L (.int j :: .ref a :: st) (Wd mu la ro et) = if j < 0 ∨ qJd a ≤ j.toNatClampNeg then none else Rr X d MRm_chance 94 L (.long (la a j.toNatClampNeg) :: st) (Wd mu la ro et) := R_lalW d_MRm_chance_93 hq
theorem r_MRm_chance_94 {l1 l2 l3 l4 l5 l6 l7 l8 : Value} {x : Nat} : Rr X d MRm_chance 94 [.ref x, l1, l2, l3, l4, l5, l6, l7, l8] st h = Rr X d MRm_chance 95 [.ref x, l1, l2, l3, l4, l5, l6, l7, l8] (.ref x :: st) h := Rr_nx d_MRm_chance_94 rfl
theorem r_MRm_chance_95 {a : Nat} (hq : (qR a 10 50).isSome = true) : Rr X d MRm_chance 95 L (.ref a :: st) (Wd mu la ro et) = Rr X d MRm_chance 98 L (.ref (qRd a 10 50) :: st) (Wd mu la ro et) := R_gfR d_MRm_chance_95 ff_10_82 hq
theorem r_MRm_chance_98 {l0 l1 l2 l3 l4 l6 l7 l8 : Value} {x : Int32} : Rr X d MRm_chance 98 [l0, l1, l2, l3, l4, .int x, l6, l7, l8] st h = Rr X d MRm_chance 100 [l0, l1, l2, l3, l4, .int x, l6, l7, l8] (.int x :: st) h := Rr_nx d_MRm_chance_98 rfl
theorem r_MRm_chance_100 : Rr X d MRm_chance 100 L st h = Rr X d MRm_chance 101 L (.int (1) :: st) h := Rr_nx d_MRm_chance_100 rfl
theorem r_MRm_chance_101 {x y : Int32} : Rr X d MRm_chance 101 L (.int y :: .int x :: st) h = Rr X d MRm_chance 102 L (.int (x - y) :: st) h := Rr_nx d_MRm_chance_101 rfl
theorem r_MRm_chance_102 {a : Nat} {j : Int32} (hq : (qJ a).isSome = true) : Rr X d MRm_chance 102 L (.int j :: .ref a :: st) (Wd mu la ro et) = if j < 0 ∨ qJd a ≤ j.toNatClampNeg then none else Rr X d MRm_chance 103 L (.long (la a j.toNatClampNeg) :: st) (Wd mu la ro et) := R_lalW d_MRm_chance_102 hq
theorem r_MRm_chance_103 {x y : Int64} : Rr X d MRm_chance 103 L (.long y :: .long x :: st) h = Rr X d MRm_chance 104 L (.long (x + y) :: st) h := Rr_nx d_MRm_chance_103 rfl
theorem r_MRm_chance_104 {a : Nat} {j : Int32} {x : Int64} (hq : (qJ a).isSome = true) : Rr X d MRm_chance 104 L (.long x :: .int j :: .ref a :: st) (Wd mu la ro et) = if j < 0 ∨ qJd a ≤ j.toNatClampNeg then none else Rr X d MRm_chance 105 L st (Wd mu (upJ la a j.toNatClampNeg x) ro et) := R_lasW d_MRm_chance_104 hq
theorem r_MRm_chance_105 {l0 l1 l2 l3 l4 l6 l7 l8 : Value} {x : Int32} : Rr X d MRm_chance 105 [l0, l1, l2, l3, l4, .int x, l6, l7, l8] st h = Rr X d MRm_chance 108 (sL [l0, l1, l2, l3, l4, .int x, l6, l7, l8] 5 (.int (x + (-1)))) st h := Rr_nx d_MRm_chance_105 rfl
theorem r_MRm_chance_108 : Rr X d MRm_chance 108 L st h = Rr X d MRm_chance 81 L st h := R_goto d_MRm_chance_108 (by decide)
theorem r_MRm_chance_111 {l0 l1 l2 l3 l5 l6 l7 l8 : Value} {x : Int32} : Rr X d MRm_chance 111 [l0, l1, l2, l3, .int x, l5, l6, l7, l8] st h = Rr X d MRm_chance 114 (sL [l0, l1, l2, l3, .int x, l5, l6, l7, l8] 4 (.int (x + (1)))) st h := Rr_nx d_MRm_chance_111 rfl
theorem r_MRm_chance_114 : Rr X d MRm_chance 114 L st h = Rr X d MRm_chance 72 L st h := R_goto d_MRm_chance_114 (by decide)
theorem r_MRm_chance_117 : Rr X d MRm_chance 117 L st h = Rr X d MRm_chance 118 L (.long 0 :: st) h := Rr_nx d_MRm_chance_117 rfl
theorem r_MRm_chance_118 {l0 l1 l2 l3 l4 l5 l6 l7 l8 : Value} {x : Int64} : Rr X d MRm_chance 118 [l0, l1, l2, l3, l4, l5, l6, l7, l8] (.long x :: st) h = Rr X d MRm_chance 120 ((sL [l0, l1, l2, l3, l4, l5, l6, l7, l8] 4 (.long x)).set 5 mkU) st h := Rr_nx d_MRm_chance_118 rfl
theorem r_MRm_chance_120 : Rr X d MRm_chance 120 L st h = Rr X d MRm_chance 121 L (.long 0 :: st) h := Rr_nx d_MRm_chance_120 rfl
theorem r_MRm_chance_121 {l0 l1 l2 l3 l4 l5 l6 l7 l8 : Value} {x : Int64} : Rr X d MRm_chance 121 [l0, l1, l2, l3, l4, l5, l6, l7, l8] (.long x :: st) h = Rr X d MRm_chance 123 ((sL [l0, l1, l2, l3, l4, l5, l6, l7, l8] 6 (.long x)).set 7 mkU) st h := Rr_nx d_MRm_chance_121 rfl
theorem r_MRm_chance_123 : Rr X d MRm_chance 123 L st h = Rr X d MRm_chance 124 L (.int (0) :: st) h := Rr_nx d_MRm_chance_123 rfl
theorem r_MRm_chance_124 {l0 l1 l2 l3 l4 l5 l6 l7 l8 : Value} {x : Int32} : Rr X d MRm_chance 124 [l0, l1, l2, l3, l4, l5, l6, l7, l8] (.int x :: st) h = Rr X d MRm_chance 126 (sL [l0, l1, l2, l3, l4, l5, l6, l7, l8] 8 (.int x)) st h := Rr_nx d_MRm_chance_124 rfl
theorem r_MRm_chance_126 {l0 l1 l2 l3 l4 l5 l6 l7 : Value} {x : Int32} : Rr X d MRm_chance 126 [l0, l1, l2, l3, l4, l5, l6, l7, .int x] st h = Rr X d MRm_chance 128 [l0, l1, l2, l3, l4, l5, l6, l7, .int x] (.int x :: st) h := Rr_nx d_MRm_chance_126 rfl
theorem r_MRm_chance_128 {l0 l2 l3 l4 l5 l6 l7 l8 : Value} {x : Int32} : Rr X d MRm_chance 128 [l0, .int x, l2, l3, l4, l5, l6, l7, l8] st h = Rr X d MRm_chance 129 [l0, .int x, l2, l3, l4, l5, l6, l7, l8] (.int x :: st) h := Rr_nx d_MRm_chance_128 rfl
theorem r_MRm_chance_129 {x y : Int32} : Rr X d MRm_chance 129 L (.int y :: .int x :: st) h = if y < x then Rr X d MRm_chance 176 L st h else Rr X d MRm_chance 132 L st h := R_ic_gt d_MRm_chance_129 (by decide)
theorem r_MRm_chance_132 {l0 l1 l2 l3 l5 l6 l7 l8 : Value} {x : Int64} : Rr X d MRm_chance 132 [l0, l1, l2, l3, .long x, l5, l6, l7, l8] st h = Rr X d MRm_chance 134 [l0, l1, l2, l3, .long x, l5, l6, l7, l8] (.long x :: st) h := Rr_nx d_MRm_chance_132 rfl
theorem r_MRm_chance_134 {l1 l2 l3 l4 l5 l6 l7 l8 : Value} {x : Nat} : Rr X d MRm_chance 134 [.ref x, l1, l2, l3, l4, l5, l6, l7, l8] st h = Rr X d MRm_chance 135 [.ref x, l1, l2, l3, l4, l5, l6, l7, l8] (.ref x :: st) h := Rr_nx d_MRm_chance_134 rfl
theorem r_MRm_chance_135 {a : Nat} (hq : (qR a 10 50).isSome = true) : Rr X d MRm_chance 135 L (.ref a :: st) (Wd mu la ro et) = Rr X d MRm_chance 138 L (.ref (qRd a 10 50) :: st) (Wd mu la ro et) := R_gfR d_MRm_chance_135 ff_10_82 hq
theorem r_MRm_chance_138 {l0 l1 l2 l3 l4 l5 l6 l7 : Value} {x : Int32} : Rr X d MRm_chance 138 [l0, l1, l2, l3, l4, l5, l6, l7, .int x] st h = Rr X d MRm_chance 140 [l0, l1, l2, l3, l4, l5, l6, l7, .int x] (.int x :: st) h := Rr_nx d_MRm_chance_138 rfl
theorem r_MRm_chance_140 {a : Nat} {j : Int32} (hq : (qJ a).isSome = true) : Rr X d MRm_chance 140 L (.int j :: .ref a :: st) (Wd mu la ro et) = if j < 0 ∨ qJd a ≤ j.toNatClampNeg then none else Rr X d MRm_chance 141 L (.long (la a j.toNatClampNeg) :: st) (Wd mu la ro et) := R_lalW d_MRm_chance_140 hq
theorem r_MRm_chance_141 {x y : Int64} : Rr X d MRm_chance 141 L (.long y :: .long x :: st) h = Rr X d MRm_chance 142 L (.long (x + y) :: st) h := Rr_nx d_MRm_chance_141 rfl
theorem r_MRm_chance_142 {l0 l1 l2 l3 l4 l5 l6 l7 l8 : Value} {x : Int64} : Rr X d MRm_chance 142 [l0, l1, l2, l3, l4, l5, l6, l7, l8] (.long x :: st) h = Rr X d MRm_chance 144 ((sL [l0, l1, l2, l3, l4, l5, l6, l7, l8] 4 (.long x)).set 5 mkU) st h := Rr_nx d_MRm_chance_142 rfl
theorem r_MRm_chance_144 {l0 l1 l2 l3 l4 l5 l6 l7 : Value} {x : Int32} : Rr X d MRm_chance 144 [l0, l1, l2, l3, l4, l5, l6, l7, .int x] st h = Rr X d MRm_chance 146 [l0, l1, l2, l3, l4, l5, l6, l7, .int x] (.int x :: st) h := Rr_nx d_MRm_chance_144 rfl
theorem r_MRm_chance_146 {l0 l1 l2 l4 l5 l6 l7 l8 : Value} {x : Int32} : Rr X d MRm_chance 146 [l0, l1, l2, .int x, l4, l5, l6, l7, l8] st h = Rr X d MRm_chance 147 [l0, l1, l2, .int x, l4, l5, l6, l7, l8] (.int x :: st) h := Rr_nx d_MRm_chance_146 rfl
theorem r_MRm_chance_147 {x y : Int32} : Rr X d MRm_chance 147 L (.int y :: .int x :: st) h = if y ≤ x then Rr X d MRm_chance 158 L st h else Rr X d MRm_chance 150 L st h := R_ic_ge d_MRm_chance_147 (by decide)
theorem r_MRm_chance_150 {l0 l2 l3 l4 l5 l6 l7 l8 : Value} {x : Int32} : Rr X d MRm_chance 150 [l0, .int x, l2, l3, l4, l5, l6, l7, l8] st h = Rr X d MRm_chance 151 [l0, .int x, l2, l3, l4, l5, l6, l7, l8] (.int x :: st) h := Rr_nx d_MRm_chance_150 rfl
theorem r_MRm_chance_151 {l0 l1 l2 l3 l4 l5 l6 l7 : Value} {x : Int32} : Rr X d MRm_chance 151 [l0, l1, l2, l3, l4, l5, l6, l7, .int x] st h = Rr X d MRm_chance 153 [l0, l1, l2, l3, l4, l5, l6, l7, .int x] (.int x :: st) h := Rr_nx d_MRm_chance_151 rfl
theorem r_MRm_chance_153 {x y : Int32} : Rr X d MRm_chance 153 L (.int y :: .int x :: st) h = Rr X d MRm_chance 154 L (.int (x - y) :: st) h := Rr_nx d_MRm_chance_153 rfl
theorem r_MRm_chance_154 {l0 l1 l2 l4 l5 l6 l7 l8 : Value} {x : Int32} : Rr X d MRm_chance 154 [l0, l1, l2, .int x, l4, l5, l6, l7, l8] st h = Rr X d MRm_chance 155 [l0, l1, l2, .int x, l4, l5, l6, l7, l8] (.int x :: st) h := Rr_nx d_MRm_chance_154 rfl
theorem r_MRm_chance_155 {x y : Int32} : Rr X d MRm_chance 155 L (.int y :: .int x :: st) h = if x < y then Rr X d MRm_chance 170 L st h else Rr X d MRm_chance 158 L st h := R_ic_lt d_MRm_chance_155 (by decide)
theorem r_MRm_chance_158 {l0 l1 l2 l3 l4 l5 l7 l8 : Value} {x : Int64} : Rr X d MRm_chance 158 [l0, l1, l2, l3, l4, l5, .long x, l7, l8] st h = Rr X d MRm_chance 160 [l0, l1, l2, l3, l4, l5, .long x, l7, l8] (.long x :: st) h := Rr_nx d_MRm_chance_158 rfl
theorem r_MRm_chance_160 {l1 l2 l3 l4 l5 l6 l7 l8 : Value} {x : Nat} : Rr X d MRm_chance 160 [.ref x, l1, l2, l3, l4, l5, l6, l7, l8] st h = Rr X d MRm_chance 161 [.ref x, l1, l2, l3, l4, l5, l6, l7, l8] (.ref x :: st) h := Rr_nx d_MRm_chance_160 rfl
theorem r_MRm_chance_161 {a : Nat} (hq : (qR a 10 50).isSome = true) : Rr X d MRm_chance 161 L (.ref a :: st) (Wd mu la ro et) = Rr X d MRm_chance 164 L (.ref (qRd a 10 50) :: st) (Wd mu la ro et) := R_gfR d_MRm_chance_161 ff_10_82 hq
theorem r_MRm_chance_164 {l0 l1 l2 l3 l4 l5 l6 l7 : Value} {x : Int32} : Rr X d MRm_chance 164 [l0, l1, l2, l3, l4, l5, l6, l7, .int x] st h = Rr X d MRm_chance 166 [l0, l1, l2, l3, l4, l5, l6, l7, .int x] (.int x :: st) h := Rr_nx d_MRm_chance_164 rfl
theorem r_MRm_chance_166 {a : Nat} {j : Int32} (hq : (qJ a).isSome = true) : Rr X d MRm_chance 166 L (.int j :: .ref a :: st) (Wd mu la ro et) = if j < 0 ∨ qJd a ≤ j.toNatClampNeg then none else Rr X d MRm_chance 167 L (.long (la a j.toNatClampNeg) :: st) (Wd mu la ro et) := R_lalW d_MRm_chance_166 hq
theorem r_MRm_chance_167 {x y : Int64} : Rr X d MRm_chance 167 L (.long y :: .long x :: st) h = Rr X d MRm_chance 168 L (.long (x + y) :: st) h := Rr_nx d_MRm_chance_167 rfl
theorem r_MRm_chance_168 {l0 l1 l2 l3 l4 l5 l6 l7 l8 : Value} {x : Int64} : Rr X d MRm_chance 168 [l0, l1, l2, l3, l4, l5, l6, l7, l8] (.long x :: st) h = Rr X d MRm_chance 170 ((sL [l0, l1, l2, l3, l4, l5, l6, l7, l8] 6 (.long x)).set 7 mkU) st h := Rr_nx d_MRm_chance_168 rfl
theorem r_MRm_chance_170 {l0 l1 l2 l3 l4 l5 l6 l7 : Value} {x : Int32} : Rr X d MRm_chance 170 [l0, l1, l2, l3, l4, l5, l6, l7, .int x] st h = Rr X d MRm_chance 173 (sL [l0, l1, l2, l3, l4, l5, l6, l7, .int x] 8 (.int (x + (1)))) st h := Rr_nx d_MRm_chance_170 rfl
theorem r_MRm_chance_173 : Rr X d MRm_chance 173 L st h = Rr X d MRm_chance 126 L st h := R_goto d_MRm_chance_173 (by decide)
theorem r_MRm_chance_176 {l0 l1 l2 l3 l4 l5 l7 l8 : Value} {x : Int64} : Rr X d MRm_chance 176 [l0, l1, l2, l3, l4, l5, .long x, l7, l8] st h = Rr X d MRm_chance 178 [l0, l1, l2, l3, l4, l5, .long x, l7, l8] (.long x :: st) h := Rr_nx d_MRm_chance_176 rfl
theorem r_MRm_chance_178 : Rr X d MRm_chance 178 L st h = Rr X d MRm_chance 181 L (.long (1000) :: st) h := Rr_nx d_MRm_chance_178 rfl
theorem r_MRm_chance_181 {x y : Int64} : Rr X d MRm_chance 181 L (.long y :: .long x :: st) h = Rr X d MRm_chance 182 L (.long (x * y) :: st) h := Rr_nx d_MRm_chance_181 rfl
theorem r_MRm_chance_182 {l0 l1 l2 l3 l5 l6 l7 l8 : Value} {x : Int64} : Rr X d MRm_chance 182 [l0, l1, l2, l3, .long x, l5, l6, l7, l8] st h = Rr X d MRm_chance 184 [l0, l1, l2, l3, .long x, l5, l6, l7, l8] (.long x :: st) h := Rr_nx d_MRm_chance_182 rfl
theorem r_MRm_chance_184 {x y : Int64} : Rr X d MRm_chance 184 L (.long y :: .long x :: st) h = if y = 0 then none else Rr X d MRm_chance 185 L (.long (x / y) :: st) h := R_ldv d_MRm_chance_184
theorem r_MRm_chance_185 {x : Int64} : Rr X d MRm_chance 185 L (.long x :: st) h = Rr X d MRm_chance 186 L (.int x.toInt32 :: st) h := Rr_nx d_MRm_chance_185 rfl
theorem r_MRm_chance_186 {x : Int32} : Rr X d MRm_chance 186 L [.int x] h = some (some (.int x), h) := R_ir d_MRm_chance_186 rfl
end RULES
