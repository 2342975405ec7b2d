section RULES
variable {X : Tok} {d : Nat} {st L : List Value} {h : Hp} {mu : Nat → Nat → Int32} {la : Nat → Nat → Int64} {ro : Nat → Nat → Option Nat} {et : Nat → Option va_E}
theorem d_MRm_takenBy_0 : decode MRm_takenBy.2.2.1 0 = .ok (.iload_n 1, 1) := lkT_ok tk_MRm_takenBy rfl
theorem d_MRm_takenBy_1 : decode MRm_takenBy.2.2.1 1 = .ok (.bipush 9, 2) := lkT_ok tk_MRm_takenBy rfl
theorem d_MRm_takenBy_3 : decode MRm_takenBy.2.2.1 3 = .ok (.if_icmp .ne 5, 3) := lkT_ok tk_MRm_takenBy rfl
theorem d_MRm_takenBy_6 : decode MRm_takenBy.2.2.1 6 = .ok (.iconst 0, 1) := lkT_ok tk_MRm_takenBy rfl
theorem d_MRm_takenBy_7 : decode MRm_takenBy.2.2.1 7 = .ok (.ireturn, 1) := lkT_ok tk_MRm_takenBy rfl
theorem d_MRm_takenBy_8 : decode MRm_takenBy.2.2.1 8 = .ok (.iload_n 1, 1) := lkT_ok tk_MRm_takenBy rfl
theorem d_MRm_takenBy_9 : decode MRm_takenBy.2.2.1 9 = .ok (.ifCond .ge 20, 3) := lkT_ok tk_MRm_takenBy rfl
theorem d_MRm_takenBy_12 : decode MRm_takenBy.2.2.1 12 = .ok (.iload_n 3, 1) := lkT_ok tk_MRm_takenBy rfl
theorem d_MRm_takenBy_13 : decode MRm_takenBy.2.2.1 13 = .ok (.iconst (-1), 1) := lkT_ok tk_MRm_takenBy rfl
theorem d_MRm_takenBy_14 : decode MRm_takenBy.2.2.1 14 = .ok (.iload_n 1, 1) := lkT_ok tk_MRm_takenBy rfl
theorem d_MRm_takenBy_15 : decode MRm_takenBy.2.2.1 15 = .ok (.isub, 1) := lkT_ok tk_MRm_takenBy rfl
theorem d_MRm_takenBy_16 : decode MRm_takenBy.2.2.1 16 = .ok (.imul, 1) := lkT_ok tk_MRm_takenBy rfl
theorem d_MRm_takenBy_17 : decode MRm_takenBy.2.2.1 17 = .ok (.bipush 99, 2) := lkT_ok tk_MRm_takenBy rfl
theorem d_MRm_takenBy_19 : decode MRm_takenBy.2.2.1 19 = .ok (.iadd, 1) := lkT_ok tk_MRm_takenBy rfl
theorem d_MRm_takenBy_20 : decode MRm_takenBy.2.2.1 20 = .ok (.bipush 100, 2) := lkT_ok tk_MRm_takenBy rfl
theorem d_MRm_takenBy_22 : decode MRm_takenBy.2.2.1 22 = .ok (.idiv, 1) := lkT_ok tk_MRm_takenBy rfl
theorem d_MRm_takenBy_23 : decode MRm_takenBy.2.2.1 23 = .ok (.iconst 0, 1) := lkT_ok tk_MRm_takenBy rfl
theorem d_MRm_takenBy_24 : decode MRm_takenBy.2.2.1 24 = .ok (.iload_n 3, 1) := lkT_ok tk_MRm_takenBy rfl
theorem d_MRm_takenBy_25 : decode MRm_takenBy.2.2.1 25 = .ok (.invokestatic 170, 3) := lkT_ok tk_MRm_takenBy rfl
theorem d_MRm_takenBy_28 : decode MRm_takenBy.2.2.1 28 = .ok (.ireturn, 1) := lkT_ok tk_MRm_takenBy rfl
theorem d_MRm_takenBy_29 : decode MRm_takenBy.2.2.1 29 = .ok (.aload_n 0, 1) := lkT_ok tk_MRm_takenBy rfl
theorem d_MRm_takenBy_30 : decode MRm_takenBy.2.2.1 30 = .ok (.getfield 57, 3) := lkT_ok tk_MRm_takenBy rfl
theorem d_MRm_takenBy_33 : decode MRm_takenBy.2.2.1 33 = .ok (.iconst 0, 1) := lkT_ok tk_MRm_takenBy rfl
theorem d_MRm_takenBy_34 : decode MRm_takenBy.2.2.1 34 = .ok (.iload_n 2, 1) := lkT_ok tk_MRm_takenBy rfl
theorem d_MRm_takenBy_35 : decode MRm_takenBy.2.2.1 35 = .ok (.iastore, 1) := lkT_ok tk_MRm_takenBy rfl
theorem d_MRm_takenBy_36 : decode MRm_takenBy.2.2.1 36 = .ok (.aload_n 0, 1) := lkT_ok tk_MRm_takenBy rfl
theorem d_MRm_takenBy_37 : decode MRm_takenBy.2.2.1 37 = .ok (.getfield 57, 3) := lkT_ok tk_MRm_takenBy rfl
theorem d_MRm_takenBy_40 : decode MRm_takenBy.2.2.1 40 = .ok (.iconst 1, 1) := lkT_ok tk_MRm_takenBy rfl
theorem d_MRm_takenBy_41 : decode MRm_takenBy.2.2.1 41 = .ok (.iload_n 3, 1) := lkT_ok tk_MRm_takenBy rfl
theorem d_MRm_takenBy_42 : decode MRm_takenBy.2.2.1 42 = .ok (.iastore, 1) := lkT_ok tk_MRm_takenBy rfl
theorem d_MRm_takenBy_43 : decode MRm_takenBy.2.2.1 43 = .ok (.aload_n 0, 1) := lkT_ok tk_MRm_takenBy rfl
theorem d_MRm_takenBy_44 : decode MRm_takenBy.2.2.1 44 = .ok (.getfield 57, 3) := lkT_ok tk_MRm_takenBy rfl
theorem d_MRm_takenBy_47 : decode MRm_takenBy.2.2.1 47 = .ok (.iconst 2, 1) := lkT_ok tk_MRm_takenBy rfl
theorem d_MRm_takenBy_48 : decode MRm_takenBy.2.2.1 48 = .ok (.aload_n 0, 1) := lkT_ok tk_MRm_takenBy rfl
theorem d_MRm_takenBy_49 : decode MRm_takenBy.2.2.1 49 = .ok (.getfield 260, 3) := lkT_ok tk_MRm_takenBy rfl
theorem d_MRm_takenBy_52 : decode MRm_takenBy.2.2.1 52 = .ok (.invokestatic 167, 3) := lkT_ok tk_MRm_takenBy rfl
theorem d_MRm_takenBy_55 : decode MRm_takenBy.2.2.1 55 = .ok (.iastore, 1) := lkT_ok tk_MRm_takenBy rfl
theorem d_MRm_takenBy_56 : decode MRm_takenBy.2.2.1 56 = .ok (.aload_n 0, 1) := lkT_ok tk_MRm_takenBy rfl
theorem d_MRm_takenBy_57 : decode MRm_takenBy.2.2.1 57 = .ok (.getfield 57, 3) := lkT_ok tk_MRm_takenBy rfl
theorem d_MRm_takenBy_60 : decode MRm_takenBy.2.2.1 60 = .ok (.iconst 3, 1) := lkT_ok tk_MRm_takenBy rfl
theorem d_MRm_takenBy_61 : decode MRm_takenBy.2.2.1 61 = .ok (.aload_n 0, 1) := lkT_ok tk_MRm_takenBy rfl
theorem d_MRm_takenBy_62 : decode MRm_takenBy.2.2.1 62 = .ok (.getfield 263, 3) := lkT_ok tk_MRm_takenBy rfl
theorem d_MRm_takenBy_65 : decode MRm_takenBy.2.2.1 65 = .ok (.iastore, 1) := lkT_ok tk_MRm_takenBy rfl
theorem d_MRm_takenBy_66 : decode MRm_takenBy.2.2.1 66 = .ok (.aload_n 0, 1) := lkT_ok tk_MRm_takenBy rfl
theorem d_MRm_takenBy_67 : decode MRm_takenBy.2.2.1 67 = .ok (.getfield 57, 3) := lkT_ok tk_MRm_takenBy rfl
theorem d_MRm_takenBy_70 : decode MRm_takenBy.2.2.1 70 = .ok (.iconst 4, 1) := lkT_ok tk_MRm_takenBy rfl
theorem d_MRm_takenBy_71 : decode MRm_takenBy.2.2.1 71 = .ok (.aload_n 0, 1) := lkT_ok tk_MRm_takenBy rfl
theorem d_MRm_takenBy_72 : decode MRm_takenBy.2.2.1 72 = .ok (.getfield 266, 3) := lkT_ok tk_MRm_takenBy rfl
theorem d_MRm_takenBy_75 : decode MRm_takenBy.2.2.1 75 = .ok (.iastore, 1) := lkT_ok tk_MRm_takenBy rfl
theorem d_MRm_takenBy_76 : decode MRm_takenBy.2.2.1 76 = .ok (.aload_n 0, 1) := lkT_ok tk_MRm_takenBy rfl
theorem d_MRm_takenBy_77 : decode MRm_takenBy.2.2.1 77 = .ok (.getfield 57, 3) := lkT_ok tk_MRm_takenBy rfl
theorem d_MRm_takenBy_80 : decode MRm_takenBy.2.2.1 80 = .ok (.iconst 5, 1) := lkT_ok tk_MRm_takenBy rfl
theorem d_MRm_takenBy_81 : decode MRm_takenBy.2.2.1 81 = .ok (.iload 4, 2) := lkT_ok tk_MRm_takenBy rfl
theorem d_MRm_takenBy_83 : decode MRm_takenBy.2.2.1 83 = .ok (.iastore, 1) := lkT_ok tk_MRm_takenBy rfl
theorem d_MRm_takenBy_84 : decode MRm_takenBy.2.2.1 84 = .ok (.aload_n 0, 1) := lkT_ok tk_MRm_takenBy rfl
theorem d_MRm_takenBy_85 : decode MRm_takenBy.2.2.1 85 = .ok (.iload_n 1, 1) := lkT_ok tk_MRm_takenBy rfl
theorem d_MRm_takenBy_86 : decode MRm_takenBy.2.2.1 86 = .ok (.invokevirtual 278, 3) := lkT_ok tk_MRm_takenBy rfl
theorem d_MRm_takenBy_89 : decode MRm_takenBy.2.2.1 89 = .ok (.iconst 0, 1) := lkT_ok tk_MRm_takenBy rfl
theorem d_MRm_takenBy_90 : decode MRm_takenBy.2.2.1 90 = .ok (.iload_n 3, 1) := lkT_ok tk_MRm_takenBy rfl
theorem d_MRm_takenBy_91 : decode MRm_takenBy.2.2.1 91 = .ok (.invokestatic 170, 3) := lkT_ok tk_MRm_takenBy rfl
theorem d_MRm_takenBy_94 : decode MRm_takenBy.2.2.1 94 = .ok (.ireturn, 1) := lkT_ok tk_MRm_takenBy rfl
theorem r_MRm_takenBy_0 {l0 l2 l3 l4 : Value} {x : Int32} : Rr X d MRm_takenBy 0 [l0, .int x, l2, l3, l4] st h = Rr X d MRm_takenBy 1 [l0, .int x, l2, l3, l4] (.int x :: st) h := Rr_nx d_MRm_takenBy_0 rfl
theorem r_MRm_takenBy_1 : Rr X d MRm_takenBy 1 L st h = Rr X d MRm_takenBy 3 L (.int (9) :: st) h := Rr_nx d_MRm_takenBy_1 rfl
theorem r_MRm_takenBy_3 {x y : Int32} : Rr X d MRm_takenBy 3 L (.int y :: .int x :: st) h = if ¬ x = y then Rr X d MRm_takenBy 8 L st h else Rr X d MRm_takenBy 6 L st h := R_ic_ne d_MRm_takenBy_3 (by decide)
theorem r_MRm_takenBy_6 : Rr X d MRm_takenBy 6 L st h = Rr X d MRm_takenBy 7 L (.int (0) :: st) h := Rr_nx d_MRm_takenBy_6 rfl
theorem r_MRm_takenBy_7 {x : Int32} : Rr X d MRm_takenBy 7 L [.int x] h = some (some (.int x), h) := R_ir d_MRm_takenBy_7 rfl
theorem r_MRm_takenBy_8 {l0 l2 l3 l4 : Value} {x : Int32} : Rr X d MRm_takenBy 8 [l0, .int x, l2, l3, l4] st h = Rr X d MRm_takenBy 9 [l0, .int x, l2, l3, l4] (.int x :: st) h := Rr_nx d_MRm_takenBy_8 rfl
theorem r_MRm_takenBy_9 {x : Int32} : Rr X d MRm_takenBy 9 L (.int x :: st) h = if 0 ≤ x then Rr X d MRm_takenBy 29 L st h else Rr X d MRm_takenBy 12 L st h := R_if_ge d_MRm_takenBy_9 (by decide)
theorem r_MRm_takenBy_12 {l0 l1 l2 l4 : Value} {x : Int32} : Rr X d MRm_takenBy 12 [l0, l1, l2, .int x, l4] st h = Rr X d MRm_takenBy 13 [l0, l1, l2, .int x, l4] (.int x :: st) h := Rr_nx d_MRm_takenBy_12 rfl
theorem r_MRm_takenBy_13 : Rr X d MRm_takenBy 13 L st h = Rr X d MRm_takenBy 14 L (.int (-1) :: st) h := Rr_nx d_MRm_takenBy_13 rfl
theorem r_MRm_takenBy_14 {l0 l2 l3 l4 : Value} {x : Int32} : Rr X d MRm_takenBy 14 [l0, .int x, l2, l3, l4] st h = Rr X d MRm_takenBy 15 [l0, .int x, l2, l3, l4] (.int x :: st) h := Rr_nx d_MRm_takenBy_14 rfl
theorem r_MRm_takenBy_15 {x y : Int32} : Rr X d MRm_takenBy 15 L (.int y :: .int x :: st) h = Rr X d MRm_takenBy 16 L (.int (x - y) :: st) h := Rr_nx d_MRm_takenBy_15 rfl
theorem r_MRm_takenBy_16 {x y : Int32} : Rr X d MRm_takenBy 16 L (.int y :: .int x :: st) h = Rr X d MRm_takenBy 17 L (.int (x * y) :: st) h := Rr_nx d_MRm_takenBy_16 rfl
theorem r_MRm_takenBy_17 : Rr X d MRm_takenBy 17 L st h = Rr X d MRm_takenBy 19 L (.int (99) :: st) h := Rr_nx d_MRm_takenBy_17 rfl
theorem r_MRm_takenBy_19 {x y : Int32} : Rr X d MRm_takenBy 19 L (.int y :: .int x :: st) h = Rr X d MRm_takenBy 20 L (.int (x + y) :: st) h := Rr_nx d_MRm_takenBy_19 rfl
theorem r_MRm_takenBy_20 : Rr X d MRm_takenBy 20 L st h = Rr X d MRm_takenBy 22 L (.int (100) :: st) h := Rr_nx d_MRm_takenBy_20 rfl
theorem r_MRm_takenBy_22 {x y : Int32} : Rr X d MRm_takenBy 22 L (.int y :: .int x :: st) h = if y = 0 then none else Rr X d MRm_takenBy 23 L (.int (x / y) :: st) h := R_dv d_MRm_takenBy_22
theorem r_MRm_takenBy_23 : Rr X d MRm_takenBy 23 L st h = Rr X d MRm_takenBy 24 L (.int (0) :: st) h := Rr_nx d_MRm_takenBy_23 rfl
theorem r_MRm_takenBy_24 {l0 l1 l2 l4 : Value} {x : Int32} : Rr X d MRm_takenBy 24 [l0, l1, l2, .int x, l4] st h = Rr X d MRm_takenBy 25 [l0, l1, l2, .int x, l4] (.int x :: st) h := Rr_nx d_MRm_takenBy_24 rfl
theorem r_MRm_takenBy_25 {y0 : Int32} {y1 : Int32} {y2 : Int32} (hc : ckS st = true) : Rr X (d + 1) MRm_takenBy 25 L (.int y2 :: .int y1 :: .int y0 :: st) h = (Rr X d MRm_held 0 [.int y0, .int y1, .int y2] [] h).bind fun q => Rr X (d + 1) MRm_takenBy 28 L (psh q.1 st) q.2 := R_is (av := [.int y2, .int y1, .int y0]) d_MRm_takenBy_25 (Or.inl fc_10_170) (ckS_le hc) rfl (Nat.le_of_ble_eq_true rfl) (Nat.le_of_ble_eq_true rfl)
theorem r_MRm_takenBy_28 {x : Int32} : Rr X d MRm_takenBy 28 L [.int x] h = some (some (.int x), h) := R_ir d_MRm_takenBy_28 rfl
theorem r_MRm_takenBy_29 {l1 l2 l3 l4 : Value} {x : Nat} : Rr X d MRm_takenBy 29 [.ref x, l1, l2, l3, l4] st h = Rr X d MRm_takenBy 30 [.ref x, l1, l2, l3, l4] (.ref x :: st) h := Rr_nx d_MRm_takenBy_29 rfl
theorem r_MRm_takenBy_30 {a : Nat} (hq : (qR a 10 27).isSome = true) : Rr X d MRm_takenBy 30 L (.ref a :: st) (Wd mu la ro et) = Rr X d MRm_takenBy 33 L (.ref (qRd a 10 27) :: st) (Wd mu la ro et) := R_gfR d_MRm_takenBy_30 ff_10_57 hq
theorem r_MRm_takenBy_33 : Rr X d MRm_takenBy 33 L st h = Rr X d MRm_takenBy 34 L (.int (0) :: st) h := Rr_nx d_MRm_takenBy_33 rfl
theorem r_MRm_takenBy_34 {l0 l1 l3 l4 : Value} {x : Int32} : Rr X d MRm_takenBy 34 [l0, l1, .int x, l3, l4] st h = Rr X d MRm_takenBy 35 [l0, l1, .int x, l3, l4] (.int x :: st) h := Rr_nx d_MRm_takenBy_34 rfl
theorem r_MRm_takenBy_35 {a : Nat} {j x : Int32} (hq : (qA a 0).isSome = true) : Rr X d MRm_takenBy 35 L (.int x :: .int j :: .ref a :: st) (Wd mu la ro et) = if j < 0 ∨ qAd a 0 ≤ j.toNatClampNeg then none else Rr X d MRm_takenBy 36 L st (Wd (up2 mu a j.toNatClampNeg (x)) la ro et) := R_iasW d_MRm_takenBy_35 hq
theorem r_MRm_takenBy_36 {l1 l2 l3 l4 : Value} {x : Nat} : Rr X d MRm_takenBy 36 [.ref x, l1, l2, l3, l4] st h = Rr X d MRm_takenBy 37 [.ref x, l1, l2, l3, l4] (.ref x :: st) h := Rr_nx d_MRm_takenBy_36 rfl
theorem r_MRm_takenBy_37 {a : Nat} (hq : (qR a 10 27).isSome = true) : Rr X d MRm_takenBy 37 L (.ref a :: st) (Wd mu la ro et) = Rr X d MRm_takenBy 40 L (.ref (qRd a 10 27) :: st) (Wd mu la ro et) := R_gfR d_MRm_takenBy_37 ff_10_57 hq
theorem r_MRm_takenBy_40 : Rr X d MRm_takenBy 40 L st h = Rr X d MRm_takenBy 41 L (.int (1) :: st) h := Rr_nx d_MRm_takenBy_40 rfl
theorem r_MRm_takenBy_41 {l0 l1 l2 l4 : Value} {x : Int32} : Rr X d MRm_takenBy 41 [l0, l1, l2, .int x, l4] st h = Rr X d MRm_takenBy 42 [l0, l1, l2, .int x, l4] (.int x :: st) h := Rr_nx d_MRm_takenBy_41 rfl
theorem r_MRm_takenBy_42 {a : Nat} {j x : Int32} (hq : (qA a 0).isSome = true) : Rr X d MRm_takenBy 42 L (.int x :: .int j :: .ref a :: st) (Wd mu la ro et) = if j < 0 ∨ qAd a 0 ≤ j.toNatClampNeg then none else Rr X d MRm_takenBy 43 L st (Wd (up2 mu a j.toNatClampNeg (x)) la ro et) := R_iasW d_MRm_takenBy_42 hq
theorem r_MRm_takenBy_43 {l1 l2 l3 l4 : Value} {x : Nat} : Rr X d MRm_takenBy 43 [.ref x, l1, l2, l3, l4] st h = Rr X d MRm_takenBy 44 [.ref x, l1, l2, l3, l4] (.ref x :: st) h := Rr_nx d_MRm_takenBy_43 rfl
theorem r_MRm_takenBy_44 {a : Nat} (hq : (qR a 10 27).isSome = true) : Rr X d MRm_takenBy 44 L (.ref a :: st) (Wd mu la ro et) = Rr X d MRm_takenBy 47 L (.ref (qRd a 10 27) :: st) (Wd mu la ro et) := R_gfR d_MRm_takenBy_44 ff_10_57 hq
theorem r_MRm_takenBy_47 : Rr X d MRm_takenBy 47 L st h = Rr X d MRm_takenBy 48 L (.int (2) :: st) h := Rr_nx d_MRm_takenBy_47 rfl
theorem r_MRm_takenBy_48 {l1 l2 l3 l4 : Value} {x : Nat} : Rr X d MRm_takenBy 48 [.ref x, l1, l2, l3, l4] st h = Rr X d MRm_takenBy 49 [.ref x, l1, l2, l3, l4] (.ref x :: st) h := Rr_nx d_MRm_takenBy_48 rfl
theorem r_MRm_takenBy_49 {a : Nat} (hq : qI a 10 30 = true) : Rr X d MRm_takenBy 49 L (.ref a :: st) (Wd mu la ro et) = Rr X d MRm_takenBy 52 L (.int (mu a 30) :: st) (Wd mu la ro et) := R_gfI d_MRm_takenBy_49 ff_10_260 hq
theorem r_MRm_takenBy_52 {y0 : Int32} (hc : ckS st = true) : Rr X (d + 1) MRm_takenBy 52 L (.int y0 :: st) h = (Rr X d MRm_sizeOf 0 [.int y0] [] h).bind fun q => Rr X (d + 1) MRm_takenBy 55 L (psh q.1 st) q.2 := R_is (av := [.int y0]) d_MRm_takenBy_52 (Or.inl fc_10_167) (ckS_le hc) rfl (Nat.le_of_ble_eq_true rfl) (Nat.le_of_ble_eq_true rfl)
theorem r_MRm_takenBy_55 {a : Nat} {j x : Int32} (hq : (qA a 0).isSome = true) : Rr X d MRm_takenBy 55 L (.int x :: .int j :: .ref a :: st) (Wd mu la ro et) = if j < 0 ∨ qAd a 0 ≤ j.toNatClampNeg then none else Rr X d MRm_takenBy 56 L st (Wd (up2 mu a j.toNatClampNeg (x)) la ro et) := R_iasW d_MRm_takenBy_55 hq
theorem r_MRm_takenBy_56 {l1 l2 l3 l4 : Value} {x : Nat} : Rr X d MRm_takenBy 56 [.ref x, l1, l2, l3, l4] st h = Rr X d MRm_takenBy 57 [.ref x, l1, l2, l3, l4] (.ref x :: st) h := Rr_nx d_MRm_takenBy_56 rfl
theorem r_MRm_takenBy_57 {a : Nat} (hq : (qR a 10 27).isSome = true) : Rr X d MRm_takenBy 57 L (.ref a :: st) (Wd mu la ro et) = Rr X d MRm_takenBy 60 L (.ref (qRd a 10 27) :: st) (Wd mu la ro et) := R_gfR d_MRm_takenBy_57 ff_10_57 hq
theorem r_MRm_takenBy_60 : Rr X d MRm_takenBy 60 L st h = Rr X d MRm_takenBy 61 L (.int (3) :: st) h := Rr_nx d_MRm_takenBy_60 rfl
theorem r_MRm_takenBy_61 {l1 l2 l3 l4 : Value} {x : Nat} : Rr X d MRm_takenBy 61 [.ref x, l1, l2, l3, l4] st h = Rr X d MRm_takenBy 62 [.ref x, l1, l2, l3, l4] (.ref x :: st) h := Rr_nx d_MRm_takenBy_61 rfl
theorem r_MRm_takenBy_62 {a : Nat} (hq : qI a 10 31 = true) : Rr X d MRm_takenBy 62 L (.ref a :: st) (Wd mu la ro et) = Rr X d MRm_takenBy 65 L (.int (mu a 31) :: st) (Wd mu la ro et) := R_gfI d_MRm_takenBy_62 ff_10_263 hq
theorem r_MRm_takenBy_65 {a : Nat} {j x : Int32} (hq : (qA a 0).isSome = true) : Rr X d MRm_takenBy 65 L (.int x :: .int j :: .ref a :: st) (Wd mu la ro et) = if j < 0 ∨ qAd a 0 ≤ j.toNatClampNeg then none else Rr X d MRm_takenBy 66 L st (Wd (up2 mu a j.toNatClampNeg (x)) la ro et) := R_iasW d_MRm_takenBy_65 hq
theorem r_MRm_takenBy_66 {l1 l2 l3 l4 : Value} {x : Nat} : Rr X d MRm_takenBy 66 [.ref x, l1, l2, l3, l4] st h = Rr X d MRm_takenBy 67 [.ref x, l1, l2, l3, l4] (.ref x :: st) h := Rr_nx d_MRm_takenBy_66 rfl
theorem r_MRm_takenBy_67 {a : Nat} (hq : (qR a 10 27).isSome = true) : Rr X d MRm_takenBy 67 L (.ref a :: st) (Wd mu la ro et) = Rr X d MRm_takenBy 70 L (.ref (qRd a 10 27) :: st) (Wd mu la ro et) := R_gfR d_MRm_takenBy_67 ff_10_57 hq
theorem r_MRm_takenBy_70 : Rr X d MRm_takenBy 70 L st h = Rr X d MRm_takenBy 71 L (.int (4) :: st) h := Rr_nx d_MRm_takenBy_70 rfl
theorem r_MRm_takenBy_71 {l1 l2 l3 l4 : Value} {x : Nat} : Rr X d MRm_takenBy 71 [.ref x, l1, l2, l3, l4] st h = Rr X d MRm_takenBy 72 [.ref x, l1, l2, l3, l4] (.ref x :: st) h := Rr_nx d_MRm_takenBy_71 rfl
theorem r_MRm_takenBy_72 {a : Nat} (hq : qI a 10 32 = true) : Rr X d MRm_takenBy 72 L (.ref a :: st) (Wd mu la ro et) = Rr X d MRm_takenBy 75 L (.int (mu a 32) :: st) (Wd mu la ro et) := R_gfI d_MRm_takenBy_72 ff_10_266 hq
theorem r_MRm_takenBy_75 {a : Nat} {j x : Int32} (hq : (qA a 0).isSome = true) : Rr X d MRm_takenBy 75 L (.int x :: .int j :: .ref a :: st) (Wd mu la ro et) = if j < 0 ∨ qAd a 0 ≤ j.toNatClampNeg then none else Rr X d MRm_takenBy 76 L st (Wd (up2 mu a j.toNatClampNeg (x)) la ro et) := R_iasW d_MRm_takenBy_75 hq
theorem r_MRm_takenBy_76 {l1 l2 l3 l4 : Value} {x : Nat} : Rr X d MRm_takenBy 76 [.ref x, l1, l2, l3, l4] st h = Rr X d MRm_takenBy 77 [.ref x, l1, l2, l3, l4] (.ref x :: st) h := Rr_nx d_MRm_takenBy_76 rfl
theorem r_MRm_takenBy_77 {a : Nat} (hq : (qR a 10 27).isSome = true) : Rr X d MRm_takenBy 77 L (.ref a :: st) (Wd mu la ro et) = Rr X d MRm_takenBy 80 L (.ref (qRd a 10 27) :: st) (Wd mu la ro et) := R_gfR d_MRm_takenBy_77 ff_10_57 hq
theorem r_MRm_takenBy_80 : Rr X d MRm_takenBy 80 L st h = Rr X d MRm_takenBy 81 L (.int (5) :: st) h := Rr_nx d_MRm_takenBy_80 rfl
theorem r_MRm_takenBy_81 {l0 l1 l2 l3 : Value} {x : Int32} : Rr X d MRm_takenBy 81 [l0, l1, l2, l3, .int x] st h = Rr X d MRm_takenBy 83 [l0, l1, l2, l3, .int x] (.int x :: st) h := Rr_nx d_MRm_takenBy_81 rfl
theorem r_MRm_takenBy_83 {a : Nat} {j x : Int32} (hq : (qA a 0).isSome = true) : Rr X d MRm_takenBy 83 L (.int x :: .int j :: .ref a :: st) (Wd mu la ro et) = if j < 0 ∨ qAd a 0 ≤ j.toNatClampNeg then none else Rr X d MRm_takenBy 84 L st (Wd (up2 mu a j.toNatClampNeg (x)) la ro et) := R_iasW d_MRm_takenBy_83 hq
theorem r_MRm_takenBy_84 {l1 l2 l3 l4 : Value} {x : Nat} : Rr X d MRm_takenBy 84 [.ref x, l1, l2, l3, l4] st h = Rr X d MRm_takenBy 85 [.ref x, l1, l2, l3, l4] (.ref x :: st) h := Rr_nx d_MRm_takenBy_84 rfl
theorem r_MRm_takenBy_85 {l0 l2 l3 l4 : Value} {x : Int32} : Rr X d MRm_takenBy 85 [l0, .int x, l2, l3, l4] st h = Rr X d MRm_takenBy 86 [l0, .int x, l2, l3, l4] (.int x :: st) h := Rr_nx d_MRm_takenBy_85 rfl
theorem fc_10_278 : fC 10 278 = some (0, 10, 1, MRm_gives) := rfl
theorem r_MRm_takenBy_86 {y0 : Int32} {a : Nat} (hO : qO a 10 = true) (hc : ckS st = true) : Rr X (d + 1) MRm_takenBy 86 L (.int y0 :: .ref a :: st) (Wd mu la ro et) = (Rr X d MRm_gives 0 [.ref a, .int y0, mkU, mkU] [] (Wd mu la ro et)).bind fun q => Rr X (d + 1) MRm_takenBy 89 L (psh q.1 st) q.2 := R_iv (av := [.int y0]) d_MRm_takenBy_86 fc_10_278 hO (ckS_le hc) rfl (Nat.le_of_ble_eq_true rfl) (Nat.le_of_ble_eq_true rfl)
theorem r_MRm_takenBy_89 : Rr X d MRm_takenBy 89 L st h = Rr X d MRm_takenBy 90 L (.int (0) :: st) h := Rr_nx d_MRm_takenBy_89 rfl
theorem r_MRm_takenBy_90 {l0 l1 l2 l4 : Value} {x : Int32} : Rr X d MRm_takenBy 90 [l0, l1, l2, .int x, l4] st h = Rr X d MRm_takenBy 91 [l0, l1, l2, .int x, l4] (.int x :: st) h := Rr_nx d_MRm_takenBy_90 rfl
theorem r_MRm_takenBy_91 {y0 : Int32} {y1 : Int32} {y2 : Int32} (hc : ckS st = true) : Rr X (d + 1) MRm_takenBy 91 L (.int y2 :: .int y1 :: .int y0 :: st) h = (Rr X d MRm_held 0 [.int y0, .int y1, .int y2] [] h).bind fun q => Rr X (d + 1) MRm_takenBy 94 L (psh q.1 st) q.2 := R_is (av := [.int y2, .int y1, .int y0]) d_MRm_takenBy_91 (Or.inl fc_10_170) (ckS_le hc) rfl (Nat.le_of_ble_eq_true rfl) (Nat.le_of_ble_eq_true rfl)
theorem r_MRm_takenBy_94 {x : Int32} : Rr X d MRm_takenBy 94 L [.int x] h = some (some (.int x), h) := R_ir d_MRm_takenBy_94 rfl
theorem d_MRm_go_0 : decode MRm_go.2.2.1 0 = .ok (.aload_n 0, 1) := lkT_ok tk_MRm_go rfl
theorem d_MRm_go_1 : decode MRm_go.2.2.1 1 = .ok (.getfield 260, 3) := lkT_ok tk_MRm_go rfl
theorem d_MRm_go_4 : decode MRm_go.2.2.1 4 = .ok (.iload_n 2, 1) := lkT_ok tk_MRm_go rfl
theorem d_MRm_go_5 : decode MRm_go.2.2.1 5 = .ok (.imul, 1) := lkT_ok tk_MRm_go rfl
theorem d_MRm_go_6 : decode MRm_go.2.2.1 6 = .ok (.istore 5, 2) := lkT_ok tk_MRm_go rfl
theorem d_MRm_go_8 : decode MRm_go.2.2.1 8 = .ok (.iload 5, 2) := lkT_ok tk_MRm_go rfl
theorem d_MRm_go_10 : decode MRm_go.2.2.1 10 = .ok (.invokestatic 167, 3) := lkT_ok tk_MRm_go rfl
theorem d_MRm_go_13 : decode MRm_go.2.2.1 13 = .ok (.istore 6, 2) := lkT_ok tk_MRm_go rfl
theorem d_MRm_go_15 : decode MRm_go.2.2.1 15 = .ok (.iload 5, 2) := lkT_ok tk_MRm_go rfl
theorem d_MRm_go_17 : decode MRm_go.2.2.1 17 = .ok (.ifCond .le 102, 3) := lkT_ok tk_MRm_go rfl
theorem d_MRm_go_20 : decode MRm_go.2.2.1 20 = .ok (.aload_n 0, 1) := lkT_ok tk_MRm_go rfl
theorem d_MRm_go_21 : decode MRm_go.2.2.1 21 = .ok (.getfield 263, 3) := lkT_ok tk_MRm_go rfl
theorem d_MRm_go_24 : decode MRm_go.2.2.1 24 = .ok (.i2l, 1) := lkT_ok tk_MRm_go rfl
theorem d_MRm_go_25 : decode MRm_go.2.2.1 25 = .ok (.iload 6, 2) := lkT_ok tk_MRm_go rfl
theorem d_MRm_go_27 : decode MRm_go.2.2.1 27 = .ok (.i2l, 1) := lkT_ok tk_MRm_go rfl
theorem d_MRm_go_28 : decode MRm_go.2.2.1 28 = .ok (.lmul, 1) := lkT_ok tk_MRm_go rfl
theorem d_MRm_go_29 : decode MRm_go.2.2.1 29 = .ok (.aload_n 0, 1) := lkT_ok tk_MRm_go rfl
theorem d_MRm_go_30 : decode MRm_go.2.2.1 30 = .ok (.getfield 26, 3) := lkT_ok tk_MRm_go rfl
theorem d_MRm_go_33 : decode MRm_go.2.2.1 33 = .ok (.iconst 4, 1) := lkT_ok tk_MRm_go rfl
theorem d_MRm_go_34 : decode MRm_go.2.2.1 34 = .ok (.iload_n 1, 1) := lkT_ok tk_MRm_go rfl
theorem d_MRm_go_35 : decode MRm_go.2.2.1 35 = .ok (.imul, 1) := lkT_ok tk_MRm_go rfl
theorem d_MRm_go_36 : decode MRm_go.2.2.1 36 = .ok (.iaload, 1) := lkT_ok tk_MRm_go rfl
theorem d_MRm_go_37 : decode MRm_go.2.2.1 37 = .ok (.i2l, 1) := lkT_ok tk_MRm_go rfl
theorem d_MRm_go_38 : decode MRm_go.2.2.1 38 = .ok (.lmul, 1) := lkT_ok tk_MRm_go rfl
theorem d_MRm_go_39 : decode MRm_go.2.2.1 39 = .ok (.ldc2_w 281, 3) := lkT_ok tk_MRm_go rfl
theorem d_MRm_go_42 : decode MRm_go.2.2.1 42 = .ok (.ldiv, 1) := lkT_ok tk_MRm_go rfl
theorem d_MRm_go_43 : decode MRm_go.2.2.1 43 = .ok (.lstore 7, 2) := lkT_ok tk_MRm_go rfl
theorem d_MRm_go_45 : decode MRm_go.2.2.1 45 = .ok (.lload 7, 2) := lkT_ok tk_MRm_go rfl
theorem d_MRm_go_47 : decode MRm_go.2.2.1 47 = .ok (.aload_n 0, 1) := lkT_ok tk_MRm_go rfl
theorem d_MRm_go_48 : decode MRm_go.2.2.1 48 = .ok (.getfield 260, 3) := lkT_ok tk_MRm_go rfl
theorem d_MRm_go_51 : decode MRm_go.2.2.1 51 = .ok (.invokestatic 167, 3) := lkT_ok tk_MRm_go rfl
theorem d_MRm_go_54 : decode MRm_go.2.2.1 54 = .ok (.i2l, 1) := lkT_ok tk_MRm_go rfl
theorem d_MRm_go_55 : decode MRm_go.2.2.1 55 = .ok (.lcmp, 1) := lkT_ok tk_MRm_go rfl
theorem d_MRm_go_56 : decode MRm_go.2.2.1 56 = .ok (.ifCond .ge 9, 3) := lkT_ok tk_MRm_go rfl
theorem d_MRm_go_59 : decode MRm_go.2.2.1 59 = .ok (.lload 7, 2) := lkT_ok tk_MRm_go rfl
theorem d_MRm_go_61 : decode MRm_go.2.2.1 61 = .ok (.l2i, 1) := lkT_ok tk_MRm_go rfl
theorem d_MRm_go_62 : decode MRm_go.2.2.1 62 = .ok (.goto 10, 3) := lkT_ok tk_MRm_go rfl
theorem d_MRm_go_65 : decode MRm_go.2.2.1 65 = .ok (.aload_n 0, 1) := lkT_ok tk_MRm_go rfl
theorem d_MRm_go_66 : decode MRm_go.2.2.1 66 = .ok (.getfield 260, 3) := lkT_ok tk_MRm_go rfl
theorem d_MRm_go_69 : decode MRm_go.2.2.1 69 = .ok (.invokestatic 167, 3) := lkT_ok tk_MRm_go rfl
theorem d_MRm_go_72 : decode MRm_go.2.2.1 72 = .ok (.istore 9, 2) := lkT_ok tk_MRm_go rfl
theorem d_MRm_go_74 : decode MRm_go.2.2.1 74 = .ok (.aload_n 0, 1) := lkT_ok tk_MRm_go rfl
theorem d_MRm_go_75 : decode MRm_go.2.2.1 75 = .ok (.aload_n 0, 1) := lkT_ok tk_MRm_go rfl
theorem d_MRm_go_76 : decode MRm_go.2.2.1 76 = .ok (.getfield 263, 3) := lkT_ok tk_MRm_go rfl
theorem d_MRm_go_79 : decode MRm_go.2.2.1 79 = .ok (.iload 9, 2) := lkT_ok tk_MRm_go rfl
theorem d_MRm_go_81 : decode MRm_go.2.2.1 81 = .ok (.iadd, 1) := lkT_ok tk_MRm_go rfl
theorem d_MRm_go_82 : decode MRm_go.2.2.1 82 = .ok (.iconst 0, 1) := lkT_ok tk_MRm_go rfl
theorem d_MRm_go_83 : decode MRm_go.2.2.1 83 = .ok (.sipush 9999, 3) := lkT_ok tk_MRm_go rfl
theorem d_MRm_go_86 : decode MRm_go.2.2.1 86 = .ok (.invokestatic 170, 3) := lkT_ok tk_MRm_go rfl
theorem d_MRm_go_89 : decode MRm_go.2.2.1 89 = .ok (.putfield 263, 3) := lkT_ok tk_MRm_go rfl
theorem d_MRm_go_92 : decode MRm_go.2.2.1 92 = .ok (.aload_n 0, 1) := lkT_ok tk_MRm_go rfl
theorem d_MRm_go_93 : decode MRm_go.2.2.1 93 = .ok (.dup, 1) := lkT_ok tk_MRm_go rfl
theorem d_MRm_go_94 : decode MRm_go.2.2.1 94 = .ok (.getfield 260, 3) := lkT_ok tk_MRm_go rfl
theorem d_MRm_go_97 : decode MRm_go.2.2.1 97 = .ok (.aload_n 0, 1) := lkT_ok tk_MRm_go rfl
theorem d_MRm_go_98 : decode MRm_go.2.2.1 98 = .ok (.getfield 260, 3) := lkT_ok tk_MRm_go rfl
theorem d_MRm_go_101 : decode MRm_go.2.2.1 101 = .ok (.ifCond .le 9, 3) := lkT_ok tk_MRm_go rfl
theorem d_MRm_go_104 : decode MRm_go.2.2.1 104 = .ok (.iload 9, 2) := lkT_ok tk_MRm_go rfl
theorem d_MRm_go_106 : decode MRm_go.2.2.1 106 = .ok (.ineg, 1) := lkT_ok tk_MRm_go rfl
theorem d_MRm_go_107 : decode MRm_go.2.2.1 107 = .ok (.goto 5, 3) := lkT_ok tk_MRm_go rfl
theorem d_MRm_go_110 : decode MRm_go.2.2.1 110 = .ok (.iload 9, 2) := lkT_ok tk_MRm_go rfl
theorem d_MRm_go_112 : decode MRm_go.2.2.1 112 = .ok (.iadd, 1) := lkT_ok tk_MRm_go rfl
theorem d_MRm_go_113 : decode MRm_go.2.2.1 113 = .ok (.putfield 260, 3) := lkT_ok tk_MRm_go rfl
theorem d_MRm_go_116 : decode MRm_go.2.2.1 116 = .ok (.goto 106, 3) := lkT_ok tk_MRm_go rfl
theorem d_MRm_go_119 : decode MRm_go.2.2.1 119 = .ok (.iload 5, 2) := lkT_ok tk_MRm_go rfl
theorem d_MRm_go_121 : decode MRm_go.2.2.1 121 = .ok (.ifCond .ge 101, 3) := lkT_ok tk_MRm_go rfl
theorem d_MRm_go_124 : decode MRm_go.2.2.1 124 = .ok (.aload_n 0, 1) := lkT_ok tk_MRm_go rfl
theorem d_MRm_go_125 : decode MRm_go.2.2.1 125 = .ok (.getfield 266, 3) := lkT_ok tk_MRm_go rfl
theorem d_MRm_go_128 : decode MRm_go.2.2.1 128 = .ok (.i2l, 1) := lkT_ok tk_MRm_go rfl
theorem d_MRm_go_129 : decode MRm_go.2.2.1 129 = .ok (.iload 6, 2) := lkT_ok tk_MRm_go rfl
theorem d_MRm_go_131 : decode MRm_go.2.2.1 131 = .ok (.i2l, 1) := lkT_ok tk_MRm_go rfl
theorem d_MRm_go_132 : decode MRm_go.2.2.1 132 = .ok (.lmul, 1) := lkT_ok tk_MRm_go rfl
theorem d_MRm_go_133 : decode MRm_go.2.2.1 133 = .ok (.aload_n 0, 1) := lkT_ok tk_MRm_go rfl
theorem d_MRm_go_134 : decode MRm_go.2.2.1 134 = .ok (.getfield 26, 3) := lkT_ok tk_MRm_go rfl
theorem d_MRm_go_137 : decode MRm_go.2.2.1 137 = .ok (.iconst 4, 1) := lkT_ok tk_MRm_go rfl
theorem d_MRm_go_138 : decode MRm_go.2.2.1 138 = .ok (.iload_n 1, 1) := lkT_ok tk_MRm_go rfl
theorem d_MRm_go_139 : decode MRm_go.2.2.1 139 = .ok (.imul, 1) := lkT_ok tk_MRm_go rfl
theorem d_MRm_go_140 : decode MRm_go.2.2.1 140 = .ok (.iconst 1, 1) := lkT_ok tk_MRm_go rfl
theorem d_MRm_go_141 : decode MRm_go.2.2.1 141 = .ok (.iadd, 1) := lkT_ok tk_MRm_go rfl
theorem d_MRm_go_142 : decode MRm_go.2.2.1 142 = .ok (.iaload, 1) := lkT_ok tk_MRm_go rfl
theorem d_MRm_go_143 : decode MRm_go.2.2.1 143 = .ok (.i2l, 1) := lkT_ok tk_MRm_go rfl
theorem d_MRm_go_144 : decode MRm_go.2.2.1 144 = .ok (.lmul, 1) := lkT_ok tk_MRm_go rfl
theorem d_MRm_go_145 : decode MRm_go.2.2.1 145 = .ok (.ldc2_w 281, 3) := lkT_ok tk_MRm_go rfl
theorem d_MRm_go_148 : decode MRm_go.2.2.1 148 = .ok (.ldiv, 1) := lkT_ok tk_MRm_go rfl
theorem d_MRm_go_149 : decode MRm_go.2.2.1 149 = .ok (.lstore 7, 2) := lkT_ok tk_MRm_go rfl
theorem d_MRm_go_151 : decode MRm_go.2.2.1 151 = .ok (.lload 7, 2) := lkT_ok tk_MRm_go rfl
theorem d_MRm_go_153 : decode MRm_go.2.2.1 153 = .ok (.aload_n 0, 1) := lkT_ok tk_MRm_go rfl
theorem d_MRm_go_154 : decode MRm_go.2.2.1 154 = .ok (.getfield 260, 3) := lkT_ok tk_MRm_go rfl
theorem d_MRm_go_157 : decode MRm_go.2.2.1 157 = .ok (.invokestatic 167, 3) := lkT_ok tk_MRm_go rfl
theorem d_MRm_go_160 : decode MRm_go.2.2.1 160 = .ok (.i2l, 1) := lkT_ok tk_MRm_go rfl
theorem d_MRm_go_161 : decode MRm_go.2.2.1 161 = .ok (.lcmp, 1) := lkT_ok tk_MRm_go rfl
theorem d_MRm_go_162 : decode MRm_go.2.2.1 162 = .ok (.ifCond .ge 9, 3) := lkT_ok tk_MRm_go rfl
theorem d_MRm_go_165 : decode MRm_go.2.2.1 165 = .ok (.lload 7, 2) := lkT_ok tk_MRm_go rfl
theorem d_MRm_go_167 : decode MRm_go.2.2.1 167 = .ok (.l2i, 1) := lkT_ok tk_MRm_go rfl
theorem d_MRm_go_168 : decode MRm_go.2.2.1 168 = .ok (.goto 10, 3) := lkT_ok tk_MRm_go rfl
theorem d_MRm_go_171 : decode MRm_go.2.2.1 171 = .ok (.aload_n 0, 1) := lkT_ok tk_MRm_go rfl
theorem d_MRm_go_172 : decode MRm_go.2.2.1 172 = .ok (.getfield 260, 3) := lkT_ok tk_MRm_go rfl
theorem d_MRm_go_175 : decode MRm_go.2.2.1 175 = .ok (.invokestatic 167, 3) := lkT_ok tk_MRm_go rfl
theorem d_MRm_go_178 : decode MRm_go.2.2.1 178 = .ok (.istore 9, 2) := lkT_ok tk_MRm_go rfl
theorem d_MRm_go_180 : decode MRm_go.2.2.1 180 = .ok (.aload_n 0, 1) := lkT_ok tk_MRm_go rfl
theorem d_MRm_go_181 : decode MRm_go.2.2.1 181 = .ok (.aload_n 0, 1) := lkT_ok tk_MRm_go rfl
theorem d_MRm_go_182 : decode MRm_go.2.2.1 182 = .ok (.getfield 266, 3) := lkT_ok tk_MRm_go rfl
theorem d_MRm_go_185 : decode MRm_go.2.2.1 185 = .ok (.iload 9, 2) := lkT_ok tk_MRm_go rfl
theorem d_MRm_go_187 : decode MRm_go.2.2.1 187 = .ok (.iadd, 1) := lkT_ok tk_MRm_go rfl
theorem d_MRm_go_188 : decode MRm_go.2.2.1 188 = .ok (.iconst 0, 1) := lkT_ok tk_MRm_go rfl
theorem d_MRm_go_189 : decode MRm_go.2.2.1 189 = .ok (.sipush 9999, 3) := lkT_ok tk_MRm_go rfl
theorem d_MRm_go_192 : decode MRm_go.2.2.1 192 = .ok (.invokestatic 170, 3) := lkT_ok tk_MRm_go rfl
theorem d_MRm_go_195 : decode MRm_go.2.2.1 195 = .ok (.putfield 266, 3) := lkT_ok tk_MRm_go rfl
theorem d_MRm_go_198 : decode MRm_go.2.2.1 198 = .ok (.aload_n 0, 1) := lkT_ok tk_MRm_go rfl
theorem d_MRm_go_199 : decode MRm_go.2.2.1 199 = .ok (.dup, 1) := lkT_ok tk_MRm_go rfl
theorem d_MRm_go_200 : decode MRm_go.2.2.1 200 = .ok (.getfield 260, 3) := lkT_ok tk_MRm_go rfl
theorem d_MRm_go_203 : decode MRm_go.2.2.1 203 = .ok (.aload_n 0, 1) := lkT_ok tk_MRm_go rfl
theorem d_MRm_go_204 : decode MRm_go.2.2.1 204 = .ok (.getfield 260, 3) := lkT_ok tk_MRm_go rfl
theorem d_MRm_go_207 : decode MRm_go.2.2.1 207 = .ok (.ifCond .le 9, 3) := lkT_ok tk_MRm_go rfl
theorem d_MRm_go_210 : decode MRm_go.2.2.1 210 = .ok (.iload 9, 2) := lkT_ok tk_MRm_go rfl
theorem d_MRm_go_212 : decode MRm_go.2.2.1 212 = .ok (.ineg, 1) := lkT_ok tk_MRm_go rfl
theorem d_MRm_go_213 : decode MRm_go.2.2.1 213 = .ok (.goto 5, 3) := lkT_ok tk_MRm_go rfl
theorem d_MRm_go_216 : decode MRm_go.2.2.1 216 = .ok (.iload 9, 2) := lkT_ok tk_MRm_go rfl
theorem d_MRm_go_218 : decode MRm_go.2.2.1 218 = .ok (.iadd, 1) := lkT_ok tk_MRm_go rfl
theorem d_MRm_go_219 : decode MRm_go.2.2.1 219 = .ok (.putfield 260, 3) := lkT_ok tk_MRm_go rfl
theorem d_MRm_go_222 : decode MRm_go.2.2.1 222 = .ok (.iload_n 2, 1) := lkT_ok tk_MRm_go rfl
theorem d_MRm_go_223 : decode MRm_go.2.2.1 223 = .ok (.ifCond .eq 133, 3) := lkT_ok tk_MRm_go rfl
theorem d_MRm_go_226 : decode MRm_go.2.2.1 226 = .ok (.aload_n 0, 1) := lkT_ok tk_MRm_go rfl
theorem d_MRm_go_227 : decode MRm_go.2.2.1 227 = .ok (.getfield 263, 3) := lkT_ok tk_MRm_go rfl
theorem d_MRm_go_230 : decode MRm_go.2.2.1 230 = .ok (.aload_n 0, 1) := lkT_ok tk_MRm_go rfl
theorem d_MRm_go_231 : decode MRm_go.2.2.1 231 = .ok (.getfield 26, 3) := lkT_ok tk_MRm_go rfl
theorem d_MRm_go_234 : decode MRm_go.2.2.1 234 = .ok (.iconst 4, 1) := lkT_ok tk_MRm_go rfl
theorem d_MRm_go_235 : decode MRm_go.2.2.1 235 = .ok (.iload_n 1, 1) := lkT_ok tk_MRm_go rfl
theorem d_MRm_go_236 : decode MRm_go.2.2.1 236 = .ok (.imul, 1) := lkT_ok tk_MRm_go rfl
theorem d_MRm_go_237 : decode MRm_go.2.2.1 237 = .ok (.iconst 2, 1) := lkT_ok tk_MRm_go rfl
theorem d_MRm_go_238 : decode MRm_go.2.2.1 238 = .ok (.iadd, 1) := lkT_ok tk_MRm_go rfl
theorem d_MRm_go_239 : decode MRm_go.2.2.1 239 = .ok (.iaload, 1) := lkT_ok tk_MRm_go rfl
theorem d_MRm_go_240 : decode MRm_go.2.2.1 240 = .ok (.imul, 1) := lkT_ok tk_MRm_go rfl
theorem d_MRm_go_241 : decode MRm_go.2.2.1 241 = .ok (.bipush 100, 2) := lkT_ok tk_MRm_go rfl
theorem d_MRm_go_243 : decode MRm_go.2.2.1 243 = .ok (.idiv, 1) := lkT_ok tk_MRm_go rfl
theorem d_MRm_go_244 : decode MRm_go.2.2.1 244 = .ok (.istore 7, 2) := lkT_ok tk_MRm_go rfl
theorem d_MRm_go_246 : decode MRm_go.2.2.1 246 = .ok (.aload_n 0, 1) := lkT_ok tk_MRm_go rfl
theorem d_MRm_go_247 : decode MRm_go.2.2.1 247 = .ok (.dup, 1) := lkT_ok tk_MRm_go rfl
theorem d_MRm_go_248 : decode MRm_go.2.2.1 248 = .ok (.getfield 263, 3) := lkT_ok tk_MRm_go rfl
theorem d_MRm_go_251 : decode MRm_go.2.2.1 251 = .ok (.iload 7, 2) := lkT_ok tk_MRm_go rfl
theorem d_MRm_go_253 : decode MRm_go.2.2.1 253 = .ok (.isub, 1) := lkT_ok tk_MRm_go rfl
theorem d_MRm_go_254 : decode MRm_go.2.2.1 254 = .ok (.putfield 263, 3) := lkT_ok tk_MRm_go rfl
theorem d_MRm_go_257 : decode MRm_go.2.2.1 257 = .ok (.aload_n 0, 1) := lkT_ok tk_MRm_go rfl
theorem d_MRm_go_258 : decode MRm_go.2.2.1 258 = .ok (.iload_n 2, 1) := lkT_ok tk_MRm_go rfl
theorem d_MRm_go_259 : decode MRm_go.2.2.1 259 = .ok (.ifCond .le 13, 3) := lkT_ok tk_MRm_go rfl
theorem d_MRm_go_262 : decode MRm_go.2.2.1 262 = .ok (.aload_n 0, 1) := lkT_ok tk_MRm_go rfl
theorem d_MRm_go_263 : decode MRm_go.2.2.1 263 = .ok (.getfield 260, 3) := lkT_ok tk_MRm_go rfl
theorem d_MRm_go_266 : decode MRm_go.2.2.1 266 = .ok (.iload 7, 2) := lkT_ok tk_MRm_go rfl
theorem d_MRm_go_268 : decode MRm_go.2.2.1 268 = .ok (.isub, 1) := lkT_ok tk_MRm_go rfl
theorem d_MRm_go_269 : decode MRm_go.2.2.1 269 = .ok (.goto 10, 3) := lkT_ok tk_MRm_go rfl
theorem d_MRm_go_272 : decode MRm_go.2.2.1 272 = .ok (.aload_n 0, 1) := lkT_ok tk_MRm_go rfl
theorem d_MRm_go_273 : decode MRm_go.2.2.1 273 = .ok (.getfield 260, 3) := lkT_ok tk_MRm_go rfl
theorem d_MRm_go_276 : decode MRm_go.2.2.1 276 = .ok (.iload 7, 2) := lkT_ok tk_MRm_go rfl
theorem d_MRm_go_278 : decode MRm_go.2.2.1 278 = .ok (.iadd, 1) := lkT_ok tk_MRm_go rfl
theorem d_MRm_go_279 : decode MRm_go.2.2.1 279 = .ok (.sipush (-9999), 3) := lkT_ok tk_MRm_go rfl
theorem d_MRm_go_282 : decode MRm_go.2.2.1 282 = .ok (.sipush 9999, 3) := lkT_ok tk_MRm_go rfl
theorem d_MRm_go_285 : decode MRm_go.2.2.1 285 = .ok (.invokestatic 170, 3) := lkT_ok tk_MRm_go rfl
theorem d_MRm_go_288 : decode MRm_go.2.2.1 288 = .ok (.putfield 260, 3) := lkT_ok tk_MRm_go rfl
theorem d_MRm_go_291 : decode MRm_go.2.2.1 291 = .ok (.aload_n 0, 1) := lkT_ok tk_MRm_go rfl
theorem d_MRm_go_292 : decode MRm_go.2.2.1 292 = .ok (.getfield 266, 3) := lkT_ok tk_MRm_go rfl
theorem d_MRm_go_295 : decode MRm_go.2.2.1 295 = .ok (.aload_n 0, 1) := lkT_ok tk_MRm_go rfl
theorem d_MRm_go_296 : decode MRm_go.2.2.1 296 = .ok (.getfield 26, 3) := lkT_ok tk_MRm_go rfl
theorem d_MRm_go_299 : decode MRm_go.2.2.1 299 = .ok (.iconst 4, 1) := lkT_ok tk_MRm_go rfl
theorem d_MRm_go_300 : decode MRm_go.2.2.1 300 = .ok (.iload_n 1, 1) := lkT_ok tk_MRm_go rfl
theorem d_MRm_go_301 : decode MRm_go.2.2.1 301 = .ok (.imul, 1) := lkT_ok tk_MRm_go rfl
theorem d_MRm_go_302 : decode MRm_go.2.2.1 302 = .ok (.iconst 3, 1) := lkT_ok tk_MRm_go rfl
theorem d_MRm_go_303 : decode MRm_go.2.2.1 303 = .ok (.iadd, 1) := lkT_ok tk_MRm_go rfl
theorem d_MRm_go_304 : decode MRm_go.2.2.1 304 = .ok (.iaload, 1) := lkT_ok tk_MRm_go rfl
theorem d_MRm_go_305 : decode MRm_go.2.2.1 305 = .ok (.imul, 1) := lkT_ok tk_MRm_go rfl
theorem d_MRm_go_306 : decode MRm_go.2.2.1 306 = .ok (.bipush 100, 2) := lkT_ok tk_MRm_go rfl
theorem d_MRm_go_308 : decode MRm_go.2.2.1 308 = .ok (.idiv, 1) := lkT_ok tk_MRm_go rfl
theorem d_MRm_go_309 : decode MRm_go.2.2.1 309 = .ok (.istore 8, 2) := lkT_ok tk_MRm_go rfl
theorem d_MRm_go_311 : decode MRm_go.2.2.1 311 = .ok (.aload_n 0, 1) := lkT_ok tk_MRm_go rfl
theorem d_MRm_go_312 : decode MRm_go.2.2.1 312 = .ok (.dup, 1) := lkT_ok tk_MRm_go rfl
theorem d_MRm_go_313 : decode MRm_go.2.2.1 313 = .ok (.getfield 266, 3) := lkT_ok tk_MRm_go rfl
theorem d_MRm_go_316 : decode MRm_go.2.2.1 316 = .ok (.iload 8, 2) := lkT_ok tk_MRm_go rfl
theorem d_MRm_go_318 : decode MRm_go.2.2.1 318 = .ok (.isub, 1) := lkT_ok tk_MRm_go rfl
theorem d_MRm_go_319 : decode MRm_go.2.2.1 319 = .ok (.putfield 266, 3) := lkT_ok tk_MRm_go rfl
theorem d_MRm_go_322 : decode MRm_go.2.2.1 322 = .ok (.aload_n 0, 1) := lkT_ok tk_MRm_go rfl
theorem d_MRm_go_323 : decode MRm_go.2.2.1 323 = .ok (.iload_n 2, 1) := lkT_ok tk_MRm_go rfl
theorem d_MRm_go_324 : decode MRm_go.2.2.1 324 = .ok (.ifCond .le 13, 3) := lkT_ok tk_MRm_go rfl
theorem d_MRm_go_327 : decode MRm_go.2.2.1 327 = .ok (.aload_n 0, 1) := lkT_ok tk_MRm_go rfl
theorem d_MRm_go_328 : decode MRm_go.2.2.1 328 = .ok (.getfield 260, 3) := lkT_ok tk_MRm_go rfl
theorem d_MRm_go_331 : decode MRm_go.2.2.1 331 = .ok (.iload 8, 2) := lkT_ok tk_MRm_go rfl
theorem d_MRm_go_333 : decode MRm_go.2.2.1 333 = .ok (.iadd, 1) := lkT_ok tk_MRm_go rfl
theorem d_MRm_go_334 : decode MRm_go.2.2.1 334 = .ok (.goto 10, 3) := lkT_ok tk_MRm_go rfl
theorem d_MRm_go_337 : decode MRm_go.2.2.1 337 = .ok (.aload_n 0, 1) := lkT_ok tk_MRm_go rfl
theorem d_MRm_go_338 : decode MRm_go.2.2.1 338 = .ok (.getfield 260, 3) := lkT_ok tk_MRm_go rfl
theorem d_MRm_go_341 : decode MRm_go.2.2.1 341 = .ok (.iload 8, 2) := lkT_ok tk_MRm_go rfl
theorem d_MRm_go_343 : decode MRm_go.2.2.1 343 = .ok (.isub, 1) := lkT_ok tk_MRm_go rfl
theorem d_MRm_go_344 : decode MRm_go.2.2.1 344 = .ok (.sipush (-9999), 3) := lkT_ok tk_MRm_go rfl
theorem d_MRm_go_347 : decode MRm_go.2.2.1 347 = .ok (.sipush 9999, 3) := lkT_ok tk_MRm_go rfl
theorem d_MRm_go_350 : decode MRm_go.2.2.1 350 = .ok (.invokestatic 170, 3) := lkT_ok tk_MRm_go rfl
theorem d_MRm_go_353 : decode MRm_go.2.2.1 353 = .ok (.putfield 260, 3) := lkT_ok tk_MRm_go rfl
theorem d_MRm_go_356 : decode MRm_go.2.2.1 356 = .ok (.aload_n 0, 1) := lkT_ok tk_MRm_go rfl
theorem d_MRm_go_357 : decode MRm_go.2.2.1 357 = .ok (.iload_n 3, 1) := lkT_ok tk_MRm_go rfl
theorem d_MRm_go_358 : decode MRm_go.2.2.1 358 = .ok (.iconst 0, 1) := lkT_ok tk_MRm_go rfl
theorem d_MRm_go_359 : decode MRm_go.2.2.1 359 = .ok (.aload_n 0, 1) := lkT_ok tk_MRm_go rfl
theorem d_MRm_go_360 : decode MRm_go.2.2.1 360 = .ok (.getfield 260, 3) := lkT_ok tk_MRm_go rfl
theorem d_MRm_go_363 : decode MRm_go.2.2.1 363 = .ok (.invokestatic 167, 3) := lkT_ok tk_MRm_go rfl
theorem d_MRm_go_366 : decode MRm_go.2.2.1 366 = .ok (.iload 4, 2) := lkT_ok tk_MRm_go rfl
theorem d_MRm_go_368 : decode MRm_go.2.2.1 368 = .ok (.invokevirtual 283, 3) := lkT_ok tk_MRm_go rfl
theorem d_MRm_go_371 : decode MRm_go.2.2.1 371 = .ok (.istore 7, 2) := lkT_ok tk_MRm_go rfl
theorem d_MRm_go_373 : decode MRm_go.2.2.1 373 = .ok (.aload_n 0, 1) := lkT_ok tk_MRm_go rfl
theorem d_MRm_go_374 : decode MRm_go.2.2.1 374 = .ok (.iload_n 3, 1) := lkT_ok tk_MRm_go rfl
theorem d_MRm_go_375 : decode MRm_go.2.2.1 375 = .ok (.iconst 1, 1) := lkT_ok tk_MRm_go rfl
theorem d_MRm_go_376 : decode MRm_go.2.2.1 376 = .ok (.aload_n 0, 1) := lkT_ok tk_MRm_go rfl
theorem d_MRm_go_377 : decode MRm_go.2.2.1 377 = .ok (.getfield 263, 3) := lkT_ok tk_MRm_go rfl
theorem d_MRm_go_380 : decode MRm_go.2.2.1 380 = .ok (.iload 4, 2) := lkT_ok tk_MRm_go rfl
theorem d_MRm_go_382 : decode MRm_go.2.2.1 382 = .ok (.invokevirtual 283, 3) := lkT_ok tk_MRm_go rfl
theorem d_MRm_go_385 : decode MRm_go.2.2.1 385 = .ok (.istore 8, 2) := lkT_ok tk_MRm_go rfl
theorem d_MRm_go_387 : decode MRm_go.2.2.1 387 = .ok (.aload_n 0, 1) := lkT_ok tk_MRm_go rfl
theorem d_MRm_go_388 : decode MRm_go.2.2.1 388 = .ok (.iload_n 3, 1) := lkT_ok tk_MRm_go rfl
theorem d_MRm_go_389 : decode MRm_go.2.2.1 389 = .ok (.iconst 2, 1) := lkT_ok tk_MRm_go rfl
theorem d_MRm_go_390 : decode MRm_go.2.2.1 390 = .ok (.aload_n 0, 1) := lkT_ok tk_MRm_go rfl
theorem d_MRm_go_391 : decode MRm_go.2.2.1 391 = .ok (.getfield 266, 3) := lkT_ok tk_MRm_go rfl
theorem d_MRm_go_394 : decode MRm_go.2.2.1 394 = .ok (.iload 4, 2) := lkT_ok tk_MRm_go rfl
theorem d_MRm_go_396 : decode MRm_go.2.2.1 396 = .ok (.invokevirtual 283, 3) := lkT_ok tk_MRm_go rfl
theorem d_MRm_go_399 : decode MRm_go.2.2.1 399 = .ok (.istore 9, 2) := lkT_ok tk_MRm_go rfl
theorem d_MRm_go_401 : decode MRm_go.2.2.1 401 = .ok (.aload_n 0, 1) := lkT_ok tk_MRm_go rfl
theorem d_MRm_go_402 : decode MRm_go.2.2.1 402 = .ok (.dup, 1) := lkT_ok tk_MRm_go rfl
theorem d_MRm_go_403 : decode MRm_go.2.2.1 403 = .ok (.getfield 260, 3) := lkT_ok tk_MRm_go rfl
theorem d_MRm_go_406 : decode MRm_go.2.2.1 406 = .ok (.aload_n 0, 1) := lkT_ok tk_MRm_go rfl
theorem d_MRm_go_407 : decode MRm_go.2.2.1 407 = .ok (.getfield 260, 3) := lkT_ok tk_MRm_go rfl
theorem d_MRm_go_410 : decode MRm_go.2.2.1 410 = .ok (.ifCond .le 9, 3) := lkT_ok tk_MRm_go rfl
theorem d_MRm_go_413 : decode MRm_go.2.2.1 413 = .ok (.iload 7, 2) := lkT_ok tk_MRm_go rfl
theorem d_MRm_go_415 : decode MRm_go.2.2.1 415 = .ok (.ineg, 1) := lkT_ok tk_MRm_go rfl
theorem d_MRm_go_416 : decode MRm_go.2.2.1 416 = .ok (.goto 5, 3) := lkT_ok tk_MRm_go rfl
theorem d_MRm_go_419 : decode MRm_go.2.2.1 419 = .ok (.iload 7, 2) := lkT_ok tk_MRm_go rfl
theorem d_MRm_go_421 : decode MRm_go.2.2.1 421 = .ok (.iadd, 1) := lkT_ok tk_MRm_go rfl
theorem d_MRm_go_422 : decode MRm_go.2.2.1 422 = .ok (.putfield 260, 3) := lkT_ok tk_MRm_go rfl
theorem d_MRm_go_425 : decode MRm_go.2.2.1 425 = .ok (.aload_n 0, 1) := lkT_ok tk_MRm_go rfl
theorem d_MRm_go_426 : decode MRm_go.2.2.1 426 = .ok (.dup, 1) := lkT_ok tk_MRm_go rfl
theorem d_MRm_go_427 : decode MRm_go.2.2.1 427 = .ok (.getfield 263, 3) := lkT_ok tk_MRm_go rfl
theorem d_MRm_go_430 : decode MRm_go.2.2.1 430 = .ok (.iload 8, 2) := lkT_ok tk_MRm_go rfl
theorem d_MRm_go_432 : decode MRm_go.2.2.1 432 = .ok (.isub, 1) := lkT_ok tk_MRm_go rfl
theorem d_MRm_go_433 : decode MRm_go.2.2.1 433 = .ok (.putfield 263, 3) := lkT_ok tk_MRm_go rfl
theorem d_MRm_go_436 : decode MRm_go.2.2.1 436 = .ok (.aload_n 0, 1) := lkT_ok tk_MRm_go rfl
theorem d_MRm_go_437 : decode MRm_go.2.2.1 437 = .ok (.dup, 1) := lkT_ok tk_MRm_go rfl
theorem d_MRm_go_438 : decode MRm_go.2.2.1 438 = .ok (.getfield 266, 3) := lkT_ok tk_MRm_go rfl
theorem d_MRm_go_441 : decode MRm_go.2.2.1 441 = .ok (.iload 9, 2) := lkT_ok tk_MRm_go rfl
theorem d_MRm_go_443 : decode MRm_go.2.2.1 443 = .ok (.isub, 1) := lkT_ok tk_MRm_go rfl
theorem d_MRm_go_444 : decode MRm_go.2.2.1 444 = .ok (.putfield 266, 3) := lkT_ok tk_MRm_go rfl
theorem d_MRm_go_447 : decode MRm_go.2.2.1 447 = .ok (.aload_n 0, 1) := lkT_ok tk_MRm_go rfl
theorem d_MRm_go_448 : decode MRm_go.2.2.1 448 = .ok (.dup, 1) := lkT_ok tk_MRm_go rfl
theorem d_MRm_go_449 : decode MRm_go.2.2.1 449 = .ok (.getfield 269, 3) := lkT_ok tk_MRm_go rfl
theorem d_MRm_go_452 : decode MRm_go.2.2.1 452 = .ok (.iload 7, 2) := lkT_ok tk_MRm_go rfl
theorem d_MRm_go_454 : decode MRm_go.2.2.1 454 = .ok (.iadd, 1) := lkT_ok tk_MRm_go rfl
theorem d_MRm_go_455 : decode MRm_go.2.2.1 455 = .ok (.putfield 269, 3) := lkT_ok tk_MRm_go rfl
theorem d_MRm_go_458 : decode MRm_go.2.2.1 458 = .ok (.aload_n 0, 1) := lkT_ok tk_MRm_go rfl
theorem d_MRm_go_459 : decode MRm_go.2.2.1 459 = .ok (.dup, 1) := lkT_ok tk_MRm_go rfl
theorem d_MRm_go_460 : decode MRm_go.2.2.1 460 = .ok (.getfield 272, 3) := lkT_ok tk_MRm_go rfl
theorem d_MRm_go_463 : decode MRm_go.2.2.1 463 = .ok (.iload 8, 2) := lkT_ok tk_MRm_go rfl
theorem d_MRm_go_465 : decode MRm_go.2.2.1 465 = .ok (.iadd, 1) := lkT_ok tk_MRm_go rfl
theorem d_MRm_go_466 : decode MRm_go.2.2.1 466 = .ok (.putfield 272, 3) := lkT_ok tk_MRm_go rfl
theorem d_MRm_go_469 : decode MRm_go.2.2.1 469 = .ok (.aload_n 0, 1) := lkT_ok tk_MRm_go rfl
theorem d_MRm_go_470 : decode MRm_go.2.2.1 470 = .ok (.dup, 1) := lkT_ok tk_MRm_go rfl
theorem d_MRm_go_471 : decode MRm_go.2.2.1 471 = .ok (.getfield 275, 3) := lkT_ok tk_MRm_go rfl
theorem d_MRm_go_474 : decode MRm_go.2.2.1 474 = .ok (.iload 9, 2) := lkT_ok tk_MRm_go rfl
theorem d_MRm_go_476 : decode MRm_go.2.2.1 476 = .ok (.iadd, 1) := lkT_ok tk_MRm_go rfl
theorem d_MRm_go_477 : decode MRm_go.2.2.1 477 = .ok (.putfield 275, 3) := lkT_ok tk_MRm_go rfl
theorem d_MRm_go_480 : decode MRm_go.2.2.1 480 = .ok (.return_, 1) := lkT_ok tk_MRm_go rfl
theorem r_MRm_go_0 {l1 l2 l3 l4 l5 l6 l7 l8 l9 : Value} {x : Nat} : Rr X d MRm_go 0 [.ref x, l1, l2, l3, l4, l5, l6, l7, l8, l9] st h = Rr X d MRm_go 1 [.ref x, l1, l2, l3, l4, l5, l6, l7, l8, l9] (.ref x :: st) h := Rr_nx d_MRm_go_0 rfl
theorem r_MRm_go_1 {a : Nat} (hq : qI a 10 30 = true) : Rr X d MRm_go 1 L (.ref a :: st) (Wd mu la ro et) = Rr X d MRm_go 4 L (.int (mu a 30) :: st) (Wd mu la ro et) := R_gfI d_MRm_go_1 ff_10_260 hq
theorem r_MRm_go_4 {l0 l1 l3 l4 l5 l6 l7 l8 l9 : Value} {x : Int32} : Rr X d MRm_go 4 [l0, l1, .int x, l3, l4, l5, l6, l7, l8, l9] st h = Rr X d MRm_go 5 [l0, l1, .int x, l3, l4, l5, l6, l7, l8, l9] (.int x :: st) h := Rr_nx d_MRm_go_4 rfl
theorem r_MRm_go_5 {x y : Int32} : Rr X d MRm_go 5 L (.int y :: .int x :: st) h = Rr X d MRm_go 6 L (.int (x * y) :: st) h := Rr_nx d_MRm_go_5 rfl
theorem r_MRm_go_6 {l0 l1 l2 l3 l4 l5 l6 l7 l8 l9 : Value} {x : Int32} : Rr X d MRm_go 6 [l0, l1, l2, l3, l4, l5, l6, l7, l8, l9] (.int x :: st) h = Rr X d MRm_go 8 (sL [l0, l1, l2, l3, l4, l5, l6, l7, l8, l9] 5 (.int x)) st h := Rr_nx d_MRm_go_6 rfl
theorem r_MRm_go_8 {l0 l1 l2 l3 l4 l6 l7 l8 l9 : Value} {x : Int32} : Rr X d MRm_go 8 [l0, l1, l2, l3, l4, .int x, l6, l7, l8, l9] st h = Rr X d MRm_go 10 [l0, l1, l2, l3, l4, .int x, l6, l7, l8, l9] (.int x :: st) h := Rr_nx d_MRm_go_8 rfl
theorem r_MRm_go_10 {y0 : Int32} (hc : ckS st = true) : Rr X (d + 1) MRm_go 10 L (.int y0 :: st) h = (Rr X d MRm_sizeOf 0 [.int y0] [] h).bind fun q => Rr X (d + 1) MRm_go 13 L (psh q.1 st) q.2 := R_is (av := [.int y0]) d_MRm_go_10 (Or.inl fc_10_167) (ckS_le hc) rfl (Nat.le_of_ble_eq_true rfl) (Nat.le_of_ble_eq_true rfl)
theorem r_MRm_go_13 {l0 l1 l2 l3 l4 l5 l6 l7 l8 l9 : Value} {x : Int32} : Rr X d MRm_go 13 [l0, l1, l2, l3, l4, l5, l6, l7, l8, l9] (.int x :: st) h = Rr X d MRm_go 15 (sL [l0, l1, l2, l3, l4, l5, l6, l7, l8, l9] 6 (.int x)) st h := Rr_nx d_MRm_go_13 rfl
theorem r_MRm_go_15 {l0 l1 l2 l3 l4 l6 l7 l8 l9 : Value} {x : Int32} : Rr X d MRm_go 15 [l0, l1, l2, l3, l4, .int x, l6, l7, l8, l9] st h = Rr X d MRm_go 17 [l0, l1, l2, l3, l4, .int x, l6, l7, l8, l9] (.int x :: st) h := Rr_nx d_MRm_go_15 rfl
theorem r_MRm_go_17 {x : Int32} : Rr X d MRm_go 17 L (.int x :: st) h = if x ≤ 0 then Rr X d MRm_go 119 L st h else Rr X d MRm_go 20 L st h := R_if_le d_MRm_go_17 (by decide)
theorem r_MRm_go_20 {l1 l2 l3 l4 l5 l6 l7 l8 l9 : Value} {x : Nat} : Rr X d MRm_go 20 [.ref x, l1, l2, l3, l4, l5, l6, l7, l8, l9] st h = Rr X d MRm_go 21 [.ref x, l1, l2, l3, l4, l5, l6, l7, l8, l9] (.ref x :: st) h := Rr_nx d_MRm_go_20 rfl
theorem r_MRm_go_21 {a : Nat} (hq : qI a 10 31 = true) : Rr X d MRm_go 21 L (.ref a :: st) (Wd mu la ro et) = Rr X d MRm_go 24 L (.int (mu a 31) :: st) (Wd mu la ro et) := R_gfI d_MRm_go_21 ff_10_263 hq
theorem r_MRm_go_24 {x : Int32} : Rr X d MRm_go 24 L (.int x :: st) h = Rr X d MRm_go 25 L (.long x.toInt64 :: st) h := Rr_nx d_MRm_go_24 rfl
theorem r_MRm_go_25 {l0 l1 l2 l3 l4 l5 l7 l8 l9 : Value} {x : Int32} : Rr X d MRm_go 25 [l0, l1, l2, l3, l4, l5, .int x, l7, l8, l9] st h = Rr X d MRm_go 27 [l0, l1, l2, l3, l4, l5, .int x, l7, l8, l9] (.int x :: st) h := Rr_nx d_MRm_go_25 rfl
theorem r_MRm_go_27 {x : Int32} : Rr X d MRm_go 27 L (.int x :: st) h = Rr X d MRm_go 28 L (.long x.toInt64 :: st) h := Rr_nx d_MRm_go_27 rfl
theorem r_MRm_go_28 {x y : Int64} : Rr X d MRm_go 28 L (.long y :: .long x :: st) h = Rr X d MRm_go 29 L (.long (x * y) :: st) h := Rr_nx d_MRm_go_28 rfl
theorem r_MRm_go_29 {l1 l2 l3 l4 l5 l6 l7 l8 l9 : Value} {x : Nat} : Rr X d MRm_go 29 [.ref x, l1, l2, l3, l4, l5, l6, l7, l8, l9] st h = Rr X d MRm_go 30 [.ref x, l1, l2, l3, l4, l5, l6, l7, l8, l9] (.ref x :: st) h := Rr_nx d_MRm_go_29 rfl
theorem r_MRm_go_30 {a : Nat} (hq : (qR a 10 8).isSome = true) : Rr X d MRm_go 30 L (.ref a :: st) (Wd mu la ro et) = Rr X d MRm_go 33 L (.ref (qRd a 10 8) :: st) (Wd mu la ro et) := R_gfR d_MRm_go_30 ff_10_26 hq
theorem r_MRm_go_33 : Rr X d MRm_go 33 L st h = Rr X d MRm_go 34 L (.int (4) :: st) h := Rr_nx d_MRm_go_33 rfl
theorem r_MRm_go_34 {l0 l2 l3 l4 l5 l6 l7 l8 l9 : Value} {x : Int32} : Rr X d MRm_go 34 [l0, .int x, l2, l3, l4, l5, l6, l7, l8, l9] st h = Rr X d MRm_go 35 [l0, .int x, l2, l3, l4, l5, l6, l7, l8, l9] (.int x :: st) h := Rr_nx d_MRm_go_34 rfl
theorem r_MRm_go_35 {x y : Int32} : Rr X d MRm_go 35 L (.int y :: .int x :: st) h = Rr X d MRm_go 36 L (.int (x * y) :: st) h := Rr_nx d_MRm_go_35 rfl
theorem r_MRm_go_36 {a : Nat} {j : Int32} (hq : (qA a 0).isSome = true) : Rr X d MRm_go 36 L (.int j :: .ref a :: st) (Wd mu la ro et) = if j < 0 ∨ qAd a 0 ≤ j.toNatClampNeg then none else Rr X d MRm_go 37 L (.int (mu a j.toNatClampNeg) :: st) (Wd mu la ro et) := R_ialW d_MRm_go_36 hq
theorem r_MRm_go_37 {x : Int32} : Rr X d MRm_go 37 L (.int x :: st) h = Rr X d MRm_go 38 L (.long x.toInt64 :: st) h := Rr_nx d_MRm_go_37 rfl
theorem r_MRm_go_38 {x y : Int64} : Rr X d MRm_go 38 L (.long y :: .long x :: st) h = Rr X d MRm_go 39 L (.long (x * y) :: st) h := Rr_nx d_MRm_go_38 rfl
theorem r_MRm_go_39 : Rr X d MRm_go 39 L st h = Rr X d MRm_go 42 L (.long (1000000) :: st) h := Rr_nx d_MRm_go_39 rfl
theorem r_MRm_go_42 {x y : Int64} : Rr X d MRm_go 42 L (.long y :: .long x :: st) h = if y = 0 then none else Rr X d MRm_go 43 L (.long (x / y) :: st) h := R_ldv d_MRm_go_42
theorem r_MRm_go_43 {l0 l1 l2 l3 l4 l5 l6 l7 l8 l9 : Value} {x : Int64} : Rr X d MRm_go 43 [l0, l1, l2, l3, l4, l5, l6, l7, l8, l9] (.long x :: st) h = Rr X d MRm_go 45 ((sL [l0, l1, l2, l3, l4, l5, l6, l7, l8, l9] 7 (.long x)).set 8 mkU) st h := Rr_nx d_MRm_go_43 rfl
theorem r_MRm_go_45 {l0 l1 l2 l3 l4 l5 l6 l8 l9 : Value} {x : Int64} : Rr X d MRm_go 45 [l0, l1, l2, l3, l4, l5, l6, .long x, l8, l9] st h = Rr X d MRm_go 47 [l0, l1, l2, l3, l4, l5, l6, .long x, l8, l9] (.long x :: st) h := Rr_nx d_MRm_go_45 rfl
theorem r_MRm_go_47 {l1 l2 l3 l4 l5 l6 l7 l8 l9 : Value} {x : Nat} : Rr X d MRm_go 47 [.ref x, l1, l2, l3, l4, l5, l6, l7, l8, l9] st h = Rr X d MRm_go 48 [.ref x, l1, l2, l3, l4, l5, l6, l7, l8, l9] (.ref x :: st) h := Rr_nx d_MRm_go_47 rfl
theorem r_MRm_go_48 {a : Nat} (hq : qI a 10 30 = true) : Rr X d MRm_go 48 L (.ref a :: st) (Wd mu la ro et) = Rr X d MRm_go 51 L (.int (mu a 30) :: st) (Wd mu la ro et) := R_gfI d_MRm_go_48 ff_10_260 hq
theorem r_MRm_go_51 {y0 : Int32} (hc : ckS st = true) : Rr X (d + 1) MRm_go 51 L (.int y0 :: st) h = (Rr X d MRm_sizeOf 0 [.int y0] [] h).bind fun q => Rr X (d + 1) MRm_go 54 L (psh q.1 st) q.2 := R_is (av := [.int y0]) d_MRm_go_51 (Or.inl fc_10_167) (ckS_le hc) rfl (Nat.le_of_ble_eq_true rfl) (Nat.le_of_ble_eq_true rfl)
theorem r_MRm_go_54 {x : Int32} : Rr X d MRm_go 54 L (.int x :: st) h = Rr X d MRm_go 55 L (.long x.toInt64 :: st) h := Rr_nx d_MRm_go_54 rfl
theorem r_MRm_go_55 {x y : Int64} : Rr X d MRm_go 55 L (.long y :: .long x :: st) h = Rr X d MRm_go 56 L (.int (lg_cmp x y) :: st) h := Rr_nx d_MRm_go_55 rfl
theorem r_MRm_go_56 {x : Int32} : Rr X d MRm_go 56 L (.int x :: st) h = if 0 ≤ x then Rr X d MRm_go 65 L st h else Rr X d MRm_go 59 L st h := R_if_ge d_MRm_go_56 (by decide)
theorem r_MRm_go_59 {l0 l1 l2 l3 l4 l5 l6 l8 l9 : Value} {x : Int64} : Rr X d MRm_go 59 [l0, l1, l2, l3, l4, l5, l6, .long x, l8, l9] st h = Rr X d MRm_go 61 [l0, l1, l2, l3, l4, l5, l6, .long x, l8, l9] (.long x :: st) h := Rr_nx d_MRm_go_59 rfl
theorem r_MRm_go_61 {x : Int64} : Rr X d MRm_go 61 L (.long x :: st) h = Rr X d MRm_go 62 L (.int x.toInt32 :: st) h := Rr_nx d_MRm_go_61 rfl
theorem r_MRm_go_62 : Rr X d MRm_go 62 L st h = Rr X d MRm_go 72 L st h := R_goto d_MRm_go_62 (by decide)
theorem r_MRm_go_65 {l1 l2 l3 l4 l5 l6 l7 l8 l9 : Value} {x : Nat} : Rr X d MRm_go 65 [.ref x, l1, l2, l3, l4, l5, l6, l7, l8, l9] st h = Rr X d MRm_go 66 [.ref x, l1, l2, l3, l4, l5, l6, l7, l8, l9] (.ref x :: st) h := Rr_nx d_MRm_go_65 rfl
theorem r_MRm_go_66 {a : Nat} (hq : qI a 10 30 = true) : Rr X d MRm_go 66 L (.ref a :: st) (Wd mu la ro et) = Rr X d MRm_go 69 L (.int (mu a 30) :: st) (Wd mu la ro et) := R_gfI d_MRm_go_66 ff_10_260 hq
theorem r_MRm_go_69 {y0 : Int32} (hc : ckS st = true) : Rr X (d + 1) MRm_go 69 L (.int y0 :: st) h = (Rr X d MRm_sizeOf 0 [.int y0] [] h).bind fun q => Rr X (d + 1) MRm_go 72 L (psh q.1 st) q.2 := R_is (av := [.int y0]) d_MRm_go_69 (Or.inl fc_10_167) (ckS_le hc) rfl (Nat.le_of_ble_eq_true rfl) (Nat.le_of_ble_eq_true rfl)
theorem r_MRm_go_72 {l0 l1 l2 l3 l4 l5 l6 l7 l8 l9 : Value} {x : Int32} : Rr X d MRm_go 72 [l0, l1, l2, l3, l4, l5, l6, l7, l8, l9] (.int x :: st) h = Rr X d MRm_go 74 (sL [l0, l1, l2, l3, l4, l5, l6, l7, l8, l9] 9 (.int x)) st h := Rr_nx d_MRm_go_72 rfl
theorem r_MRm_go_74 {l1 l2 l3 l4 l5 l6 l7 l8 l9 : Value} {x : Nat} : Rr X d MRm_go 74 [.ref x, l1, l2, l3, l4, l5, l6, l7, l8, l9] st h = Rr X d MRm_go 75 [.ref x, l1, l2, l3, l4, l5, l6, l7, l8, l9] (.ref x :: st) h := Rr_nx d_MRm_go_74 rfl
theorem r_MRm_go_75 {l1 l2 l3 l4 l5 l6 l7 l8 l9 : Value} {x : Nat} : Rr X d MRm_go 75 [.ref x, l1, l2, l3, l4, l5, l6, l7, l8, l9] st h = Rr X d MRm_go 76 [.ref x, l1, l2, l3, l4, l5, l6, l7, l8, l9] (.ref x :: st) h := Rr_nx d_MRm_go_75 rfl
theorem r_MRm_go_76 {a : Nat} (hq : qI a 10 31 = true) : Rr X d MRm_go 76 L (.ref a :: st) (Wd mu la ro et) = Rr X d MRm_go 79 L (.int (mu a 31) :: st) (Wd mu la ro et) := R_gfI d_MRm_go_76 ff_10_263 hq
theorem r_MRm_go_79 {l0 l1 l2 l3 l4 l5 l6 l7 l8 : Value} {x : Int32} : Rr X d MRm_go 79 [l0, l1, l2, l3, l4, l5, l6, l7, l8, .int x] st h = Rr X d MRm_go 81 [l0, l1, l2, l3, l4, l5, l6, l7, l8, .int x] (.int x :: st) h := Rr_nx d_MRm_go_79 rfl
theorem r_MRm_go_81 {x y : Int32} : Rr X d MRm_go 81 L (.int y :: .int x :: st) h = Rr X d MRm_go 82 L (.int (x + y) :: st) h := Rr_nx d_MRm_go_81 rfl
theorem r_MRm_go_82 : Rr X d MRm_go 82 L st h = Rr X d MRm_go 83 L (.int (0) :: st) h := Rr_nx d_MRm_go_82 rfl
theorem r_MRm_go_83 : Rr X d MRm_go 83 L st h = Rr X d MRm_go 86 L (.int (9999) :: st) h := Rr_nx d_MRm_go_83 rfl
theorem r_MRm_go_86 {y0 : Int32} {y1 : Int32} {y2 : Int32} (hc : ckS st = true) : Rr X (d + 1) MRm_go 86 L (.int y2 :: .int y1 :: .int y0 :: st) h = (Rr X d MRm_held 0 [.int y0, .int y1, .int y2] [] h).bind fun q => Rr X (d + 1) MRm_go 89 L (psh q.1 st) q.2 := R_is (av := [.int y2, .int y1, .int y0]) d_MRm_go_86 (Or.inl fc_10_170) (ckS_le hc) rfl (Nat.le_of_ble_eq_true rfl) (Nat.le_of_ble_eq_true rfl)
theorem r_MRm_go_89 {a : Nat} {x : Int32} (hq : qI a 10 31 = true) : Rr X d MRm_go 89 L (.int x :: .ref a :: st) (Wd mu la ro et) = Rr X d MRm_go 92 L st (Wd (up2 mu a 31 x) la ro et) := R_pfI d_MRm_go_89 ff_10_263 hq
theorem r_MRm_go_92 {l1 l2 l3 l4 l5 l6 l7 l8 l9 : Value} {x : Nat} : Rr X d MRm_go 92 [.ref x, l1, l2, l3, l4, l5, l6, l7, l8, l9] st h = Rr X d MRm_go 93 [.ref x, l1, l2, l3, l4, l5, l6, l7, l8, l9] (.ref x :: st) h := Rr_nx d_MRm_go_92 rfl
theorem r_MRm_go_93 {x : Nat} : Rr X d MRm_go 93 L (.ref x :: st) h = Rr X d MRm_go 94 L (.ref x :: .ref x :: st) h := Rr_nx d_MRm_go_93 rfl
theorem r_MRm_go_93i {x : Int32} : Rr X d MRm_go 93 L (.int x :: st) h = Rr X d MRm_go 94 L (.int x :: .int x :: st) h := Rr_nx d_MRm_go_93 rfl
theorem r_MRm_go_94 {a : Nat} (hq : qI a 10 30 = true) : Rr X d MRm_go 94 L (.ref a :: st) (Wd mu la ro et) = Rr X d MRm_go 97 L (.int (mu a 30) :: st) (Wd mu la ro et) := R_gfI d_MRm_go_94 ff_10_260 hq
theorem r_MRm_go_97 {l1 l2 l3 l4 l5 l6 l7 l8 l9 : Value} {x : Nat} : Rr X d MRm_go 97 [.ref x, l1, l2, l3, l4, l5, l6, l7, l8, l9] st h = Rr X d MRm_go 98 [.ref x, l1, l2, l3, l4, l5, l6, l7, l8, l9] (.ref x :: st) h := Rr_nx d_MRm_go_97 rfl
theorem r_MRm_go_98 {a : Nat} (hq : qI a 10 30 = true) : Rr X d MRm_go 98 L (.ref a :: st) (Wd mu la ro et) = Rr X d MRm_go 101 L (.int (mu a 30) :: st) (Wd mu la ro et) := R_gfI d_MRm_go_98 ff_10_260 hq
theorem r_MRm_go_101 {x : Int32} : Rr X d MRm_go 101 L (.int x :: st) h = if x ≤ 0 then Rr X d MRm_go 110 L st h else Rr X d MRm_go 104 L st h := R_if_le d_MRm_go_101 (by decide)
theorem r_MRm_go_104 {l0 l1 l2 l3 l4 l5 l6 l7 l8 : Value} {x : Int32} : Rr X d MRm_go 104 [l0, l1, l2, l3, l4, l5, l6, l7, l8, .int x] st h = Rr X d MRm_go 106 [l0, l1, l2, l3, l4, l5, l6, l7, l8, .int x] (.int x :: st) h := Rr_nx d_MRm_go_104 rfl
theorem r_MRm_go_106 {x : Int32} : Rr X d MRm_go 106 L (.int x :: st) h = Rr X d MRm_go 107 L (.int (-x) :: st) h := Rr_nx d_MRm_go_106 rfl
theorem r_MRm_go_107 : Rr X d MRm_go 107 L st h = Rr X d MRm_go 112 L st h := R_goto d_MRm_go_107 (by decide)
theorem r_MRm_go_110 {l0 l1 l2 l3 l4 l5 l6 l7 l8 : Value} {x : Int32} : Rr X d MRm_go 110 [l0, l1, l2, l3, l4, l5, l6, l7, l8, .int x] st h = Rr X d MRm_go 112 [l0, l1, l2, l3, l4, l5, l6, l7, l8, .int x] (.int x :: st) h := Rr_nx d_MRm_go_110 rfl
theorem r_MRm_go_112 {x y : Int32} : Rr X d MRm_go 112 L (.int y :: .int x :: st) h = Rr X d MRm_go 113 L (.int (x + y) :: st) h := Rr_nx d_MRm_go_112 rfl
theorem r_MRm_go_113 {a : Nat} {x : Int32} (hq : qI a 10 30 = true) : Rr X d MRm_go 113 L (.int x :: .ref a :: st) (Wd mu la ro et) = Rr X d MRm_go 116 L st (Wd (up2 mu a 30 x) la ro et) := R_pfI d_MRm_go_113 ff_10_260 hq
theorem r_MRm_go_116 : Rr X d MRm_go 116 L st h = Rr X d MRm_go 222 L st h := R_goto d_MRm_go_116 (by decide)
theorem r_MRm_go_119 {l0 l1 l2 l3 l4 l6 l7 l8 l9 : Value} {x : Int32} : Rr X d MRm_go 119 [l0, l1, l2, l3, l4, .int x, l6, l7, l8, l9] st h = Rr X d MRm_go 121 [l0, l1, l2, l3, l4, .int x, l6, l7, l8, l9] (.int x :: st) h := Rr_nx d_MRm_go_119 rfl
theorem r_MRm_go_121 {x : Int32} : Rr X d MRm_go 121 L (.int x :: st) h = if 0 ≤ x then Rr X d MRm_go 222 L st h else Rr X d MRm_go 124 L st h := R_if_ge d_MRm_go_121 (by decide)
theorem r_MRm_go_124 {l1 l2 l3 l4 l5 l6 l7 l8 l9 : Value} {x : Nat} : Rr X d MRm_go 124 [.ref x, l1, l2, l3, l4, l5, l6, l7, l8, l9] st h = Rr X d MRm_go 125 [.ref x, l1, l2, l3, l4, l5, l6, l7, l8, l9] (.ref x :: st) h := Rr_nx d_MRm_go_124 rfl
theorem r_MRm_go_125 {a : Nat} (hq : qI a 10 32 = true) : Rr X d MRm_go 125 L (.ref a :: st) (Wd mu la ro et) = Rr X d MRm_go 128 L (.int (mu a 32) :: st) (Wd mu la ro et) := R_gfI d_MRm_go_125 ff_10_266 hq
theorem r_MRm_go_128 {x : Int32} : Rr X d MRm_go 128 L (.int x :: st) h = Rr X d MRm_go 129 L (.long x.toInt64 :: st) h := Rr_nx d_MRm_go_128 rfl
theorem r_MRm_go_129 {l0 l1 l2 l3 l4 l5 l7 l8 l9 : Value} {x : Int32} : Rr X d MRm_go 129 [l0, l1, l2, l3, l4, l5, .int x, l7, l8, l9] st h = Rr X d MRm_go 131 [l0, l1, l2, l3, l4, l5, .int x, l7, l8, l9] (.int x :: st) h := Rr_nx d_MRm_go_129 rfl
theorem r_MRm_go_131 {x : Int32} : Rr X d MRm_go 131 L (.int x :: st) h = Rr X d MRm_go 132 L (.long x.toInt64 :: st) h := Rr_nx d_MRm_go_131 rfl
theorem r_MRm_go_132 {x y : Int64} : Rr X d MRm_go 132 L (.long y :: .long x :: st) h = Rr X d MRm_go 133 L (.long (x * y) :: st) h := Rr_nx d_MRm_go_132 rfl
theorem r_MRm_go_133 {l1 l2 l3 l4 l5 l6 l7 l8 l9 : Value} {x : Nat} : Rr X d MRm_go 133 [.ref x, l1, l2, l3, l4, l5, l6, l7, l8, l9] st h = Rr X d MRm_go 134 [.ref x, l1, l2, l3, l4, l5, l6, l7, l8, l9] (.ref x :: st) h := Rr_nx d_MRm_go_133 rfl
theorem r_MRm_go_134 {a : Nat} (hq : (qR a 10 8).isSome = true) : Rr X d MRm_go 134 L (.ref a :: st) (Wd mu la ro et) = Rr X d MRm_go 137 L (.ref (qRd a 10 8) :: st) (Wd mu la ro et) := R_gfR d_MRm_go_134 ff_10_26 hq
theorem r_MRm_go_137 : Rr X d MRm_go 137 L st h = Rr X d MRm_go 138 L (.int (4) :: st) h := Rr_nx d_MRm_go_137 rfl
theorem r_MRm_go_138 {l0 l2 l3 l4 l5 l6 l7 l8 l9 : Value} {x : Int32} : Rr X d MRm_go 138 [l0, .int x, l2, l3, l4, l5, l6, l7, l8, l9] st h = Rr X d MRm_go 139 [l0, .int x, l2, l3, l4, l5, l6, l7, l8, l9] (.int x :: st) h := Rr_nx d_MRm_go_138 rfl
theorem r_MRm_go_139 {x y : Int32} : Rr X d MRm_go 139 L (.int y :: .int x :: st) h = Rr X d MRm_go 140 L (.int (x * y) :: st) h := Rr_nx d_MRm_go_139 rfl
theorem r_MRm_go_140 : Rr X d MRm_go 140 L st h = Rr X d MRm_go 141 L (.int (1) :: st) h := Rr_nx d_MRm_go_140 rfl
theorem r_MRm_go_141 {x y : Int32} : Rr X d MRm_go 141 L (.int y :: .int x :: st) h = Rr X d MRm_go 142 L (.int (x + y) :: st) h := Rr_nx d_MRm_go_141 rfl
theorem r_MRm_go_142 {a : Nat} {j : Int32} (hq : (qA a 0).isSome = true) : Rr X d MRm_go 142 L (.int j :: .ref a :: st) (Wd mu la ro et) = if j < 0 ∨ qAd a 0 ≤ j.toNatClampNeg then none else Rr X d MRm_go 143 L (.int (mu a j.toNatClampNeg) :: st) (Wd mu la ro et) := R_ialW d_MRm_go_142 hq
theorem r_MRm_go_143 {x : Int32} : Rr X d MRm_go 143 L (.int x :: st) h = Rr X d MRm_go 144 L (.long x.toInt64 :: st) h := Rr_nx d_MRm_go_143 rfl
theorem r_MRm_go_144 {x y : Int64} : Rr X d MRm_go 144 L (.long y :: .long x :: st) h = Rr X d MRm_go 145 L (.long (x * y) :: st) h := Rr_nx d_MRm_go_144 rfl
theorem r_MRm_go_145 : Rr X d MRm_go 145 L st h = Rr X d MRm_go 148 L (.long (1000000) :: st) h := Rr_nx d_MRm_go_145 rfl
theorem r_MRm_go_148 {x y : Int64} : Rr X d MRm_go 148 L (.long y :: .long x :: st) h = if y = 0 then none else Rr X d MRm_go 149 L (.long (x / y) :: st) h := R_ldv d_MRm_go_148
theorem r_MRm_go_149 {l0 l1 l2 l3 l4 l5 l6 l7 l8 l9 : Value} {x : Int64} : Rr X d MRm_go 149 [l0, l1, l2, l3, l4, l5, l6, l7, l8, l9] (.long x :: st) h = Rr X d MRm_go 151 ((sL [l0, l1, l2, l3, l4, l5, l6, l7, l8, l9] 7 (.long x)).set 8 mkU) st h := Rr_nx d_MRm_go_149 rfl
theorem r_MRm_go_151 {l0 l1 l2 l3 l4 l5 l6 l8 l9 : Value} {x : Int64} : Rr X d MRm_go 151 [l0, l1, l2, l3, l4, l5, l6, .long x, l8, l9] st h = Rr X d MRm_go 153 [l0, l1, l2, l3, l4, l5, l6, .long x, l8, l9] (.long x :: st) h := Rr_nx d_MRm_go_151 rfl
theorem r_MRm_go_153 {l1 l2 l3 l4 l5 l6 l7 l8 l9 : Value} {x : Nat} : Rr X d MRm_go 153 [.ref x, l1, l2, l3, l4, l5, l6, l7, l8, l9] st h = Rr X d MRm_go 154 [.ref x, l1, l2, l3, l4, l5, l6, l7, l8, l9] (.ref x :: st) h := Rr_nx d_MRm_go_153 rfl
theorem r_MRm_go_154 {a : Nat} (hq : qI a 10 30 = true) : Rr X d MRm_go 154 L (.ref a :: st) (Wd mu la ro et) = Rr X d MRm_go 157 L (.int (mu a 30) :: st) (Wd mu la ro et) := R_gfI d_MRm_go_154 ff_10_260 hq
theorem r_MRm_go_157 {y0 : Int32} (hc : ckS st = true) : Rr X (d + 1) MRm_go 157 L (.int y0 :: st) h = (Rr X d MRm_sizeOf 0 [.int y0] [] h).bind fun q => Rr X (d + 1) MRm_go 160 L (psh q.1 st) q.2 := R_is (av := [.int y0]) d_MRm_go_157 (Or.inl fc_10_167) (ckS_le hc) rfl (Nat.le_of_ble_eq_true rfl) (Nat.le_of_ble_eq_true rfl)
theorem r_MRm_go_160 {x : Int32} : Rr X d MRm_go 160 L (.int x :: st) h = Rr X d MRm_go 161 L (.long x.toInt64 :: st) h := Rr_nx d_MRm_go_160 rfl
theorem r_MRm_go_161 {x y : Int64} : Rr X d MRm_go 161 L (.long y :: .long x :: st) h = Rr X d MRm_go 162 L (.int (lg_cmp x y) :: st) h := Rr_nx d_MRm_go_161 rfl
theorem r_MRm_go_162 {x : Int32} : Rr X d MRm_go 162 L (.int x :: st) h = if 0 ≤ x then Rr X d MRm_go 171 L st h else Rr X d MRm_go 165 L st h := R_if_ge d_MRm_go_162 (by decide)
theorem r_MRm_go_165 {l0 l1 l2 l3 l4 l5 l6 l8 l9 : Value} {x : Int64} : Rr X d MRm_go 165 [l0, l1, l2, l3, l4, l5, l6, .long x, l8, l9] st h = Rr X d MRm_go 167 [l0, l1, l2, l3, l4, l5, l6, .long x, l8, l9] (.long x :: st) h := Rr_nx d_MRm_go_165 rfl
theorem r_MRm_go_167 {x : Int64} : Rr X d MRm_go 167 L (.long x :: st) h = Rr X d MRm_go 168 L (.int x.toInt32 :: st) h := Rr_nx d_MRm_go_167 rfl
theorem r_MRm_go_168 : Rr X d MRm_go 168 L st h = Rr X d MRm_go 178 L st h := R_goto d_MRm_go_168 (by decide)
theorem r_MRm_go_171 {l1 l2 l3 l4 l5 l6 l7 l8 l9 : Value} {x : Nat} : Rr X d MRm_go 171 [.ref x, l1, l2, l3, l4, l5, l6, l7, l8, l9] st h = Rr X d MRm_go 172 [.ref x, l1, l2, l3, l4, l5, l6, l7, l8, l9] (.ref x :: st) h := Rr_nx d_MRm_go_171 rfl
theorem r_MRm_go_172 {a : Nat} (hq : qI a 10 30 = true) : Rr X d MRm_go 172 L (.ref a :: st) (Wd mu la ro et) = Rr X d MRm_go 175 L (.int (mu a 30) :: st) (Wd mu la ro et) := R_gfI d_MRm_go_172 ff_10_260 hq
theorem r_MRm_go_175 {y0 : Int32} (hc : ckS st = true) : Rr X (d + 1) MRm_go 175 L (.int y0 :: st) h = (Rr X d MRm_sizeOf 0 [.int y0] [] h).bind fun q => Rr X (d + 1) MRm_go 178 L (psh q.1 st) q.2 := R_is (av := [.int y0]) d_MRm_go_175 (Or.inl fc_10_167) (ckS_le hc) rfl (Nat.le_of_ble_eq_true rfl) (Nat.le_of_ble_eq_true rfl)
theorem r_MRm_go_178 {l0 l1 l2 l3 l4 l5 l6 l7 l8 l9 : Value} {x : Int32} : Rr X d MRm_go 178 [l0, l1, l2, l3, l4, l5, l6, l7, l8, l9] (.int x :: st) h = Rr X d MRm_go 180 (sL [l0, l1, l2, l3, l4, l5, l6, l7, l8, l9] 9 (.int x)) st h := Rr_nx d_MRm_go_178 rfl
theorem r_MRm_go_180 {l1 l2 l3 l4 l5 l6 l7 l8 l9 : Value} {x : Nat} : Rr X d MRm_go 180 [.ref x, l1, l2, l3, l4, l5, l6, l7, l8, l9] st h = Rr X d MRm_go 181 [.ref x, l1, l2, l3, l4, l5, l6, l7, l8, l9] (.ref x :: st) h := Rr_nx d_MRm_go_180 rfl
theorem r_MRm_go_181 {l1 l2 l3 l4 l5 l6 l7 l8 l9 : Value} {x : Nat} : Rr X d MRm_go 181 [.ref x, l1, l2, l3, l4, l5, l6, l7, l8, l9] st h = Rr X d MRm_go 182 [.ref x, l1, l2, l3, l4, l5, l6, l7, l8, l9] (.ref x :: st) h := Rr_nx d_MRm_go_181 rfl
theorem r_MRm_go_182 {a : Nat} (hq : qI a 10 32 = true) : Rr X d MRm_go 182 L (.ref a :: st) (Wd mu la ro et) = Rr X d MRm_go 185 L (.int (mu a 32) :: st) (Wd mu la ro et) := R_gfI d_MRm_go_182 ff_10_266 hq
theorem r_MRm_go_185 {l0 l1 l2 l3 l4 l5 l6 l7 l8 : Value} {x : Int32} : Rr X d MRm_go 185 [l0, l1, l2, l3, l4, l5, l6, l7, l8, .int x] st h = Rr X d MRm_go 187 [l0, l1, l2, l3, l4, l5, l6, l7, l8, .int x] (.int x :: st) h := Rr_nx d_MRm_go_185 rfl
theorem r_MRm_go_187 {x y : Int32} : Rr X d MRm_go 187 L (.int y :: .int x :: st) h = Rr X d MRm_go 188 L (.int (x + y) :: st) h := Rr_nx d_MRm_go_187 rfl
theorem r_MRm_go_188 : Rr X d MRm_go 188 L st h = Rr X d MRm_go 189 L (.int (0) :: st) h := Rr_nx d_MRm_go_188 rfl
theorem r_MRm_go_189 : Rr X d MRm_go 189 L st h = Rr X d MRm_go 192 L (.int (9999) :: st) h := Rr_nx d_MRm_go_189 rfl
theorem r_MRm_go_192 {y0 : Int32} {y1 : Int32} {y2 : Int32} (hc : ckS st = true) : Rr X (d + 1) MRm_go 192 L (.int y2 :: .int y1 :: .int y0 :: st) h = (Rr X d MRm_held 0 [.int y0, .int y1, .int y2] [] h).bind fun q => Rr X (d + 1) MRm_go 195 L (psh q.1 st) q.2 := R_is (av := [.int y2, .int y1, .int y0]) d_MRm_go_192 (Or.inl fc_10_170) (ckS_le hc) rfl (Nat.le_of_ble_eq_true rfl) (Nat.le_of_ble_eq_true rfl)
theorem r_MRm_go_195 {a : Nat} {x : Int32} (hq : qI a 10 32 = true) : Rr X d MRm_go 195 L (.int x :: .ref a :: st) (Wd mu la ro et) = Rr X d MRm_go 198 L st (Wd (up2 mu a 32 x) la ro et) := R_pfI d_MRm_go_195 ff_10_266 hq
theorem r_MRm_go_198 {l1 l2 l3 l4 l5 l6 l7 l8 l9 : Value} {x : Nat} : Rr X d MRm_go 198 [.ref x, l1, l2, l3, l4, l5, l6, l7, l8, l9] st h = Rr X d MRm_go 199 [.ref x, l1, l2, l3, l4, l5, l6, l7, l8, l9] (.ref x :: st) h := Rr_nx d_MRm_go_198 rfl
theorem r_MRm_go_199 {x : Nat} : Rr X d MRm_go 199 L (.ref x :: st) h = Rr X d MRm_go 200 L (.ref x :: .ref x :: st) h := Rr_nx d_MRm_go_199 rfl
theorem r_MRm_go_199i {x : Int32} : Rr X d MRm_go 199 L (.int x :: st) h = Rr X d MRm_go 200 L (.int x :: .int x :: st) h := Rr_nx d_MRm_go_199 rfl
theorem r_MRm_go_200 {a : Nat} (hq : qI a 10 30 = true) : Rr X d MRm_go 200 L (.ref a :: st) (Wd mu la ro et) = Rr X d MRm_go 203 L (.int (mu a 30) :: st) (Wd mu la ro et) := R_gfI d_MRm_go_200 ff_10_260 hq
theorem r_MRm_go_203 {l1 l2 l3 l4 l5 l6 l7 l8 l9 : Value} {x : Nat} : Rr X d MRm_go 203 [.ref x, l1, l2, l3, l4, l5, l6, l7, l8, l9] st h = Rr X d MRm_go 204 [.ref x, l1, l2, l3, l4, l5, l6, l7, l8, l9] (.ref x :: st) h := Rr_nx d_MRm_go_203 rfl
theorem r_MRm_go_204 {a : Nat} (hq : qI a 10 30 = true) : Rr X d MRm_go 204 L (.ref a :: st) (Wd mu la ro et) = Rr X d MRm_go 207 L (.int (mu a 30) :: st) (Wd mu la ro et) := R_gfI d_MRm_go_204 ff_10_260 hq
theorem r_MRm_go_207 {x : Int32} : Rr X d MRm_go 207 L (.int x :: st) h = if x ≤ 0 then Rr X d MRm_go 216 L st h else Rr X d MRm_go 210 L st h := R_if_le d_MRm_go_207 (by decide)
theorem r_MRm_go_210 {l0 l1 l2 l3 l4 l5 l6 l7 l8 : Value} {x : Int32} : Rr X d MRm_go 210 [l0, l1, l2, l3, l4, l5, l6, l7, l8, .int x] st h = Rr X d MRm_go 212 [l0, l1, l2, l3, l4, l5, l6, l7, l8, .int x] (.int x :: st) h := Rr_nx d_MRm_go_210 rfl
theorem r_MRm_go_212 {x : Int32} : Rr X d MRm_go 212 L (.int x :: st) h = Rr X d MRm_go 213 L (.int (-x) :: st) h := Rr_nx d_MRm_go_212 rfl
theorem r_MRm_go_213 : Rr X d MRm_go 213 L st h = Rr X d MRm_go 218 L st h := R_goto d_MRm_go_213 (by decide)
theorem r_MRm_go_216 {l0 l1 l2 l3 l4 l5 l6 l7 l8 : Value} {x : Int32} : Rr X d MRm_go 216 [l0, l1, l2, l3, l4, l5, l6, l7, l8, .int x] st h = Rr X d MRm_go 218 [l0, l1, l2, l3, l4, l5, l6, l7, l8, .int x] (.int x :: st) h := Rr_nx d_MRm_go_216 rfl
theorem r_MRm_go_218 {x y : Int32} : Rr X d MRm_go 218 L (.int y :: .int x :: st) h = Rr X d MRm_go 219 L (.int (x + y) :: st) h := Rr_nx d_MRm_go_218 rfl
theorem r_MRm_go_219 {a : Nat} {x : Int32} (hq : qI a 10 30 = true) : Rr X d MRm_go 219 L (.int x :: .ref a :: st) (Wd mu la ro et) = Rr X d MRm_go 222 L st (Wd (up2 mu a 30 x) la ro et) := R_pfI d_MRm_go_219 ff_10_260 hq
theorem r_MRm_go_222 {l0 l1 l3 l4 l5 l6 l7 l8 l9 : Value} {x : Int32} : Rr X d MRm_go 222 [l0, l1, .int x, l3, l4, l5, l6, l7, l8, l9] st h = Rr X d MRm_go 223 [l0, l1, .int x, l3, l4, l5, l6, l7, l8, l9] (.int x :: st) h := Rr_nx d_MRm_go_222 rfl
theorem r_MRm_go_223 {x : Int32} : Rr X d MRm_go 223 L (.int x :: st) h = if x = 0 then Rr X d MRm_go 356 L st h else Rr X d MRm_go 226 L st h := R_if_eq d_MRm_go_223 (by decide)
theorem r_MRm_go_226 {l1 l2 l3 l4 l5 l6 l7 l8 l9 : Value} {x : Nat} : Rr X d MRm_go 226 [.ref x, l1, l2, l3, l4, l5, l6, l7, l8, l9] st h = Rr X d MRm_go 227 [.ref x, l1, l2, l3, l4, l5, l6, l7, l8, l9] (.ref x :: st) h := Rr_nx d_MRm_go_226 rfl
theorem r_MRm_go_227 {a : Nat} (hq : qI a 10 31 = true) : Rr X d MRm_go 227 L (.ref a :: st) (Wd mu la ro et) = Rr X d MRm_go 230 L (.int (mu a 31) :: st) (Wd mu la ro et) := R_gfI d_MRm_go_227 ff_10_263 hq
theorem r_MRm_go_230 {l1 l2 l3 l4 l5 l6 l7 l8 l9 : Value} {x : Nat} : Rr X d MRm_go 230 [.ref x, l1, l2, l3, l4, l5, l6, l7, l8, l9] st h = Rr X d MRm_go 231 [.ref x, l1, l2, l3, l4, l5, l6, l7, l8, l9] (.ref x :: st) h := Rr_nx d_MRm_go_230 rfl
theorem r_MRm_go_231 {a : Nat} (hq : (qR a 10 8).isSome = true) : Rr X d MRm_go 231 L (.ref a :: st) (Wd mu la ro et) = Rr X d MRm_go 234 L (.ref (qRd a 10 8) :: st) (Wd mu la ro et) := R_gfR d_MRm_go_231 ff_10_26 hq
theorem r_MRm_go_234 : Rr X d MRm_go 234 L st h = Rr X d MRm_go 235 L (.int (4) :: st) h := Rr_nx d_MRm_go_234 rfl
theorem r_MRm_go_235 {l0 l2 l3 l4 l5 l6 l7 l8 l9 : Value} {x : Int32} : Rr X d MRm_go 235 [l0, .int x, l2, l3, l4, l5, l6, l7, l8, l9] st h = Rr X d MRm_go 236 [l0, .int x, l2, l3, l4, l5, l6, l7, l8, l9] (.int x :: st) h := Rr_nx d_MRm_go_235 rfl
theorem r_MRm_go_236 {x y : Int32} : Rr X d MRm_go 236 L (.int y :: .int x :: st) h = Rr X d MRm_go 237 L (.int (x * y) :: st) h := Rr_nx d_MRm_go_236 rfl
theorem r_MRm_go_237 : Rr X d MRm_go 237 L st h = Rr X d MRm_go 238 L (.int (2) :: st) h := Rr_nx d_MRm_go_237 rfl
theorem r_MRm_go_238 {x y : Int32} : Rr X d MRm_go 238 L (.int y :: .int x :: st) h = Rr X d MRm_go 239 L (.int (x + y) :: st) h := Rr_nx d_MRm_go_238 rfl
theorem r_MRm_go_239 {a : Nat} {j : Int32} (hq : (qA a 0).isSome = true) : Rr X d MRm_go 239 L (.int j :: .ref a :: st) (Wd mu la ro et) = if j < 0 ∨ qAd a 0 ≤ j.toNatClampNeg then none else Rr X d MRm_go 240 L (.int (mu a j.toNatClampNeg) :: st) (Wd mu la ro et) := R_ialW d_MRm_go_239 hq
theorem r_MRm_go_240 {x y : Int32} : Rr X d MRm_go 240 L (.int y :: .int x :: st) h = Rr X d MRm_go 241 L (.int (x * y) :: st) h := Rr_nx d_MRm_go_240 rfl
theorem r_MRm_go_241 : Rr X d MRm_go 241 L st h = Rr X d MRm_go 243 L (.int (100) :: st) h := Rr_nx d_MRm_go_241 rfl
theorem r_MRm_go_243 {x y : Int32} : Rr X d MRm_go 243 L (.int y :: .int x :: st) h = if y = 0 then none else Rr X d MRm_go 244 L (.int (x / y) :: st) h := R_dv d_MRm_go_243
theorem r_MRm_go_244 {l0 l1 l2 l3 l4 l5 l6 l7 l8 l9 : Value} {x : Int32} : Rr X d MRm_go 244 [l0, l1, l2, l3, l4, l5, l6, l7, l8, l9] (.int x :: st) h = Rr X d MRm_go 246 (sL [l0, l1, l2, l3, l4, l5, l6, l7, l8, l9] 7 (.int x)) st h := Rr_nx d_MRm_go_244 rfl
theorem r_MRm_go_246 {l1 l2 l3 l4 l5 l6 l7 l8 l9 : Value} {x : Nat} : Rr X d MRm_go 246 [.ref x, l1, l2, l3, l4, l5, l6, l7, l8, l9] st h = Rr X d MRm_go 247 [.ref x, l1, l2, l3, l4, l5, l6, l7, l8, l9] (.ref x :: st) h := Rr_nx d_MRm_go_246 rfl
theorem r_MRm_go_247 {x : Nat} : Rr X d MRm_go 247 L (.ref x :: st) h = Rr X d MRm_go 248 L (.ref x :: .ref x :: st) h := Rr_nx d_MRm_go_247 rfl
theorem r_MRm_go_247i {x : Int32} : Rr X d MRm_go 247 L (.int x :: st) h = Rr X d MRm_go 248 L (.int x :: .int x :: st) h := Rr_nx d_MRm_go_247 rfl
theorem r_MRm_go_248 {a : Nat} (hq : qI a 10 31 = true) : Rr X d MRm_go 248 L (.ref a :: st) (Wd mu la ro et) = Rr X d MRm_go 251 L (.int (mu a 31) :: st) (Wd mu la ro et) := R_gfI d_MRm_go_248 ff_10_263 hq
theorem r_MRm_go_251 {l0 l1 l2 l3 l4 l5 l6 l8 l9 : Value} {x : Int32} : Rr X d MRm_go 251 [l0, l1, l2, l3, l4, l5, l6, .int x, l8, l9] st h = Rr X d MRm_go 253 [l0, l1, l2, l3, l4, l5, l6, .int x, l8, l9] (.int x :: st) h := Rr_nx d_MRm_go_251 rfl
theorem r_MRm_go_253 {x y : Int32} : Rr X d MRm_go 253 L (.int y :: .int x :: st) h = Rr X d MRm_go 254 L (.int (x - y) :: st) h := Rr_nx d_MRm_go_253 rfl
theorem r_MRm_go_254 {a : Nat} {x : Int32} (hq : qI a 10 31 = true) : Rr X d MRm_go 254 L (.int x :: .ref a :: st) (Wd mu la ro et) = Rr X d MRm_go 257 L st (Wd (up2 mu a 31 x) la ro et) := R_pfI d_MRm_go_254 ff_10_263 hq
theorem r_MRm_go_257 {l1 l2 l3 l4 l5 l6 l7 l8 l9 : Value} {x : Nat} : Rr X d MRm_go 257 [.ref x, l1, l2, l3, l4, l5, l6, l7, l8, l9] st h = Rr X d MRm_go 258 [.ref x, l1, l2, l3, l4, l5, l6, l7, l8, l9] (.ref x :: st) h := Rr_nx d_MRm_go_257 rfl
theorem r_MRm_go_258 {l0 l1 l3 l4 l5 l6 l7 l8 l9 : Value} {x : Int32} : Rr X d MRm_go 258 [l0, l1, .int x, l3, l4, l5, l6, l7, l8, l9] st h = Rr X d MRm_go 259 [l0, l1, .int x, l3, l4, l5, l6, l7, l8, l9] (.int x :: st) h := Rr_nx d_MRm_go_258 rfl
theorem r_MRm_go_259 {x : Int32} : Rr X d MRm_go 259 L (.int x :: st) h = if x ≤ 0 then Rr X d MRm_go 272 L st h else Rr X d MRm_go 262 L st h := R_if_le d_MRm_go_259 (by decide)
theorem r_MRm_go_262 {l1 l2 l3 l4 l5 l6 l7 l8 l9 : Value} {x : Nat} : Rr X d MRm_go 262 [.ref x, l1, l2, l3, l4, l5, l6, l7, l8, l9] st h = Rr X d MRm_go 263 [.ref x, l1, l2, l3, l4, l5, l6, l7, l8, l9] (.ref x :: st) h := Rr_nx d_MRm_go_262 rfl
theorem r_MRm_go_263 {a : Nat} (hq : qI a 10 30 = true) : Rr X d MRm_go 263 L (.ref a :: st) (Wd mu la ro et) = Rr X d MRm_go 266 L (.int (mu a 30) :: st) (Wd mu la ro et) := R_gfI d_MRm_go_263 ff_10_260 hq
theorem r_MRm_go_266 {l0 l1 l2 l3 l4 l5 l6 l8 l9 : Value} {x : Int32} : Rr X d MRm_go 266 [l0, l1, l2, l3, l4, l5, l6, .int x, l8, l9] st h = Rr X d MRm_go 268 [l0, l1, l2, l3, l4, l5, l6, .int x, l8, l9] (.int x :: st) h := Rr_nx d_MRm_go_266 rfl
theorem r_MRm_go_268 {x y : Int32} : Rr X d MRm_go 268 L (.int y :: .int x :: st) h = Rr X d MRm_go 269 L (.int (x - y) :: st) h := Rr_nx d_MRm_go_268 rfl
theorem r_MRm_go_269 : Rr X d MRm_go 269 L st h = Rr X d MRm_go 279 L st h := R_goto d_MRm_go_269 (by decide)
theorem r_MRm_go_272 {l1 l2 l3 l4 l5 l6 l7 l8 l9 : Value} {x : Nat} : Rr X d MRm_go 272 [.ref x, l1, l2, l3, l4, l5, l6, l7, l8, l9] st h = Rr X d MRm_go 273 [.ref x, l1, l2, l3, l4, l5, l6, l7, l8, l9] (.ref x :: st) h := Rr_nx d_MRm_go_272 rfl
theorem r_MRm_go_273 {a : Nat} (hq : qI a 10 30 = true) : Rr X d MRm_go 273 L (.ref a :: st) (Wd mu la ro et) = Rr X d MRm_go 276 L (.int (mu a 30) :: st) (Wd mu la ro et) := R_gfI d_MRm_go_273 ff_10_260 hq
theorem r_MRm_go_276 {l0 l1 l2 l3 l4 l5 l6 l8 l9 : Value} {x : Int32} : Rr X d MRm_go 276 [l0, l1, l2, l3, l4, l5, l6, .int x, l8, l9] st h = Rr X d MRm_go 278 [l0, l1, l2, l3, l4, l5, l6, .int x, l8, l9] (.int x :: st) h := Rr_nx d_MRm_go_276 rfl
theorem r_MRm_go_278 {x y : Int32} : Rr X d MRm_go 278 L (.int y :: .int x :: st) h = Rr X d MRm_go 279 L (.int (x + y) :: st) h := Rr_nx d_MRm_go_278 rfl
theorem r_MRm_go_279 : Rr X d MRm_go 279 L st h = Rr X d MRm_go 282 L (.int (-9999) :: st) h := Rr_nx d_MRm_go_279 rfl
theorem r_MRm_go_282 : Rr X d MRm_go 282 L st h = Rr X d MRm_go 285 L (.int (9999) :: st) h := Rr_nx d_MRm_go_282 rfl
theorem r_MRm_go_285 {y0 : Int32} {y1 : Int32} {y2 : Int32} (hc : ckS st = true) : Rr X (d + 1) MRm_go 285 L (.int y2 :: .int y1 :: .int y0 :: st) h = (Rr X d MRm_held 0 [.int y0, .int y1, .int y2] [] h).bind fun q => Rr X (d + 1) MRm_go 288 L (psh q.1 st) q.2 := R_is (av := [.int y2, .int y1, .int y0]) d_MRm_go_285 (Or.inl fc_10_170) (ckS_le hc) rfl (Nat.le_of_ble_eq_true rfl) (Nat.le_of_ble_eq_true rfl)
theorem r_MRm_go_288 {a : Nat} {x : Int32} (hq : qI a 10 30 = true) : Rr X d MRm_go 288 L (.int x :: .ref a :: st) (Wd mu la ro et) = Rr X d MRm_go 291 L st (Wd (up2 mu a 30 x) la ro et) := R_pfI d_MRm_go_288 ff_10_260 hq
theorem r_MRm_go_291 {l1 l2 l3 l4 l5 l6 l7 l8 l9 : Value} {x : Nat} : Rr X d MRm_go 291 [.ref x, l1, l2, l3, l4, l5, l6, l7, l8, l9] st h = Rr X d MRm_go 292 [.ref x, l1, l2, l3, l4, l5, l6, l7, l8, l9] (.ref x :: st) h := Rr_nx d_MRm_go_291 rfl
theorem r_MRm_go_292 {a : Nat} (hq : qI a 10 32 = true) : Rr X d MRm_go 292 L (.ref a :: st) (Wd mu la ro et) = Rr X d MRm_go 295 L (.int (mu a 32) :: st) (Wd mu la ro et) := R_gfI d_MRm_go_292 ff_10_266 hq
theorem r_MRm_go_295 {l1 l2 l3 l4 l5 l6 l7 l8 l9 : Value} {x : Nat} : Rr X d MRm_go 295 [.ref x, l1, l2, l3, l4, l5, l6, l7, l8, l9] st h = Rr X d MRm_go 296 [.ref x, l1, l2, l3, l4, l5, l6, l7, l8, l9] (.ref x :: st) h := Rr_nx d_MRm_go_295 rfl
theorem r_MRm_go_296 {a : Nat} (hq : (qR a 10 8).isSome = true) : Rr X d MRm_go 296 L (.ref a :: st) (Wd mu la ro et) = Rr X d MRm_go 299 L (.ref (qRd a 10 8) :: st) (Wd mu la ro et) := R_gfR d_MRm_go_296 ff_10_26 hq
theorem r_MRm_go_299 : Rr X d MRm_go 299 L st h = Rr X d MRm_go 300 L (.int (4) :: st) h := Rr_nx d_MRm_go_299 rfl
theorem r_MRm_go_300 {l0 l2 l3 l4 l5 l6 l7 l8 l9 : Value} {x : Int32} : Rr X d MRm_go 300 [l0, .int x, l2, l3, l4, l5, l6, l7, l8, l9] st h = Rr X d MRm_go 301 [l0, .int x, l2, l3, l4, l5, l6, l7, l8, l9] (.int x :: st) h := Rr_nx d_MRm_go_300 rfl
theorem r_MRm_go_301 {x y : Int32} : Rr X d MRm_go 301 L (.int y :: .int x :: st) h = Rr X d MRm_go 302 L (.int (x * y) :: st) h := Rr_nx d_MRm_go_301 rfl
theorem r_MRm_go_302 : Rr X d MRm_go 302 L st h = Rr X d MRm_go 303 L (.int (3) :: st) h := Rr_nx d_MRm_go_302 rfl
theorem r_MRm_go_303 {x y : Int32} : Rr X d MRm_go 303 L (.int y :: .int x :: st) h = Rr X d MRm_go 304 L (.int (x + y) :: st) h := Rr_nx d_MRm_go_303 rfl
theorem r_MRm_go_304 {a : Nat} {j : Int32} (hq : (qA a 0).isSome = true) : Rr X d MRm_go 304 L (.int j :: .ref a :: st) (Wd mu la ro et) = if j < 0 ∨ qAd a 0 ≤ j.toNatClampNeg then none else Rr X d MRm_go 305 L (.int (mu a j.toNatClampNeg) :: st) (Wd mu la ro et) := R_ialW d_MRm_go_304 hq
theorem r_MRm_go_305 {x y : Int32} : Rr X d MRm_go 305 L (.int y :: .int x :: st) h = Rr X d MRm_go 306 L (.int (x * y) :: st) h := Rr_nx d_MRm_go_305 rfl
theorem r_MRm_go_306 : Rr X d MRm_go 306 L st h = Rr X d MRm_go 308 L (.int (100) :: st) h := Rr_nx d_MRm_go_306 rfl
theorem r_MRm_go_308 {x y : Int32} : Rr X d MRm_go 308 L (.int y :: .int x :: st) h = if y = 0 then none else Rr X d MRm_go 309 L (.int (x / y) :: st) h := R_dv d_MRm_go_308
theorem r_MRm_go_309 {l0 l1 l2 l3 l4 l5 l6 l7 l8 l9 : Value} {x : Int32} : Rr X d MRm_go 309 [l0, l1, l2, l3, l4, l5, l6, l7, l8, l9] (.int x :: st) h = Rr X d MRm_go 311 (sL [l0, l1, l2, l3, l4, l5, l6, l7, l8, l9] 8 (.int x)) st h := Rr_nx d_MRm_go_309 rfl
theorem r_MRm_go_311 {l1 l2 l3 l4 l5 l6 l7 l8 l9 : Value} {x : Nat} : Rr X d MRm_go 311 [.ref x, l1, l2, l3, l4, l5, l6, l7, l8, l9] st h = Rr X d MRm_go 312 [.ref x, l1, l2, l3, l4, l5, l6, l7, l8, l9] (.ref x :: st) h := Rr_nx d_MRm_go_311 rfl
theorem r_MRm_go_312 {x : Nat} : Rr X d MRm_go 312 L (.ref x :: st) h = Rr X d MRm_go 313 L (.ref x :: .ref x :: st) h := Rr_nx d_MRm_go_312 rfl
theorem r_MRm_go_312i {x : Int32} : Rr X d MRm_go 312 L (.int x :: st) h = Rr X d MRm_go 313 L (.int x :: .int x :: st) h := Rr_nx d_MRm_go_312 rfl
theorem r_MRm_go_313 {a : Nat} (hq : qI a 10 32 = true) : Rr X d MRm_go 313 L (.ref a :: st) (Wd mu la ro et) = Rr X d MRm_go 316 L (.int (mu a 32) :: st) (Wd mu la ro et) := R_gfI d_MRm_go_313 ff_10_266 hq
theorem r_MRm_go_316 {l0 l1 l2 l3 l4 l5 l6 l7 l9 : Value} {x : Int32} : Rr X d MRm_go 316 [l0, l1, l2, l3, l4, l5, l6, l7, .int x, l9] st h = Rr X d MRm_go 318 [l0, l1, l2, l3, l4, l5, l6, l7, .int x, l9] (.int x :: st) h := Rr_nx d_MRm_go_316 rfl
theorem r_MRm_go_318 {x y : Int32} : Rr X d MRm_go 318 L (.int y :: .int x :: st) h = Rr X d MRm_go 319 L (.int (x - y) :: st) h := Rr_nx d_MRm_go_318 rfl
theorem r_MRm_go_319 {a : Nat} {x : Int32} (hq : qI a 10 32 = true) : Rr X d MRm_go 319 L (.int x :: .ref a :: st) (Wd mu la ro et) = Rr X d MRm_go 322 L st (Wd (up2 mu a 32 x) la ro et) := R_pfI d_MRm_go_319 ff_10_266 hq
theorem r_MRm_go_322 {l1 l2 l3 l4 l5 l6 l7 l8 l9 : Value} {x : Nat} : Rr X d MRm_go 322 [.ref x, l1, l2, l3, l4, l5, l6, l7, l8, l9] st h = Rr X d MRm_go 323 [.ref x, l1, l2, l3, l4, l5, l6, l7, l8, l9] (.ref x :: st) h := Rr_nx d_MRm_go_322 rfl
theorem r_MRm_go_323 {l0 l1 l3 l4 l5 l6 l7 l8 l9 : Value} {x : Int32} : Rr X d MRm_go 323 [l0, l1, .int x, l3, l4, l5, l6, l7, l8, l9] st h = Rr X d MRm_go 324 [l0, l1, .int x, l3, l4, l5, l6, l7, l8, l9] (.int x :: st) h := Rr_nx d_MRm_go_323 rfl
theorem r_MRm_go_324 {x : Int32} : Rr X d MRm_go 324 L (.int x :: st) h = if x ≤ 0 then Rr X d MRm_go 337 L st h else Rr X d MRm_go 327 L st h := R_if_le d_MRm_go_324 (by decide)
theorem r_MRm_go_327 {l1 l2 l3 l4 l5 l6 l7 l8 l9 : Value} {x : Nat} : Rr X d MRm_go 327 [.ref x, l1, l2, l3, l4, l5, l6, l7, l8, l9] st h = Rr X d MRm_go 328 [.ref x, l1, l2, l3, l4, l5, l6, l7, l8, l9] (.ref x :: st) h := Rr_nx d_MRm_go_327 rfl
theorem r_MRm_go_328 {a : Nat} (hq : qI a 10 30 = true) : Rr X d MRm_go 328 L (.ref a :: st) (Wd mu la ro et) = Rr X d MRm_go 331 L (.int (mu a 30) :: st) (Wd mu la ro et) := R_gfI d_MRm_go_328 ff_10_260 hq
theorem r_MRm_go_331 {l0 l1 l2 l3 l4 l5 l6 l7 l9 : Value} {x : Int32} : Rr X d MRm_go 331 [l0, l1, l2, l3, l4, l5, l6, l7, .int x, l9] st h = Rr X d MRm_go 333 [l0, l1, l2, l3, l4, l5, l6, l7, .int x, l9] (.int x :: st) h := Rr_nx d_MRm_go_331 rfl
theorem r_MRm_go_333 {x y : Int32} : Rr X d MRm_go 333 L (.int y :: .int x :: st) h = Rr X d MRm_go 334 L (.int (x + y) :: st) h := Rr_nx d_MRm_go_333 rfl
theorem r_MRm_go_334 : Rr X d MRm_go 334 L st h = Rr X d MRm_go 344 L st h := R_goto d_MRm_go_334 (by decide)
theorem r_MRm_go_337 {l1 l2 l3 l4 l5 l6 l7 l8 l9 : Value} {x : Nat} : Rr X d MRm_go 337 [.ref x, l1, l2, l3, l4, l5, l6, l7, l8, l9] st h = Rr X d MRm_go 338 [.ref x, l1, l2, l3, l4, l5, l6, l7, l8, l9] (.ref x :: st) h := Rr_nx d_MRm_go_337 rfl
theorem r_MRm_go_338 {a : Nat} (hq : qI a 10 30 = true) : Rr X d MRm_go 338 L (.ref a :: st) (Wd mu la ro et) = Rr X d MRm_go 341 L (.int (mu a 30) :: st) (Wd mu la ro et) := R_gfI d_MRm_go_338 ff_10_260 hq
theorem r_MRm_go_341 {l0 l1 l2 l3 l4 l5 l6 l7 l9 : Value} {x : Int32} : Rr X d MRm_go 341 [l0, l1, l2, l3, l4, l5, l6, l7, .int x, l9] st h = Rr X d MRm_go 343 [l0, l1, l2, l3, l4, l5, l6, l7, .int x, l9] (.int x :: st) h := Rr_nx d_MRm_go_341 rfl
theorem r_MRm_go_343 {x y : Int32} : Rr X d MRm_go 343 L (.int y :: .int x :: st) h = Rr X d MRm_go 344 L (.int (x - y) :: st) h := Rr_nx d_MRm_go_343 rfl
theorem r_MRm_go_344 : Rr X d MRm_go 344 L st h = Rr X d MRm_go 347 L (.int (-9999) :: st) h := Rr_nx d_MRm_go_344 rfl
theorem r_MRm_go_347 : Rr X d MRm_go 347 L st h = Rr X d MRm_go 350 L (.int (9999) :: st) h := Rr_nx d_MRm_go_347 rfl
theorem r_MRm_go_350 {y0 : Int32} {y1 : Int32} {y2 : Int32} (hc : ckS st = true) : Rr X (d + 1) MRm_go 350 L (.int y2 :: .int y1 :: .int y0 :: st) h = (Rr X d MRm_held 0 [.int y0, .int y1, .int y2] [] h).bind fun q => Rr X (d + 1) MRm_go 353 L (psh q.1 st) q.2 := R_is (av := [.int y2, .int y1, .int y0]) d_MRm_go_350 (Or.inl fc_10_170) (ckS_le hc) rfl (Nat.le_of_ble_eq_true rfl) (Nat.le_of_ble_eq_true rfl)
theorem r_MRm_go_353 {a : Nat} {x : Int32} (hq : qI a 10 30 = true) : Rr X d MRm_go 353 L (.int x :: .ref a :: st) (Wd mu la ro et) = Rr X d MRm_go 356 L st (Wd (up2 mu a 30 x) la ro et) := R_pfI d_MRm_go_353 ff_10_260 hq
theorem r_MRm_go_356 {l1 l2 l3 l4 l5 l6 l7 l8 l9 : Value} {x : Nat} : Rr X d MRm_go 356 [.ref x, l1, l2, l3, l4, l5, l6, l7, l8, l9] st h = Rr X d MRm_go 357 [.ref x, l1, l2, l3, l4, l5, l6, l7, l8, l9] (.ref x :: st) h := Rr_nx d_MRm_go_356 rfl
theorem r_MRm_go_357 {l0 l1 l2 l4 l5 l6 l7 l8 l9 : Value} {x : Int32} : Rr X d MRm_go 357 [l0, l1, l2, .int x, l4, l5, l6, l7, l8, l9] st h = Rr X d MRm_go 358 [l0, l1, l2, .int x, l4, l5, l6, l7, l8, l9] (.int x :: st) h := Rr_nx d_MRm_go_357 rfl
theorem r_MRm_go_358 : Rr X d MRm_go 358 L st h = Rr X d MRm_go 359 L (.int (0) :: st) h := Rr_nx d_MRm_go_358 rfl
theorem r_MRm_go_359 {l1 l2 l3 l4 l5 l6 l7 l8 l9 : Value} {x : Nat} : Rr X d MRm_go 359 [.ref x, l1, l2, l3, l4, l5, l6, l7, l8, l9] st h = Rr X d MRm_go 360 [.ref x, l1, l2, l3, l4, l5, l6, l7, l8, l9] (.ref x :: st) h := Rr_nx d_MRm_go_359 rfl
theorem r_MRm_go_360 {a : Nat} (hq : qI a 10 30 = true) : Rr X d MRm_go 360 L (.ref a :: st) (Wd mu la ro et) = Rr X d MRm_go 363 L (.int (mu a 30) :: st) (Wd mu la ro et) := R_gfI d_MRm_go_360 ff_10_260 hq
theorem r_MRm_go_363 {y0 : Int32} (hc : ckS st = true) : Rr X (d + 1) MRm_go 363 L (.int y0 :: st) h = (Rr X d MRm_sizeOf 0 [.int y0] [] h).bind fun q => Rr X (d + 1) MRm_go 366 L (psh q.1 st) q.2 := R_is (av := [.int y0]) d_MRm_go_363 (Or.inl fc_10_167) (ckS_le hc) rfl (Nat.le_of_ble_eq_true rfl) (Nat.le_of_ble_eq_true rfl)
theorem r_MRm_go_366 {l0 l1 l2 l3 l5 l6 l7 l8 l9 : Value} {x : Int32} : Rr X d MRm_go 366 [l0, l1, l2, l3, .int x, l5, l6, l7, l8, l9] st h = Rr X d MRm_go 368 [l0, l1, l2, l3, .int x, l5, l6, l7, l8, l9] (.int x :: st) h := Rr_nx d_MRm_go_366 rfl
theorem fc_10_283 : fC 10 283 = some (0, 10, 4, MRm_takenBy) := rfl
theorem r_MRm_go_368 {y0 : Int32} {y1 : Int32} {y2 : Int32} {y3 : Int32} {a : Nat} (hO : qO a 10 = true) (hc : ckS st = true) : Rr X (d + 1) MRm_go 368 L (.int y3 :: .int y2 :: .int y1 :: .int y0 :: .ref a :: st) (Wd mu la ro et) = (Rr X d MRm_takenBy 0 [.ref a, .int y0, .int y1, .int y2, .int y3] [] (Wd mu la ro et)).bind fun q => Rr X (d + 1) MRm_go 371 L (psh q.1 st) q.2 := R_iv (av := [.int y3, .int y2, .int y1, .int y0]) d_MRm_go_368 fc_10_283 hO (ckS_le hc) rfl (Nat.le_of_ble_eq_true rfl) (Nat.le_of_ble_eq_true rfl)
theorem r_MRm_go_371 {l0 l1 l2 l3 l4 l5 l6 l7 l8 l9 : Value} {x : Int32} : Rr X d MRm_go 371 [l0, l1, l2, l3, l4, l5, l6, l7, l8, l9] (.int x :: st) h = Rr X d MRm_go 373 (sL [l0, l1, l2, l3, l4, l5, l6, l7, l8, l9] 7 (.int x)) st h := Rr_nx d_MRm_go_371 rfl
theorem r_MRm_go_373 {l1 l2 l3 l4 l5 l6 l7 l8 l9 : Value} {x : Nat} : Rr X d MRm_go 373 [.ref x, l1, l2, l3, l4, l5, l6, l7, l8, l9] st h = Rr X d MRm_go 374 [.ref x, l1, l2, l3, l4, l5, l6, l7, l8, l9] (.ref x :: st) h := Rr_nx d_MRm_go_373 rfl
theorem r_MRm_go_374 {l0 l1 l2 l4 l5 l6 l7 l8 l9 : Value} {x : Int32} : Rr X d MRm_go 374 [l0, l1, l2, .int x, l4, l5, l6, l7, l8, l9] st h = Rr X d MRm_go 375 [l0, l1, l2, .int x, l4, l5, l6, l7, l8, l9] (.int x :: st) h := Rr_nx d_MRm_go_374 rfl
theorem r_MRm_go_375 : Rr X d MRm_go 375 L st h = Rr X d MRm_go 376 L (.int (1) :: st) h := Rr_nx d_MRm_go_375 rfl
theorem r_MRm_go_376 {l1 l2 l3 l4 l5 l6 l7 l8 l9 : Value} {x : Nat} : Rr X d MRm_go 376 [.ref x, l1, l2, l3, l4, l5, l6, l7, l8, l9] st h = Rr X d MRm_go 377 [.ref x, l1, l2, l3, l4, l5, l6, l7, l8, l9] (.ref x :: st) h := Rr_nx d_MRm_go_376 rfl
theorem r_MRm_go_377 {a : Nat} (hq : qI a 10 31 = true) : Rr X d MRm_go 377 L (.ref a :: st) (Wd mu la ro et) = Rr X d MRm_go 380 L (.int (mu a 31) :: st) (Wd mu la ro et) := R_gfI d_MRm_go_377 ff_10_263 hq
theorem r_MRm_go_380 {l0 l1 l2 l3 l5 l6 l7 l8 l9 : Value} {x : Int32} : Rr X d MRm_go 380 [l0, l1, l2, l3, .int x, l5, l6, l7, l8, l9] st h = Rr X d MRm_go 382 [l0, l1, l2, l3, .int x, l5, l6, l7, l8, l9] (.int x :: st) h := Rr_nx d_MRm_go_380 rfl
theorem r_MRm_go_382 {y0 : Int32} {y1 : Int32} {y2 : Int32} {y3 : Int32} {a : Nat} (hO : qO a 10 = true) (hc : ckS st = true) : Rr X (d + 1) MRm_go 382 L (.int y3 :: .int y2 :: .int y1 :: .int y0 :: .ref a :: st) (Wd mu la ro et) = (Rr X d MRm_takenBy 0 [.ref a, .int y0, .int y1, .int y2, .int y3] [] (Wd mu la ro et)).bind fun q => Rr X (d + 1) MRm_go 385 L (psh q.1 st) q.2 := R_iv (av := [.int y3, .int y2, .int y1, .int y0]) d_MRm_go_382 fc_10_283 hO (ckS_le hc) rfl (Nat.le_of_ble_eq_true rfl) (Nat.le_of_ble_eq_true rfl)
theorem r_MRm_go_385 {l0 l1 l2 l3 l4 l5 l6 l7 l8 l9 : Value} {x : Int32} : Rr X d MRm_go 385 [l0, l1, l2, l3, l4, l5, l6, l7, l8, l9] (.int x :: st) h = Rr X d MRm_go 387 (sL [l0, l1, l2, l3, l4, l5, l6, l7, l8, l9] 8 (.int x)) st h := Rr_nx d_MRm_go_385 rfl
theorem r_MRm_go_387 {l1 l2 l3 l4 l5 l6 l7 l8 l9 : Value} {x : Nat} : Rr X d MRm_go 387 [.ref x, l1, l2, l3, l4, l5, l6, l7, l8, l9] st h = Rr X d MRm_go 388 [.ref x, l1, l2, l3, l4, l5, l6, l7, l8, l9] (.ref x :: st) h := Rr_nx d_MRm_go_387 rfl
theorem r_MRm_go_388 {l0 l1 l2 l4 l5 l6 l7 l8 l9 : Value} {x : Int32} : Rr X d MRm_go 388 [l0, l1, l2, .int x, l4, l5, l6, l7, l8, l9] st h = Rr X d MRm_go 389 [l0, l1, l2, .int x, l4, l5, l6, l7, l8, l9] (.int x :: st) h := Rr_nx d_MRm_go_388 rfl
theorem r_MRm_go_389 : Rr X d MRm_go 389 L st h = Rr X d MRm_go 390 L (.int (2) :: st) h := Rr_nx d_MRm_go_389 rfl
theorem r_MRm_go_390 {l1 l2 l3 l4 l5 l6 l7 l8 l9 : Value} {x : Nat} : Rr X d MRm_go 390 [.ref x, l1, l2, l3, l4, l5, l6, l7, l8, l9] st h = Rr X d MRm_go 391 [.ref x, l1, l2, l3, l4, l5, l6, l7, l8, l9] (.ref x :: st) h := Rr_nx d_MRm_go_390 rfl
theorem r_MRm_go_391 {a : Nat} (hq : qI a 10 32 = true) : Rr X d MRm_go 391 L (.ref a :: st) (Wd mu la ro et) = Rr X d MRm_go 394 L (.int (mu a 32) :: st) (Wd mu la ro et) := R_gfI d_MRm_go_391 ff_10_266 hq
theorem r_MRm_go_394 {l0 l1 l2 l3 l5 l6 l7 l8 l9 : Value} {x : Int32} : Rr X d MRm_go 394 [l0, l1, l2, l3, .int x, l5, l6, l7, l8, l9] st h = Rr X d MRm_go 396 [l0, l1, l2, l3, .int x, l5, l6, l7, l8, l9] (.int x :: st) h := Rr_nx d_MRm_go_394 rfl
theorem r_MRm_go_396 {y0 : Int32} {y1 : Int32} {y2 : Int32} {y3 : Int32} {a : Nat} (hO : qO a 10 = true) (hc : ckS st = true) : Rr X (d + 1) MRm_go 396 L (.int y3 :: .int y2 :: .int y1 :: .int y0 :: .ref a :: st) (Wd mu la ro et) = (Rr X d MRm_takenBy 0 [.ref a, .int y0, .int y1, .int y2, .int y3] [] (Wd mu la ro et)).bind fun q => Rr X (d + 1) MRm_go 399 L (psh q.1 st) q.2 := R_iv (av := [.int y3, .int y2, .int y1, .int y0]) d_MRm_go_396 fc_10_283 hO (ckS_le hc) rfl (Nat.le_of_ble_eq_true rfl) (Nat.le_of_ble_eq_true rfl)
theorem r_MRm_go_399 {l0 l1 l2 l3 l4 l5 l6 l7 l8 l9 : Value} {x : Int32} : Rr X d MRm_go 399 [l0, l1, l2, l3, l4, l5, l6, l7, l8, l9] (.int x :: st) h = Rr X d MRm_go 401 (sL [l0, l1, l2, l3, l4, l5, l6, l7, l8, l9] 9 (.int x)) st h := Rr_nx d_MRm_go_399 rfl
theorem r_MRm_go_401 {l1 l2 l3 l4 l5 l6 l7 l8 l9 : Value} {x : Nat} : Rr X d MRm_go 401 [.ref x, l1, l2, l3, l4, l5, l6, l7, l8, l9] st h = Rr X d MRm_go 402 [.ref x, l1, l2, l3, l4, l5, l6, l7, l8, l9] (.ref x :: st) h := Rr_nx d_MRm_go_401 rfl
theorem r_MRm_go_402 {x : Nat} : Rr X d MRm_go 402 L (.ref x :: st) h = Rr X d MRm_go 403 L (.ref x :: .ref x :: st) h := Rr_nx d_MRm_go_402 rfl
theorem r_MRm_go_402i {x : Int32} : Rr X d MRm_go 402 L (.int x :: st) h = Rr X d MRm_go 403 L (.int x :: .int x :: st) h := Rr_nx d_MRm_go_402 rfl
theorem r_MRm_go_403 {a : Nat} (hq : qI a 10 30 = true) : Rr X d MRm_go 403 L (.ref a :: st) (Wd mu la ro et) = Rr X d MRm_go 406 L (.int (mu a 30) :: st) (Wd mu la ro et) := R_gfI d_MRm_go_403 ff_10_260 hq
theorem r_MRm_go_406 {l1 l2 l3 l4 l5 l6 l7 l8 l9 : Value} {x : Nat} : Rr X d MRm_go 406 [.ref x, l1, l2, l3, l4, l5, l6, l7, l8, l9] st h = Rr X d MRm_go 407 [.ref x, l1, l2, l3, l4, l5, l6, l7, l8, l9] (.ref x :: st) h := Rr_nx d_MRm_go_406 rfl
theorem r_MRm_go_407 {a : Nat} (hq : qI a 10 30 = true) : Rr X d MRm_go 407 L (.ref a :: st) (Wd mu la ro et) = Rr X d MRm_go 410 L (.int (mu a 30) :: st) (Wd mu la ro et) := R_gfI d_MRm_go_407 ff_10_260 hq
theorem r_MRm_go_410 {x : Int32} : Rr X d MRm_go 410 L (.int x :: st) h = if x ≤ 0 then Rr X d MRm_go 419 L st h else Rr X d MRm_go 413 L st h := R_if_le d_MRm_go_410 (by decide)
theorem r_MRm_go_413 {l0 l1 l2 l3 l4 l5 l6 l8 l9 : Value} {x : Int32} : Rr X d MRm_go 413 [l0, l1, l2, l3, l4, l5, l6, .int x, l8, l9] st h = Rr X d MRm_go 415 [l0, l1, l2, l3, l4, l5, l6, .int x, l8, l9] (.int x :: st) h := Rr_nx d_MRm_go_413 rfl
theorem r_MRm_go_415 {x : Int32} : Rr X d MRm_go 415 L (.int x :: st) h = Rr X d MRm_go 416 L (.int (-x) :: st) h := Rr_nx d_MRm_go_415 rfl
theorem r_MRm_go_416 : Rr X d MRm_go 416 L st h = Rr X d MRm_go 421 L st h := R_goto d_MRm_go_416 (by decide)
theorem r_MRm_go_419 {l0 l1 l2 l3 l4 l5 l6 l8 l9 : Value} {x : Int32} : Rr X d MRm_go 419 [l0, l1, l2, l3, l4, l5, l6, .int x, l8, l9] st h = Rr X d MRm_go 421 [l0, l1, l2, l3, l4, l5, l6, .int x, l8, l9] (.int x :: st) h := Rr_nx d_MRm_go_419 rfl
theorem r_MRm_go_421 {x y : Int32} : Rr X d MRm_go 421 L (.int y :: .int x :: st) h = Rr X d MRm_go 422 L (.int (x + y) :: st) h := Rr_nx d_MRm_go_421 rfl
theorem r_MRm_go_422 {a : Nat} {x : Int32} (hq : qI a 10 30 = true) : Rr X d MRm_go 422 L (.int x :: .ref a :: st) (Wd mu la ro et) = Rr X d MRm_go 425 L st (Wd (up2 mu a 30 x) la ro et) := R_pfI d_MRm_go_422 ff_10_260 hq
theorem r_MRm_go_425 {l1 l2 l3 l4 l5 l6 l7 l8 l9 : Value} {x : Nat} : Rr X d MRm_go 425 [.ref x, l1, l2, l3, l4, l5, l6, l7, l8, l9] st h = Rr X d MRm_go 426 [.ref x, l1, l2, l3, l4, l5, l6, l7, l8, l9] (.ref x :: st) h := Rr_nx d_MRm_go_425 rfl
theorem r_MRm_go_426 {x : Nat} : Rr X d MRm_go 426 L (.ref x :: st) h = Rr X d MRm_go 427 L (.ref x :: .ref x :: st) h := Rr_nx d_MRm_go_426 rfl
theorem r_MRm_go_426i {x : Int32} : Rr X d MRm_go 426 L (.int x :: st) h = Rr X d MRm_go 427 L (.int x :: .int x :: st) h := Rr_nx d_MRm_go_426 rfl
theorem r_MRm_go_427 {a : Nat} (hq : qI a 10 31 = true) : Rr X d MRm_go 427 L (.ref a :: st) (Wd mu la ro et) = Rr X d MRm_go 430 L (.int (mu a 31) :: st) (Wd mu la ro et) := R_gfI d_MRm_go_427 ff_10_263 hq
theorem r_MRm_go_430 {l0 l1 l2 l3 l4 l5 l6 l7 l9 : Value} {x : Int32} : Rr X d MRm_go 430 [l0, l1, l2, l3, l4, l5, l6, l7, .int x, l9] st h = Rr X d MRm_go 432 [l0, l1, l2, l3, l4, l5, l6, l7, .int x, l9] (.int x :: st) h := Rr_nx d_MRm_go_430 rfl
theorem r_MRm_go_432 {x y : Int32} : Rr X d MRm_go 432 L (.int y :: .int x :: st) h = Rr X d MRm_go 433 L (.int (x - y) :: st) h := Rr_nx d_MRm_go_432 rfl
theorem r_MRm_go_433 {a : Nat} {x : Int32} (hq : qI a 10 31 = true) : Rr X d MRm_go 433 L (.int x :: .ref a :: st) (Wd mu la ro et) = Rr X d MRm_go 436 L st (Wd (up2 mu a 31 x) la ro et) := R_pfI d_MRm_go_433 ff_10_263 hq
theorem r_MRm_go_436 {l1 l2 l3 l4 l5 l6 l7 l8 l9 : Value} {x : Nat} : Rr X d MRm_go 436 [.ref x, l1, l2, l3, l4, l5, l6, l7, l8, l9] st h = Rr X d MRm_go 437 [.ref x, l1, l2, l3, l4, l5, l6, l7, l8, l9] (.ref x :: st) h := Rr_nx d_MRm_go_436 rfl
theorem r_MRm_go_437 {x : Nat} : Rr X d MRm_go 437 L (.ref x :: st) h = Rr X d MRm_go 438 L (.ref x :: .ref x :: st) h := Rr_nx d_MRm_go_437 rfl
theorem r_MRm_go_437i {x : Int32} : Rr X d MRm_go 437 L (.int x :: st) h = Rr X d MRm_go 438 L (.int x :: .int x :: st) h := Rr_nx d_MRm_go_437 rfl
theorem r_MRm_go_438 {a : Nat} (hq : qI a 10 32 = true) : Rr X d MRm_go 438 L (.ref a :: st) (Wd mu la ro et) = Rr X d MRm_go 441 L (.int (mu a 32) :: st) (Wd mu la ro et) := R_gfI d_MRm_go_438 ff_10_266 hq
theorem r_MRm_go_441 {l0 l1 l2 l3 l4 l5 l6 l7 l8 : Value} {x : Int32} : Rr X d MRm_go 441 [l0, l1, l2, l3, l4, l5, l6, l7, l8, .int x] st h = Rr X d MRm_go 443 [l0, l1, l2, l3, l4, l5, l6, l7, l8, .int x] (.int x :: st) h := Rr_nx d_MRm_go_441 rfl
theorem r_MRm_go_443 {x y : Int32} : Rr X d MRm_go 443 L (.int y :: .int x :: st) h = Rr X d MRm_go 444 L (.int (x - y) :: st) h := Rr_nx d_MRm_go_443 rfl
theorem r_MRm_go_444 {a : Nat} {x : Int32} (hq : qI a 10 32 = true) : Rr X d MRm_go 444 L (.int x :: .ref a :: st) (Wd mu la ro et) = Rr X d MRm_go 447 L st (Wd (up2 mu a 32 x) la ro et) := R_pfI d_MRm_go_444 ff_10_266 hq
theorem r_MRm_go_447 {l1 l2 l3 l4 l5 l6 l7 l8 l9 : Value} {x : Nat} : Rr X d MRm_go 447 [.ref x, l1, l2, l3, l4, l5, l6, l7, l8, l9] st h = Rr X d MRm_go 448 [.ref x, l1, l2, l3, l4, l5, l6, l7, l8, l9] (.ref x :: st) h := Rr_nx d_MRm_go_447 rfl
theorem r_MRm_go_448 {x : Nat} : Rr X d MRm_go 448 L (.ref x :: st) h = Rr X d MRm_go 449 L (.ref x :: .ref x :: st) h := Rr_nx d_MRm_go_448 rfl
theorem r_MRm_go_448i {x : Int32} : Rr X d MRm_go 448 L (.int x :: st) h = Rr X d MRm_go 449 L (.int x :: .int x :: st) h := Rr_nx d_MRm_go_448 rfl
theorem r_MRm_go_449 {a : Nat} (hq : qI a 10 33 = true) : Rr X d MRm_go 449 L (.ref a :: st) (Wd mu la ro et) = Rr X d MRm_go 452 L (.int (mu a 33) :: st) (Wd mu la ro et) := R_gfI d_MRm_go_449 ff_10_269 hq
theorem r_MRm_go_452 {l0 l1 l2 l3 l4 l5 l6 l8 l9 : Value} {x : Int32} : Rr X d MRm_go 452 [l0, l1, l2, l3, l4, l5, l6, .int x, l8, l9] st h = Rr X d MRm_go 454 [l0, l1, l2, l3, l4, l5, l6, .int x, l8, l9] (.int x :: st) h := Rr_nx d_MRm_go_452 rfl
theorem r_MRm_go_454 {x y : Int32} : Rr X d MRm_go 454 L (.int y :: .int x :: st) h = Rr X d MRm_go 455 L (.int (x + y) :: st) h := Rr_nx d_MRm_go_454 rfl
theorem r_MRm_go_455 {a : Nat} {x : Int32} (hq : qI a 10 33 = true) : Rr X d MRm_go 455 L (.int x :: .ref a :: st) (Wd mu la ro et) = Rr X d MRm_go 458 L st (Wd (up2 mu a 33 x) la ro et) := R_pfI d_MRm_go_455 ff_10_269 hq
theorem r_MRm_go_458 {l1 l2 l3 l4 l5 l6 l7 l8 l9 : Value} {x : Nat} : Rr X d MRm_go 458 [.ref x, l1, l2, l3, l4, l5, l6, l7, l8, l9] st h = Rr X d MRm_go 459 [.ref x, l1, l2, l3, l4, l5, l6, l7, l8, l9] (.ref x :: st) h := Rr_nx d_MRm_go_458 rfl
theorem r_MRm_go_459 {x : Nat} : Rr X d MRm_go 459 L (.ref x :: st) h = Rr X d MRm_go 460 L (.ref x :: .ref x :: st) h := Rr_nx d_MRm_go_459 rfl
theorem r_MRm_go_459i {x : Int32} : Rr X d MRm_go 459 L (.int x :: st) h = Rr X d MRm_go 460 L (.int x :: .int x :: st) h := Rr_nx d_MRm_go_459 rfl
theorem r_MRm_go_460 {a : Nat} (hq : qI a 10 34 = true) : Rr X d MRm_go 460 L (.ref a :: st) (Wd mu la ro et) = Rr X d MRm_go 463 L (.int (mu a 34) :: st) (Wd mu la ro et) := R_gfI d_MRm_go_460 ff_10_272 hq
theorem r_MRm_go_463 {l0 l1 l2 l3 l4 l5 l6 l7 l9 : Value} {x : Int32} : Rr X d MRm_go 463 [l0, l1, l2, l3, l4, l5, l6, l7, .int x, l9] st h = Rr X d MRm_go 465 [l0, l1, l2, l3, l4, l5, l6, l7, .int x, l9] (.int x :: st) h := Rr_nx d_MRm_go_463 rfl
theorem r_MRm_go_465 {x y : Int32} : Rr X d MRm_go 465 L (.int y :: .int x :: st) h = Rr X d MRm_go 466 L (.int (x + y) :: st) h := Rr_nx d_MRm_go_465 rfl
theorem r_MRm_go_466 {a : Nat} {x : Int32} (hq : qI a 10 34 = true) : Rr X d MRm_go 466 L (.int x :: .ref a :: st) (Wd mu la ro et) = Rr X d MRm_go 469 L st (Wd (up2 mu a 34 x) la ro et) := R_pfI d_MRm_go_466 ff_10_272 hq
theorem r_MRm_go_469 {l1 l2 l3 l4 l5 l6 l7 l8 l9 : Value} {x : Nat} : Rr X d MRm_go 469 [.ref x, l1, l2, l3, l4, l5, l6, l7, l8, l9] st h = Rr X d MRm_go 470 [.ref x, l1, l2, l3, l4, l5, l6, l7, l8, l9] (.ref x :: st) h := Rr_nx d_MRm_go_469 rfl
theorem r_MRm_go_470 {x : Nat} : Rr X d MRm_go 470 L (.ref x :: st) h = Rr X d MRm_go 471 L (.ref x :: .ref x :: st) h := Rr_nx d_MRm_go_470 rfl
theorem r_MRm_go_470i {x : Int32} : Rr X d MRm_go 470 L (.int x :: st) h = Rr X d MRm_go 471 L (.int x :: .int x :: st) h := Rr_nx d_MRm_go_470 rfl
theorem r_MRm_go_471 {a : Nat} (hq : qI a 10 35 = true) : Rr X d MRm_go 471 L (.ref a :: st) (Wd mu la ro et) = Rr X d MRm_go 474 L (.int (mu a 35) :: st) (Wd mu la ro et) := R_gfI d_MRm_go_471 ff_10_275 hq
theorem r_MRm_go_474 {l0 l1 l2 l3 l4 l5 l6 l7 l8 : Value} {x : Int32} : Rr X d MRm_go 474 [l0, l1, l2, l3, l4, l5, l6, l7, l8, .int x] st h = Rr X d MRm_go 476 [l0, l1, l2, l3, l4, l5, l6, l7, l8, .int x] (.int x :: st) h := Rr_nx d_MRm_go_474 rfl
theorem r_MRm_go_476 {x y : Int32} : Rr X d MRm_go 476 L (.int y :: .int x :: st) h = Rr X d MRm_go 477 L (.int (x + y) :: st) h := Rr_nx d_MRm_go_476 rfl
theorem r_MRm_go_477 {a : Nat} {x : Int32} (hq : qI a 10 35 = true) : Rr X d MRm_go 477 L (.int x :: .ref a :: st) (Wd mu la ro et) = Rr X d MRm_go 480 L st (Wd (up2 mu a 35 x) la ro et) := R_pfI d_MRm_go_477 ff_10_275 hq
theorem r_MRm_go_480 : Rr X d MRm_go 480 L [] h = some (none, h) := Rr_rt d_MRm_go_480 rfl
theorem d_MRm_note_0 : decode MRm_note.2.2.1 0 = .ok (.aload_n 0, 1) := lkT_ok tk_MRm_note rfl
theorem d_MRm_note_1 : decode MRm_note.2.2.1 1 = .ok (.getfield 63, 3) := lkT_ok tk_MRm_note rfl
theorem d_MRm_note_4 : decode MRm_note.2.2.1 4 = .ok (.iload_n 1, 1) := lkT_ok tk_MRm_note rfl
theorem d_MRm_note_5 : decode MRm_note.2.2.1 5 = .ok (.aload_n 0, 1) := lkT_ok tk_MRm_note rfl
theorem d_MRm_note_6 : decode MRm_note.2.2.1 6 = .ok (.getfield 260, 3) := lkT_ok tk_MRm_note rfl
theorem d_MRm_note_9 : decode MRm_note.2.2.1 9 = .ok (.iastore, 1) := lkT_ok tk_MRm_note rfl
theorem d_MRm_note_10 : decode MRm_note.2.2.1 10 = .ok (.aload_n 0, 1) := lkT_ok tk_MRm_note rfl
theorem d_MRm_note_11 : decode MRm_note.2.2.1 11 = .ok (.getfield 66, 3) := lkT_ok tk_MRm_note rfl
theorem d_MRm_note_14 : decode MRm_note.2.2.1 14 = .ok (.iload_n 1, 1) := lkT_ok tk_MRm_note rfl
theorem d_MRm_note_15 : decode MRm_note.2.2.1 15 = .ok (.aload_n 0, 1) := lkT_ok tk_MRm_note rfl
theorem d_MRm_note_16 : decode MRm_note.2.2.1 16 = .ok (.getfield 263, 3) := lkT_ok tk_MRm_note rfl
theorem d_MRm_note_19 : decode MRm_note.2.2.1 19 = .ok (.iastore, 1) := lkT_ok tk_MRm_note rfl
theorem d_MRm_note_20 : decode MRm_note.2.2.1 20 = .ok (.aload_n 0, 1) := lkT_ok tk_MRm_note rfl
theorem d_MRm_note_21 : decode MRm_note.2.2.1 21 = .ok (.getfield 69, 3) := lkT_ok tk_MRm_note rfl
theorem d_MRm_note_24 : decode MRm_note.2.2.1 24 = .ok (.iload_n 1, 1) := lkT_ok tk_MRm_note rfl
theorem d_MRm_note_25 : decode MRm_note.2.2.1 25 = .ok (.aload_n 0, 1) := lkT_ok tk_MRm_note rfl
theorem d_MRm_note_26 : decode MRm_note.2.2.1 26 = .ok (.getfield 266, 3) := lkT_ok tk_MRm_note rfl
theorem d_MRm_note_29 : decode MRm_note.2.2.1 29 = .ok (.iastore, 1) := lkT_ok tk_MRm_note rfl
theorem d_MRm_note_30 : decode MRm_note.2.2.1 30 = .ok (.return_, 1) := lkT_ok tk_MRm_note rfl
theorem r_MRm_note_0 {l1 : Value} {x : Nat} : Rr X d MRm_note 0 [.ref x, l1] st h = Rr X d MRm_note 1 [.ref x, l1] (.ref x :: st) h := Rr_nx d_MRm_note_0 rfl
theorem ff_10_63 : fF 10 63 = some (10, 36, 1, 1) := rfl
theorem r_MRm_note_1 {a : Nat} (hq : (qR a 10 36).isSome = true) : Rr X d MRm_note 1 L (.ref a :: st) (Wd mu la ro et) = Rr X d MRm_note 4 L (.ref (qRd a 10 36) :: st) (Wd mu la ro et) := R_gfR d_MRm_note_1 ff_10_63 hq
theorem r_MRm_note_4 {l0 : Value} {x : Int32} : Rr X d MRm_note 4 [l0, .int x] st h = Rr X d MRm_note 5 [l0, .int x] (.int x :: st) h := Rr_nx d_MRm_note_4 rfl
theorem r_MRm_note_5 {l1 : Value} {x : Nat} : Rr X d MRm_note 5 [.ref x, l1] st h = Rr X d MRm_note 6 [.ref x, l1] (.ref x :: st) h := Rr_nx d_MRm_note_5 rfl
theorem r_MRm_note_6 {a : Nat} (hq : qI a 10 30 = true) : Rr X d MRm_note 6 L (.ref a :: st) (Wd mu la ro et) = Rr X d MRm_note 9 L (.int (mu a 30) :: st) (Wd mu la ro et) := R_gfI d_MRm_note_6 ff_10_260 hq
theorem r_MRm_note_9 {a : Nat} {j x : Int32} (hq : (qA a 0).isSome = true) : Rr X d MRm_note 9 L (.int x :: .int j :: .ref a :: st) (Wd mu la ro et) = if j < 0 ∨ qAd a 0 ≤ j.toNatClampNeg then none else Rr X d MRm_note 10 L st (Wd (up2 mu a j.toNatClampNeg (x)) la ro et) := R_iasW d_MRm_note_9 hq
theorem r_MRm_note_10 {l1 : Value} {x : Nat} : Rr X d MRm_note 10 [.ref x, l1] st h = Rr X d MRm_note 11 [.ref x, l1] (.ref x :: st) h := Rr_nx d_MRm_note_10 rfl
theorem ff_10_66 : fF 10 66 = some (10, 37, 1, 1) := rfl
theorem r_MRm_note_11 {a : Nat} (hq : (qR a 10 37).isSome = true) : Rr X d MRm_note 11 L (.ref a :: st) (Wd mu la ro et) = Rr X d MRm_note 14 L (.ref (qRd a 10 37) :: st) (Wd mu la ro et) := R_gfR d_MRm_note_11 ff_10_66 hq
theorem r_MRm_note_14 {l0 : Value} {x : Int32} : Rr X d MRm_note 14 [l0, .int x] st h = Rr X d MRm_note 15 [l0, .int x] (.int x :: st) h := Rr_nx d_MRm_note_14 rfl
theorem r_MRm_note_15 {l1 : Value} {x : Nat} : Rr X d MRm_note 15 [.ref x, l1] st h = Rr X d MRm_note 16 [.ref x, l1] (.ref x :: st) h := Rr_nx d_MRm_note_15 rfl
theorem r_MRm_note_16 {a : Nat} (hq : qI a 10 31 = true) : Rr X d MRm_note 16 L (.ref a :: st) (Wd mu la ro et) = Rr X d MRm_note 19 L (.int (mu a 31) :: st) (Wd mu la ro et) := R_gfI d_MRm_note_16 ff_10_263 hq
theorem r_MRm_note_19 {a : Nat} {j x : Int32} (hq : (qA a 0).isSome = true) : Rr X d MRm_note 19 L (.int x :: .int j :: .ref a :: st) (Wd mu la ro et) = if j < 0 ∨ qAd a 0 ≤ j.toNatClampNeg then none else Rr X d MRm_note 20 L st (Wd (up2 mu a j.toNatClampNeg (x)) la ro et) := R_iasW d_MRm_note_19 hq
theorem r_MRm_note_20 {l1 : Value} {x : Nat} : Rr X d MRm_note 20 [.ref x, l1] st h = Rr X d MRm_note 21 [.ref x, l1] (.ref x :: st) h := Rr_nx d_MRm_note_20 rfl
theorem ff_10_69 : fF 10 69 = some (10, 38, 1, 1) := rfl
theorem r_MRm_note_21 {a : Nat} (hq : (qR a 10 38).isSome = true) : Rr X d MRm_note 21 L (.ref a :: st) (Wd mu la ro et) = Rr X d MRm_note 24 L (.ref (qRd a 10 38) :: st) (Wd mu la ro et) := R_gfR d_MRm_note_21 ff_10_69 hq
theorem r_MRm_note_24 {l0 : Value} {x : Int32} : Rr X d MRm_note 24 [l0, .int x] st h = Rr X d MRm_note 25 [l0, .int x] (.int x :: st) h := Rr_nx d_MRm_note_24 rfl
theorem r_MRm_note_25 {l1 : Value} {x : Nat} : Rr X d MRm_note 25 [.ref x, l1] st h = Rr X d MRm_note 26 [.ref x, l1] (.ref x :: st) h := Rr_nx d_MRm_note_25 rfl
theorem r_MRm_note_26 {a : Nat} (hq : qI a 10 32 = true) : Rr X d MRm_note 26 L (.ref a :: st) (Wd mu la ro et) = Rr X d MRm_note 29 L (.int (mu a 32) :: st) (Wd mu la ro et) := R_gfI d_MRm_note_26 ff_10_266 hq
theorem r_MRm_note_29 {a : Nat} {j x : Int32} (hq : (qA a 0).isSome = true) : Rr X d MRm_note 29 L (.int x :: .int j :: .ref a :: st) (Wd mu la ro et) = if j < 0 ∨ qAd a 0 ≤ j.toNatClampNeg then none else Rr X d MRm_note 30 L st (Wd (up2 mu a j.toNatClampNeg (x)) la ro et) := R_iasW d_MRm_note_29 hq
theorem r_MRm_note_30 : Rr X d MRm_note 30 L [] h = some (none, h) := Rr_rt d_MRm_note_30 rfl
theorem d_MRm_roll_0 : decode MRm_roll.2.2.1 0 = .ok (.aload_n 0, 1) := lkT_ok tk_MRm_roll rfl
theorem d_MRm_roll_1 : decode MRm_roll.2.2.1 1 = .ok (.iload_n 1, 1) := lkT_ok tk_MRm_roll rfl
theorem d_MRm_roll_2 : decode MRm_roll.2.2.1 2 = .ok (.invokevirtual 287, 3) := lkT_ok tk_MRm_roll rfl
theorem d_MRm_roll_5 : decode MRm_roll.2.2.1 5 = .ok (.ifCond .eq 23, 3) := lkT_ok tk_MRm_roll rfl
theorem d_MRm_roll_8 : decode MRm_roll.2.2.1 8 = .ok (.iload_n 2, 1) := lkT_ok tk_MRm_roll rfl
theorem d_MRm_roll_9 : decode MRm_roll.2.2.1 9 = .ok (.iload_n 3, 1) := lkT_ok tk_MRm_roll rfl
theorem d_MRm_roll_10 : decode MRm_roll.2.2.1 10 = .ok (.invokestatic 290, 3) := lkT_ok tk_MRm_roll rfl
theorem d_MRm_roll_13 : decode MRm_roll.2.2.1 13 = .ok (.ifCond .eq 15, 3) := lkT_ok tk_MRm_roll rfl
theorem d_MRm_roll_16 : decode MRm_roll.2.2.1 16 = .ok (.iload 4, 2) := lkT_ok tk_MRm_roll rfl
theorem d_MRm_roll_18 : decode MRm_roll.2.2.1 18 = .ok (.iconst 0, 1) := lkT_ok tk_MRm_roll rfl
theorem d_MRm_roll_19 : decode MRm_roll.2.2.1 19 = .ok (.sipush 400, 3) := lkT_ok tk_MRm_roll rfl
theorem d_MRm_roll_22 : decode MRm_roll.2.2.1 22 = .ok (.invokestatic 107, 3) := lkT_ok tk_MRm_roll rfl
theorem d_MRm_roll_25 : decode MRm_roll.2.2.1 25 = .ok (.ifCond .ne 6, 3) := lkT_ok tk_MRm_roll rfl
theorem d_MRm_roll_28 : decode MRm_roll.2.2.1 28 = .ok (.ldc 176, 2) := lkT_ok tk_MRm_roll rfl
theorem d_MRm_roll_30 : decode MRm_roll.2.2.1 30 = .ok (.ireturn, 1) := lkT_ok tk_MRm_roll rfl
theorem d_MRm_roll_31 : decode MRm_roll.2.2.1 31 = .ok (.aload_n 0, 1) := lkT_ok tk_MRm_roll rfl
theorem d_MRm_roll_32 : decode MRm_roll.2.2.1 32 = .ok (.iload_n 1, 1) := lkT_ok tk_MRm_roll rfl
theorem d_MRm_roll_33 : decode MRm_roll.2.2.1 33 = .ok (.bipush 10, 2) := lkT_ok tk_MRm_roll rfl
theorem d_MRm_roll_35 : decode MRm_roll.2.2.1 35 = .ok (.idiv, 1) := lkT_ok tk_MRm_roll rfl
theorem d_MRm_roll_36 : decode MRm_roll.2.2.1 36 = .ok (.invokevirtual 177, 3) := lkT_ok tk_MRm_roll rfl
theorem d_MRm_roll_39 : decode MRm_roll.2.2.1 39 = .ok (.istore 5, 2) := lkT_ok tk_MRm_roll rfl
theorem d_MRm_roll_41 : decode MRm_roll.2.2.1 41 = .ok (.aload_n 0, 1) := lkT_ok tk_MRm_roll rfl
theorem d_MRm_roll_42 : decode MRm_roll.2.2.1 42 = .ok (.iload_n 2, 1) := lkT_ok tk_MRm_roll rfl
theorem d_MRm_roll_43 : decode MRm_roll.2.2.1 43 = .ok (.iload_n 3, 1) := lkT_ok tk_MRm_roll rfl
theorem d_MRm_roll_44 : decode MRm_roll.2.2.1 44 = .ok (.invokevirtual 294, 3) := lkT_ok tk_MRm_roll rfl
theorem d_MRm_roll_47 : decode MRm_roll.2.2.1 47 = .ok (.aload_n 0, 1) := lkT_ok tk_MRm_roll rfl
theorem d_MRm_roll_48 : decode MRm_roll.2.2.1 48 = .ok (.iconst 0, 1) := lkT_ok tk_MRm_roll rfl
theorem d_MRm_roll_49 : decode MRm_roll.2.2.1 49 = .ok (.invokevirtual 297, 3) := lkT_ok tk_MRm_roll rfl
theorem d_MRm_roll_52 : decode MRm_roll.2.2.1 52 = .ok (.iconst 1, 1) := lkT_ok tk_MRm_roll rfl
theorem d_MRm_roll_53 : decode MRm_roll.2.2.1 53 = .ok (.istore 6, 2) := lkT_ok tk_MRm_roll rfl
theorem d_MRm_roll_55 : decode MRm_roll.2.2.1 55 = .ok (.iload 6, 2) := lkT_ok tk_MRm_roll rfl
theorem d_MRm_roll_57 : decode MRm_roll.2.2.1 57 = .ok (.iload 4, 2) := lkT_ok tk_MRm_roll rfl
theorem d_MRm_roll_59 : decode MRm_roll.2.2.1 59 = .ok (.if_icmp .gt 31, 3) := lkT_ok tk_MRm_roll rfl
theorem d_MRm_roll_62 : decode MRm_roll.2.2.1 62 = .ok (.aload_n 0, 1) := lkT_ok tk_MRm_roll rfl
theorem d_MRm_roll_63 : decode MRm_roll.2.2.1 63 = .ok (.iload_n 1, 1) := lkT_ok tk_MRm_roll rfl
theorem d_MRm_roll_64 : decode MRm_roll.2.2.1 64 = .ok (.bipush 10, 2) := lkT_ok tk_MRm_roll rfl
theorem d_MRm_roll_66 : decode MRm_roll.2.2.1 66 = .ok (.idiv, 1) := lkT_ok tk_MRm_roll rfl
theorem d_MRm_roll_67 : decode MRm_roll.2.2.1 67 = .ok (.iload 5, 2) := lkT_ok tk_MRm_roll rfl
theorem d_MRm_roll_69 : decode MRm_roll.2.2.1 69 = .ok (.iload_n 1, 1) := lkT_ok tk_MRm_roll rfl
theorem d_MRm_roll_70 : decode MRm_roll.2.2.1 70 = .ok (.bipush 10, 2) := lkT_ok tk_MRm_roll rfl
theorem d_MRm_roll_72 : decode MRm_roll.2.2.1 72 = .ok (.irem, 1) := lkT_ok tk_MRm_roll rfl
theorem d_MRm_roll_73 : decode MRm_roll.2.2.1 73 = .ok (.iload 6, 2) := lkT_ok tk_MRm_roll rfl
theorem d_MRm_roll_75 : decode MRm_roll.2.2.1 75 = .ok (.invokevirtual 300, 3) := lkT_ok tk_MRm_roll rfl
theorem d_MRm_roll_78 : decode MRm_roll.2.2.1 78 = .ok (.aload_n 0, 1) := lkT_ok tk_MRm_roll rfl
theorem d_MRm_roll_79 : decode MRm_roll.2.2.1 79 = .ok (.iload 6, 2) := lkT_ok tk_MRm_roll rfl
theorem d_MRm_roll_81 : decode MRm_roll.2.2.1 81 = .ok (.invokevirtual 297, 3) := lkT_ok tk_MRm_roll rfl
theorem d_MRm_roll_84 : decode MRm_roll.2.2.1 84 = .ok (.iinc 6 1, 3) := lkT_ok tk_MRm_roll rfl
theorem d_MRm_roll_87 : decode MRm_roll.2.2.1 87 = .ok (.goto (-32), 3) := lkT_ok tk_MRm_roll rfl
theorem d_MRm_roll_90 : decode MRm_roll.2.2.1 90 = .ok (.aload_n 0, 1) := lkT_ok tk_MRm_roll rfl
theorem d_MRm_roll_91 : decode MRm_roll.2.2.1 91 = .ok (.iload 4, 2) := lkT_ok tk_MRm_roll rfl
theorem d_MRm_roll_93 : decode MRm_roll.2.2.1 93 = .ok (.putfield 72, 3) := lkT_ok tk_MRm_roll rfl
theorem d_MRm_roll_96 : decode MRm_roll.2.2.1 96 = .ok (.aload_n 0, 1) := lkT_ok tk_MRm_roll rfl
theorem d_MRm_roll_97 : decode MRm_roll.2.2.1 97 = .ok (.aload_n 0, 1) := lkT_ok tk_MRm_roll rfl
theorem d_MRm_roll_98 : decode MRm_roll.2.2.1 98 = .ok (.getfield 269, 3) := lkT_ok tk_MRm_roll rfl
theorem d_MRm_roll_101 : decode MRm_roll.2.2.1 101 = .ok (.putfield 304, 3) := lkT_ok tk_MRm_roll rfl
theorem d_MRm_roll_104 : decode MRm_roll.2.2.1 104 = .ok (.aload_n 0, 1) := lkT_ok tk_MRm_roll rfl
theorem d_MRm_roll_105 : decode MRm_roll.2.2.1 105 = .ok (.aload_n 0, 1) := lkT_ok tk_MRm_roll rfl
theorem d_MRm_roll_106 : decode MRm_roll.2.2.1 106 = .ok (.getfield 272, 3) := lkT_ok tk_MRm_roll rfl
theorem d_MRm_roll_109 : decode MRm_roll.2.2.1 109 = .ok (.putfield 307, 3) := lkT_ok tk_MRm_roll rfl
theorem d_MRm_roll_112 : decode MRm_roll.2.2.1 112 = .ok (.aload_n 0, 1) := lkT_ok tk_MRm_roll rfl
theorem d_MRm_roll_113 : decode MRm_roll.2.2.1 113 = .ok (.aload_n 0, 1) := lkT_ok tk_MRm_roll rfl
theorem d_MRm_roll_114 : decode MRm_roll.2.2.1 114 = .ok (.getfield 275, 3) := lkT_ok tk_MRm_roll rfl
theorem d_MRm_roll_117 : decode MRm_roll.2.2.1 117 = .ok (.putfield 310, 3) := lkT_ok tk_MRm_roll rfl
theorem d_MRm_roll_120 : decode MRm_roll.2.2.1 120 = .ok (.aload_n 0, 1) := lkT_ok tk_MRm_roll rfl
theorem d_MRm_roll_121 : decode MRm_roll.2.2.1 121 = .ok (.getfield 260, 3) := lkT_ok tk_MRm_roll rfl
theorem d_MRm_roll_124 : decode MRm_roll.2.2.1 124 = .ok (.ireturn, 1) := lkT_ok tk_MRm_roll rfl
theorem r_MRm_roll_0 {l1 l2 l3 l4 l5 l6 : Value} {x : Nat} : Rr X d MRm_roll 0 [.ref x, l1, l2, l3, l4, l5, l6] st h = Rr X d MRm_roll 1 [.ref x, l1, l2, l3, l4, l5, l6] (.ref x :: st) h := Rr_nx d_MRm_roll_0 rfl
theorem r_MRm_roll_1 {l0 l2 l3 l4 l5 l6 : Value} {x : Int32} : Rr X d MRm_roll 1 [l0, .int x, l2, l3, l4, l5, l6] st h = Rr X d MRm_roll 2 [l0, .int x, l2, l3, l4, l5, l6] (.int x :: st) h := Rr_nx d_MRm_roll_1 rfl
theorem fc_10_287 : fC 10 287 = some (0, 10, 1, MRm_isGoing) := rfl
theorem r_MRm_roll_2 {y0 : Int32} {a : Nat} (hO : qO a 10 = true) (hc : ckS st = true) : Rr X (d + 1) MRm_roll 2 L (.int y0 :: .ref a :: st) (Wd mu la ro et) = (Rr X d MRm_isGoing 0 [.ref a, .int y0] [] (Wd mu la ro et)).bind fun q => Rr X (d + 1) MRm_roll 5 L (psh q.1 st) q.2 := R_iv (av := [.int y0]) d_MRm_roll_2 fc_10_287 hO (ckS_le hc) rfl (Nat.le_of_ble_eq_true rfl) (Nat.le_of_ble_eq_true rfl)
theorem r_MRm_roll_5 {x : Int32} : Rr X d MRm_roll 5 L (.int x :: st) h = if x = 0 then Rr X d MRm_roll 28 L st h else Rr X d MRm_roll 8 L st h := R_if_eq d_MRm_roll_5 (by decide)
theorem r_MRm_roll_8 {l0 l1 l3 l4 l5 l6 : Value} {x : Int32} : Rr X d MRm_roll 8 [l0, l1, .int x, l3, l4, l5, l6] st h = Rr X d MRm_roll 9 [l0, l1, .int x, l3, l4, l5, l6] (.int x :: st) h := Rr_nx d_MRm_roll_8 rfl
theorem r_MRm_roll_9 {l0 l1 l2 l4 l5 l6 : Value} {x : Int32} : Rr X d MRm_roll 9 [l0, l1, l2, .int x, l4, l5, l6] st h = Rr X d MRm_roll 10 [l0, l1, l2, .int x, l4, l5, l6] (.int x :: st) h := Rr_nx d_MRm_roll_9 rfl
theorem fc_10_290 : fC 10 290 = some (1, 0, 2, MRm_isStart) := rfl
theorem r_MRm_roll_10 {y0 : Int32} {y1 : Int32} (hc : ckS st = true) : Rr X (d + 1) MRm_roll 10 L (.int y1 :: .int y0 :: st) h = (Rr X d MRm_isStart 0 [.int y0, .int y1] [] h).bind fun q => Rr X (d + 1) MRm_roll 13 L (psh q.1 st) q.2 := R_is (av := [.int y1, .int y0]) d_MRm_roll_10 (Or.inl fc_10_290) (ckS_le hc) rfl (Nat.le_of_ble_eq_true rfl) (Nat.le_of_ble_eq_true rfl)
theorem r_MRm_roll_13 {x : Int32} : Rr X d MRm_roll 13 L (.int x :: st) h = if x = 0 then Rr X d MRm_roll 28 L st h else Rr X d MRm_roll 16 L st h := R_if_eq d_MRm_roll_13 (by decide)
theorem r_MRm_roll_16 {l0 l1 l2 l3 l5 l6 : Value} {x : Int32} : Rr X d MRm_roll 16 [l0, l1, l2, l3, .int x, l5, l6] st h = Rr X d MRm_roll 18 [l0, l1, l2, l3, .int x, l5, l6] (.int x :: st) h := Rr_nx d_MRm_roll_16 rfl
theorem r_MRm_roll_18 : Rr X d MRm_roll 18 L st h = Rr X d MRm_roll 19 L (.int (0) :: st) h := Rr_nx d_MRm_roll_18 rfl
theorem r_MRm_roll_19 : Rr X d MRm_roll 19 L st h = Rr X d MRm_roll 22 L (.int (400) :: st) h := Rr_nx d_MRm_roll_19 rfl
theorem r_MRm_roll_22 {y0 : Int32} {y1 : Int32} {y2 : Int32} (hc : ckS st = true) : Rr X (d + 1) MRm_roll 22 L (.int y2 :: .int y1 :: .int y0 :: st) h = (Rr X d MRm_in 0 [.int y0, .int y1, .int y2] [] h).bind fun q => Rr X (d + 1) MRm_roll 25 L (psh q.1 st) q.2 := R_is (av := [.int y2, .int y1, .int y0]) d_MRm_roll_22 (Or.inl fc_10_107) (ckS_le hc) rfl (Nat.le_of_ble_eq_true rfl) (Nat.le_of_ble_eq_true rfl)
theorem r_MRm_roll_25 {x : Int32} : Rr X d MRm_roll 25 L (.int x :: st) h = if ¬ x = 0 then Rr X d MRm_roll 31 L st h else Rr X d MRm_roll 28 L st h := R_if_ne d_MRm_roll_25 (by decide)
theorem r_MRm_roll_28 : Rr X d MRm_roll 28 L st h = Rr X d MRm_roll 30 L (.int (-2000000000) :: st) h := Rr_nx d_MRm_roll_28 rfl
theorem r_MRm_roll_30 {x : Int32} : Rr X d MRm_roll 30 L [.int x] h = some (some (.int x), h) := R_ir d_MRm_roll_30 rfl
theorem r_MRm_roll_31 {l1 l2 l3 l4 l5 l6 : Value} {x : Nat} : Rr X d MRm_roll 31 [.ref x, l1, l2, l3, l4, l5, l6] st h = Rr X d MRm_roll 32 [.ref x, l1, l2, l3, l4, l5, l6] (.ref x :: st) h := Rr_nx d_MRm_roll_31 rfl
theorem r_MRm_roll_32 {l0 l2 l3 l4 l5 l6 : Value} {x : Int32} : Rr X d MRm_roll 32 [l0, .int x, l2, l3, l4, l5, l6] st h = Rr X d MRm_roll 33 [l0, .int x, l2, l3, l4, l5, l6] (.int x :: st) h := Rr_nx d_MRm_roll_32 rfl
theorem r_MRm_roll_33 : Rr X d MRm_roll 33 L st h = Rr X d MRm_roll 35 L (.int (10) :: st) h := Rr_nx d_MRm_roll_33 rfl
theorem r_MRm_roll_35 {x y : Int32} : Rr X d MRm_roll 35 L (.int y :: .int x :: st) h = if y = 0 then none else Rr X d MRm_roll 36 L (.int (x / y) :: st) h := R_dv d_MRm_roll_35
theorem r_MRm_roll_36 {y0 : Int32} {a : Nat} (hO : qO a 10 = true) (hc : ckS st = true) : Rr X (d + 1) MRm_roll 36 L (.int y0 :: .ref a :: st) (Wd mu la ro et) = (Rr X d MRm_keenOf 0 [.ref a, .int y0] [] (Wd mu la ro et)).bind fun q => Rr X (d + 1) MRm_roll 39 L (psh q.1 st) q.2 := R_iv (av := [.int y0]) d_MRm_roll_36 fc_10_177 hO (ckS_le hc) rfl (Nat.le_of_ble_eq_true rfl) (Nat.le_of_ble_eq_true rfl)
theorem r_MRm_roll_39 {l0 l1 l2 l3 l4 l5 l6 : Value} {x : Int32} : Rr X d MRm_roll 39 [l0, l1, l2, l3, l4, l5, l6] (.int x :: st) h = Rr X d MRm_roll 41 (sL [l0, l1, l2, l3, l4, l5, l6] 5 (.int x)) st h := Rr_nx d_MRm_roll_39 rfl
theorem r_MRm_roll_41 {l1 l2 l3 l4 l5 l6 : Value} {x : Nat} : Rr X d MRm_roll 41 [.ref x, l1, l2, l3, l4, l5, l6] st h = Rr X d MRm_roll 42 [.ref x, l1, l2, l3, l4, l5, l6] (.ref x :: st) h := Rr_nx d_MRm_roll_41 rfl
theorem r_MRm_roll_42 {l0 l1 l3 l4 l5 l6 : Value} {x : Int32} : Rr X d MRm_roll 42 [l0, l1, .int x, l3, l4, l5, l6] st h = Rr X d MRm_roll 43 [l0, l1, .int x, l3, l4, l5, l6] (.int x :: st) h := Rr_nx d_MRm_roll_42 rfl
theorem r_MRm_roll_43 {l0 l1 l2 l4 l5 l6 : Value} {x : Int32} : Rr X d MRm_roll 43 [l0, l1, l2, .int x, l4, l5, l6] st h = Rr X d MRm_roll 44 [l0, l1, l2, .int x, l4, l5, l6] (.int x :: st) h := Rr_nx d_MRm_roll_43 rfl
theorem r_MRm_roll_44 {y0 : Int32} {y1 : Int32} {a : Nat} (hO : qO a 10 = true) (hc : ckS st = true) : Rr X (d + 1) MRm_roll 44 L (.int y1 :: .int y0 :: .ref a :: st) (Wd mu la ro et) = (Rr X d MRm_begin 0 [.ref a, .int y0, .int y1] [] (Wd mu la ro et)).bind fun q => Rr X (d + 1) MRm_roll 47 L (psh q.1 st) q.2 := R_iv (av := [.int y1, .int y0]) d_MRm_roll_44 fc_10_294 hO (ckS_le hc) rfl (Nat.le_of_ble_eq_true rfl) (Nat.le_of_ble_eq_true rfl)
theorem r_MRm_roll_47 {l1 l2 l3 l4 l5 l6 : Value} {x : Nat} : Rr X d MRm_roll 47 [.ref x, l1, l2, l3, l4, l5, l6] st h = Rr X d MRm_roll 48 [.ref x, l1, l2, l3, l4, l5, l6] (.ref x :: st) h := Rr_nx d_MRm_roll_47 rfl
theorem r_MRm_roll_48 : Rr X d MRm_roll 48 L st h = Rr X d MRm_roll 49 L (.int (0) :: st) h := Rr_nx d_MRm_roll_48 rfl
theorem fc_10_297 : fC 10 297 = some (0, 10, 1, MRm_note) := rfl
theorem r_MRm_roll_49 {y0 : Int32} {a : Nat} (hO : qO a 10 = true) (hc : ckS st = true) : Rr X (d + 1) MRm_roll 49 L (.int y0 :: .ref a :: st) (Wd mu la ro et) = (Rr X d MRm_note 0 [.ref a, .int y0] [] (Wd mu la ro et)).bind fun q => Rr X (d + 1) MRm_roll 52 L (psh q.1 st) q.2 := R_iv (av := [.int y0]) d_MRm_roll_49 fc_10_297 hO (ckS_le hc) rfl (Nat.le_of_ble_eq_true rfl) (Nat.le_of_ble_eq_true rfl)
theorem r_MRm_roll_52 : Rr X d MRm_roll 52 L st h = Rr X d MRm_roll 53 L (.int (1) :: st) h := Rr_nx d_MRm_roll_52 rfl
theorem r_MRm_roll_53 {l0 l1 l2 l3 l4 l5 l6 : Value} {x : Int32} : Rr X d MRm_roll 53 [l0, l1, l2, l3, l4, l5, l6] (.int x :: st) h = Rr X d MRm_roll 55 (sL [l0, l1, l2, l3, l4, l5, l6] 6 (.int x)) st h := Rr_nx d_MRm_roll_53 rfl
theorem r_MRm_roll_55 {l0 l1 l2 l3 l4 l5 : Value} {x : Int32} : Rr X d MRm_roll 55 [l0, l1, l2, l3, l4, l5, .int x] st h = Rr X d MRm_roll 57 [l0, l1, l2, l3, l4, l5, .int x] (.int x :: st) h := Rr_nx d_MRm_roll_55 rfl
theorem r_MRm_roll_57 {l0 l1 l2 l3 l5 l6 : Value} {x : Int32} : Rr X d MRm_roll 57 [l0, l1, l2, l3, .int x, l5, l6] st h = Rr X d MRm_roll 59 [l0, l1, l2, l3, .int x, l5, l6] (.int x :: st) h := Rr_nx d_MRm_roll_57 rfl
theorem r_MRm_roll_59 {x y : Int32} : Rr X d MRm_roll 59 L (.int y :: .int x :: st) h = if y < x then Rr X d MRm_roll 90 L st h else Rr X d MRm_roll 62 L st h := R_ic_gt d_MRm_roll_59 (by decide)
theorem r_MRm_roll_62 {l1 l2 l3 l4 l5 l6 : Value} {x : Nat} : Rr X d MRm_roll 62 [.ref x, l1, l2, l3, l4, l5, l6] st h = Rr X d MRm_roll 63 [.ref x, l1, l2, l3, l4, l5, l6] (.ref x :: st) h := Rr_nx d_MRm_roll_62 rfl
theorem r_MRm_roll_63 {l0 l2 l3 l4 l5 l6 : Value} {x : Int32} : Rr X d MRm_roll 63 [l0, .int x, l2, l3, l4, l5, l6] st h = Rr X d MRm_roll 64 [l0, .int x, l2, l3, l4, l5, l6] (.int x :: st) h := Rr_nx d_MRm_roll_63 rfl
theorem r_MRm_roll_64 : Rr X d MRm_roll 64 L st h = Rr X d MRm_roll 66 L (.int (10) :: st) h := Rr_nx d_MRm_roll_64 rfl
theorem r_MRm_roll_66 {x y : Int32} : Rr X d MRm_roll 66 L (.int y :: .int x :: st) h = if y = 0 then none else Rr X d MRm_roll 67 L (.int (x / y) :: st) h := R_dv d_MRm_roll_66
theorem r_MRm_roll_67 {l0 l1 l2 l3 l4 l6 : Value} {x : Int32} : Rr X d MRm_roll 67 [l0, l1, l2, l3, l4, .int x, l6] st h = Rr X d MRm_roll 69 [l0, l1, l2, l3, l4, .int x, l6] (.int x :: st) h := Rr_nx d_MRm_roll_67 rfl
theorem r_MRm_roll_69 {l0 l2 l3 l4 l5 l6 : Value} {x : Int32} : Rr X d MRm_roll 69 [l0, .int x, l2, l3, l4, l5, l6] st h = Rr X d MRm_roll 70 [l0, .int x, l2, l3, l4, l5, l6] (.int x :: st) h := Rr_nx d_MRm_roll_69 rfl
theorem r_MRm_roll_70 : Rr X d MRm_roll 70 L st h = Rr X d MRm_roll 72 L (.int (10) :: st) h := Rr_nx d_MRm_roll_70 rfl
theorem r_MRm_roll_72 {x y : Int32} : Rr X d MRm_roll 72 L (.int y :: .int x :: st) h = if y = 0 then none else Rr X d MRm_roll 73 L (.int (x - x / y * y) :: st) h := R_rm d_MRm_roll_72
theorem r_MRm_roll_73 {l0 l1 l2 l3 l4 l5 : Value} {x : Int32} : Rr X d MRm_roll 73 [l0, l1, l2, l3, l4, l5, .int x] st h = Rr X d MRm_roll 75 [l0, l1, l2, l3, l4, l5, .int x] (.int x :: st) h := Rr_nx d_MRm_roll_73 rfl
theorem r_MRm_roll_75 {y0 : Int32} {y1 : Int32} {y2 : Int32} {y3 : Int32} {a : Nat} (hO : qO a 10 = true) (hc : ckS st = true) : Rr X (d + 1) MRm_roll 75 L (.int y3 :: .int y2 :: .int y1 :: .int y0 :: .ref a :: st) (Wd mu la ro et) = (Rr X d MRm_go 0 [.ref a, .int y0, .int y1, .int y2, .int y3, mkU, mkU, mkU, mkU, mkU] [] (Wd mu la ro et)).bind fun q => Rr X (d + 1) MRm_roll 78 L (psh q.1 st) q.2 := R_iv (av := [.int y3, .int y2, .int y1, .int y0]) d_MRm_roll_75 fc_10_300 hO (ckS_le hc) rfl (Nat.le_of_ble_eq_true rfl) (Nat.le_of_ble_eq_true rfl)
theorem r_MRm_roll_78 {l1 l2 l3 l4 l5 l6 : Value} {x : Nat} : Rr X d MRm_roll 78 [.ref x, l1, l2, l3, l4, l5, l6] st h = Rr X d MRm_roll 79 [.ref x, l1, l2, l3, l4, l5, l6] (.ref x :: st) h := Rr_nx d_MRm_roll_78 rfl
theorem r_MRm_roll_79 {l0 l1 l2 l3 l4 l5 : Value} {x : Int32} : Rr X d MRm_roll 79 [l0, l1, l2, l3, l4, l5, .int x] st h = Rr X d MRm_roll 81 [l0, l1, l2, l3, l4, l5, .int x] (.int x :: st) h := Rr_nx d_MRm_roll_79 rfl
theorem r_MRm_roll_81 {y0 : Int32} {a : Nat} (hO : qO a 10 = true) (hc : ckS st = true) : Rr X (d + 1) MRm_roll 81 L (.int y0 :: .ref a :: st) (Wd mu la ro et) = (Rr X d MRm_note 0 [.ref a, .int y0] [] (Wd mu la ro et)).bind fun q => Rr X (d + 1) MRm_roll 84 L (psh q.1 st) q.2 := R_iv (av := [.int y0]) d_MRm_roll_81 fc_10_297 hO (ckS_le hc) rfl (Nat.le_of_ble_eq_true rfl) (Nat.le_of_ble_eq_true rfl)
theorem r_MRm_roll_84 {l0 l1 l2 l3 l4 l5 : Value} {x : Int32} : Rr X d MRm_roll 84 [l0, l1, l2, l3, l4, l5, .int x] st h = Rr X d MRm_roll 87 (sL [l0, l1, l2, l3, l4, l5, .int x] 6 (.int (x + (1)))) st h := Rr_nx d_MRm_roll_84 rfl
theorem r_MRm_roll_87 : Rr X d MRm_roll 87 L st h = Rr X d MRm_roll 55 L st h := R_goto d_MRm_roll_87 (by decide)
theorem r_MRm_roll_90 {l1 l2 l3 l4 l5 l6 : Value} {x : Nat} : Rr X d MRm_roll 90 [.ref x, l1, l2, l3, l4, l5, l6] st h = Rr X d MRm_roll 91 [.ref x, l1, l2, l3, l4, l5, l6] (.ref x :: st) h := Rr_nx d_MRm_roll_90 rfl
theorem r_MRm_roll_91 {l0 l1 l2 l3 l5 l6 : Value} {x : Int32} : Rr X d MRm_roll 91 [l0, l1, l2, l3, .int x, l5, l6] st h = Rr X d MRm_roll 93 [l0, l1, l2, l3, .int x, l5, l6] (.int x :: st) h := Rr_nx d_MRm_roll_91 rfl
theorem ff_10_72 : fF 10 72 = some (10, 39, 0, 0) := rfl
theorem r_MRm_roll_93 {a : Nat} {x : Int32} (hq : qI a 10 39 = true) : Rr X d MRm_roll 93 L (.int x :: .ref a :: st) (Wd mu la ro et) = Rr X d MRm_roll 96 L st (Wd (up2 mu a 39 x) la ro et) := R_pfI d_MRm_roll_93 ff_10_72 hq
theorem r_MRm_roll_96 {l1 l2 l3 l4 l5 l6 : Value} {x : Nat} : Rr X d MRm_roll 96 [.ref x, l1, l2, l3, l4, l5, l6] st h = Rr X d MRm_roll 97 [.ref x, l1, l2, l3, l4, l5, l6] (.ref x :: st) h := Rr_nx d_MRm_roll_96 rfl
theorem r_MRm_roll_97 {l1 l2 l3 l4 l5 l6 : Value} {x : Nat} : Rr X d MRm_roll 97 [.ref x, l1, l2, l3, l4, l5, l6] st h = Rr X d MRm_roll 98 [.ref x, l1, l2, l3, l4, l5, l6] (.ref x :: st) h := Rr_nx d_MRm_roll_97 rfl
theorem r_MRm_roll_98 {a : Nat} (hq : qI a 10 33 = true) : Rr X d MRm_roll 98 L (.ref a :: st) (Wd mu la ro et) = Rr X d MRm_roll 101 L (.int (mu a 33) :: st) (Wd mu la ro et) := R_gfI d_MRm_roll_98 ff_10_269 hq
theorem ff_10_304 : fF 10 304 = some (10, 40, 0, 0) := rfl
theorem r_MRm_roll_101 {a : Nat} {x : Int32} (hq : qI a 10 40 = true) : Rr X d MRm_roll 101 L (.int x :: .ref a :: st) (Wd mu la ro et) = Rr X d MRm_roll 104 L st (Wd (up2 mu a 40 x) la ro et) := R_pfI d_MRm_roll_101 ff_10_304 hq
theorem r_MRm_roll_104 {l1 l2 l3 l4 l5 l6 : Value} {x : Nat} : Rr X d MRm_roll 104 [.ref x, l1, l2, l3, l4, l5, l6] st h = Rr X d MRm_roll 105 [.ref x, l1, l2, l3, l4, l5, l6] (.ref x :: st) h := Rr_nx d_MRm_roll_104 rfl
theorem r_MRm_roll_105 {l1 l2 l3 l4 l5 l6 : Value} {x : Nat} : Rr X d MRm_roll 105 [.ref x, l1, l2, l3, l4, l5, l6] st h = Rr X d MRm_roll 106 [.ref x, l1, l2, l3, l4, l5, l6] (.ref x :: st) h := Rr_nx d_MRm_roll_105 rfl
theorem r_MRm_roll_106 {a : Nat} (hq : qI a 10 34 = true) : Rr X d MRm_roll 106 L (.ref a :: st) (Wd mu la ro et) = Rr X d MRm_roll 109 L (.int (mu a 34) :: st) (Wd mu la ro et) := R_gfI d_MRm_roll_106 ff_10_272 hq
theorem ff_10_307 : fF 10 307 = some (10, 41, 0, 0) := rfl
theorem r_MRm_roll_109 {a : Nat} {x : Int32} (hq : qI a 10 41 = true) : Rr X d MRm_roll 109 L (.int x :: .ref a :: st) (Wd mu la ro et) = Rr X d MRm_roll 112 L st (Wd (up2 mu a 41 x) la ro et) := R_pfI d_MRm_roll_109 ff_10_307 hq
theorem r_MRm_roll_112 {l1 l2 l3 l4 l5 l6 : Value} {x : Nat} : Rr X d MRm_roll 112 [.ref x, l1, l2, l3, l4, l5, l6] st h = Rr X d MRm_roll 113 [.ref x, l1, l2, l3, l4, l5, l6] (.ref x :: st) h := Rr_nx d_MRm_roll_112 rfl
theorem r_MRm_roll_113 {l1 l2 l3 l4 l5 l6 : Value} {x : Nat} : Rr X d MRm_roll 113 [.ref x, l1, l2, l3, l4, l5, l6] st h = Rr X d MRm_roll 114 [.ref x, l1, l2, l3, l4, l5, l6] (.ref x :: st) h := Rr_nx d_MRm_roll_113 rfl
theorem r_MRm_roll_114 {a : Nat} (hq : qI a 10 35 = true) : Rr X d MRm_roll 114 L (.ref a :: st) (Wd mu la ro et) = Rr X d MRm_roll 117 L (.int (mu a 35) :: st) (Wd mu la ro et) := R_gfI d_MRm_roll_114 ff_10_275 hq
theorem ff_10_310 : fF 10 310 = some (10, 42, 0, 0) := rfl
theorem r_MRm_roll_117 {a : Nat} {x : Int32} (hq : qI a 10 42 = true) : Rr X d MRm_roll 117 L (.int x :: .ref a :: st) (Wd mu la ro et) = Rr X d MRm_roll 120 L st (Wd (up2 mu a 42 x) la ro et) := R_pfI d_MRm_roll_117 ff_10_310 hq
theorem r_MRm_roll_120 {l1 l2 l3 l4 l5 l6 : Value} {x : Nat} : Rr X d MRm_roll 120 [.ref x, l1, l2, l3, l4, l5, l6] st h = Rr X d MRm_roll 121 [.ref x, l1, l2, l3, l4, l5, l6] (.ref x :: st) h := Rr_nx d_MRm_roll_120 rfl
theorem r_MRm_roll_121 {a : Nat} (hq : qI a 10 30 = true) : Rr X d MRm_roll 121 L (.ref a :: st) (Wd mu la ro et) = Rr X d MRm_roll 124 L (.int (mu a 30) :: st) (Wd mu la ro et) := R_gfI d_MRm_roll_121 ff_10_260 hq
theorem r_MRm_roll_124 {x : Int32} : Rr X d MRm_roll 124 L [.int x] h = some (some (.int x), h) := R_ir d_MRm_roll_124 rfl
theorem d_MRm_lookBack_0 : decode MRm_lookBack.2.2.1 0 = .ok (.aload_n 0, 1) := lkT_ok tk_MRm_lookBack rfl
theorem d_MRm_lookBack_1 : decode MRm_lookBack.2.2.1 1 = .ok (.getfield 260, 3) := lkT_ok tk_MRm_lookBack rfl
theorem d_MRm_lookBack_4 : decode MRm_lookBack.2.2.1 4 = .ok (.ifCond .ne 4, 3) := lkT_ok tk_MRm_lookBack rfl
theorem d_MRm_lookBack_7 : decode MRm_lookBack.2.2.1 7 = .ok (.return_, 1) := lkT_ok tk_MRm_lookBack rfl
theorem d_MRm_lookBack_8 : decode MRm_lookBack.2.2.1 8 = .ok (.aload_n 0, 1) := lkT_ok tk_MRm_lookBack rfl
theorem d_MRm_lookBack_9 : decode MRm_lookBack.2.2.1 9 = .ok (.getfield 260, 3) := lkT_ok tk_MRm_lookBack rfl
theorem d_MRm_lookBack_12 : decode MRm_lookBack.2.2.1 12 = .ok (.ifCond .le 7, 3) := lkT_ok tk_MRm_lookBack rfl
theorem d_MRm_lookBack_15 : decode MRm_lookBack.2.2.1 15 = .ok (.iconst 1, 1) := lkT_ok tk_MRm_lookBack rfl
theorem d_MRm_lookBack_16 : decode MRm_lookBack.2.2.1 16 = .ok (.goto 4, 3) := lkT_ok tk_MRm_lookBack rfl
theorem d_MRm_lookBack_19 : decode MRm_lookBack.2.2.1 19 = .ok (.iconst (-1), 1) := lkT_ok tk_MRm_lookBack rfl
theorem d_MRm_lookBack_20 : decode MRm_lookBack.2.2.1 20 = .ok (.istore_n 2, 1) := lkT_ok tk_MRm_lookBack rfl
theorem d_MRm_lookBack_21 : decode MRm_lookBack.2.2.1 21 = .ok (.iload_n 2, 1) := lkT_ok tk_MRm_lookBack rfl
theorem d_MRm_lookBack_22 : decode MRm_lookBack.2.2.1 22 = .ok (.aload_n 0, 1) := lkT_ok tk_MRm_lookBack rfl
theorem d_MRm_lookBack_23 : decode MRm_lookBack.2.2.1 23 = .ok (.getfield 313, 3) := lkT_ok tk_MRm_lookBack rfl
theorem d_MRm_lookBack_26 : decode MRm_lookBack.2.2.1 26 = .ok (.ineg, 1) := lkT_ok tk_MRm_lookBack rfl
theorem d_MRm_lookBack_27 : decode MRm_lookBack.2.2.1 27 = .ok (.if_icmp .ne 25, 3) := lkT_ok tk_MRm_lookBack rfl
theorem d_MRm_lookBack_30 : decode MRm_lookBack.2.2.1 30 = .ok (.aload_n 0, 1) := lkT_ok tk_MRm_lookBack rfl
theorem d_MRm_lookBack_31 : decode MRm_lookBack.2.2.1 31 = .ok (.getfield 316, 3) := lkT_ok tk_MRm_lookBack rfl
theorem d_MRm_lookBack_34 : decode MRm_lookBack.2.2.1 34 = .ok (.ifCond .ne 8, 3) := lkT_ok tk_MRm_lookBack rfl
theorem d_MRm_lookBack_37 : decode MRm_lookBack.2.2.1 37 = .ok (.aload_n 0, 1) := lkT_ok tk_MRm_lookBack rfl
theorem d_MRm_lookBack_38 : decode MRm_lookBack.2.2.1 38 = .ok (.iload_n 1, 1) := lkT_ok tk_MRm_lookBack rfl
theorem d_MRm_lookBack_39 : decode MRm_lookBack.2.2.1 39 = .ok (.putfield 319, 3) := lkT_ok tk_MRm_lookBack rfl
theorem d_MRm_lookBack_42 : decode MRm_lookBack.2.2.1 42 = .ok (.aload_n 0, 1) := lkT_ok tk_MRm_lookBack rfl
theorem d_MRm_lookBack_43 : decode MRm_lookBack.2.2.1 43 = .ok (.dup, 1) := lkT_ok tk_MRm_lookBack rfl
theorem d_MRm_lookBack_44 : decode MRm_lookBack.2.2.1 44 = .ok (.getfield 316, 3) := lkT_ok tk_MRm_lookBack rfl
theorem d_MRm_lookBack_47 : decode MRm_lookBack.2.2.1 47 = .ok (.iconst 1, 1) := lkT_ok tk_MRm_lookBack rfl
theorem d_MRm_lookBack_48 : decode MRm_lookBack.2.2.1 48 = .ok (.iadd, 1) := lkT_ok tk_MRm_lookBack rfl
theorem d_MRm_lookBack_49 : decode MRm_lookBack.2.2.1 49 = .ok (.putfield 316, 3) := lkT_ok tk_MRm_lookBack rfl
theorem d_MRm_lookBack_52 : decode MRm_lookBack.2.2.1 52 = .ok (.aload_n 0, 1) := lkT_ok tk_MRm_lookBack rfl
theorem d_MRm_lookBack_53 : decode MRm_lookBack.2.2.1 53 = .ok (.iload_n 2, 1) := lkT_ok tk_MRm_lookBack rfl
theorem d_MRm_lookBack_54 : decode MRm_lookBack.2.2.1 54 = .ok (.putfield 313, 3) := lkT_ok tk_MRm_lookBack rfl
theorem d_MRm_lookBack_57 : decode MRm_lookBack.2.2.1 57 = .ok (.return_, 1) := lkT_ok tk_MRm_lookBack rfl
theorem r_MRm_lookBack_0 {l1 l2 : Value} {x : Nat} : Rr X d MRm_lookBack 0 [.ref x, l1, l2] st h = Rr X d MRm_lookBack 1 [.ref x, l1, l2] (.ref x :: st) h := Rr_nx d_MRm_lookBack_0 rfl
theorem r_MRm_lookBack_1 {a : Nat} (hq : qI a 10 30 = true) : Rr X d MRm_lookBack 1 L (.ref a :: st) (Wd mu la ro et) = Rr X d MRm_lookBack 4 L (.int (mu a 30) :: st) (Wd mu la ro et) := R_gfI d_MRm_lookBack_1 ff_10_260 hq
theorem r_MRm_lookBack_4 {x : Int32} : Rr X d MRm_lookBack 4 L (.int x :: st) h = if ¬ x = 0 then Rr X d MRm_lookBack 8 L st h else Rr X d MRm_lookBack 7 L st h := R_if_ne d_MRm_lookBack_4 (by decide)
theorem r_MRm_lookBack_7 : Rr X d MRm_lookBack 7 L [] h = some (none, h) := Rr_rt d_MRm_lookBack_7 rfl
theorem r_MRm_lookBack_8 {l1 l2 : Value} {x : Nat} : Rr X d MRm_lookBack 8 [.ref x, l1, l2] st h = Rr X d MRm_lookBack 9 [.ref x, l1, l2] (.ref x :: st) h := Rr_nx d_MRm_lookBack_8 rfl
theorem r_MRm_lookBack_9 {a : Nat} (hq : qI a 10 30 = true) : Rr X d MRm_lookBack 9 L (.ref a :: st) (Wd mu la ro et) = Rr X d MRm_lookBack 12 L (.int (mu a 30) :: st) (Wd mu la ro et) := R_gfI d_MRm_lookBack_9 ff_10_260 hq
theorem r_MRm_lookBack_12 {x : Int32} : Rr X d MRm_lookBack 12 L (.int x :: st) h = if x ≤ 0 then Rr X d MRm_lookBack 19 L st h else Rr X d MRm_lookBack 15 L st h := R_if_le d_MRm_lookBack_12 (by decide)
theorem r_MRm_lookBack_15 : Rr X d MRm_lookBack 15 L st h = Rr X d MRm_lookBack 16 L (.int (1) :: st) h := Rr_nx d_MRm_lookBack_15 rfl
theorem r_MRm_lookBack_16 : Rr X d MRm_lookBack 16 L st h = Rr X d MRm_lookBack 20 L st h := R_goto d_MRm_lookBack_16 (by decide)
theorem r_MRm_lookBack_19 : Rr X d MRm_lookBack 19 L st h = Rr X d MRm_lookBack 20 L (.int (-1) :: st) h := Rr_nx d_MRm_lookBack_19 rfl
theorem r_MRm_lookBack_20 {l0 l1 l2 : Value} {x : Int32} : Rr X d MRm_lookBack 20 [l0, l1, l2] (.int x :: st) h = Rr X d MRm_lookBack 21 (sL [l0, l1, l2] 2 (.int x)) st h := Rr_nx d_MRm_lookBack_20 rfl
theorem r_MRm_lookBack_21 {l0 l1 : Value} {x : Int32} : Rr X d MRm_lookBack 21 [l0, l1, .int x] st h = Rr X d MRm_lookBack 22 [l0, l1, .int x] (.int x :: st) h := Rr_nx d_MRm_lookBack_21 rfl
theorem r_MRm_lookBack_22 {l1 l2 : Value} {x : Nat} : Rr X d MRm_lookBack 22 [.ref x, l1, l2] st h = Rr X d MRm_lookBack 23 [.ref x, l1, l2] (.ref x :: st) h := Rr_nx d_MRm_lookBack_22 rfl
theorem ff_10_313 : fF 10 313 = some (10, 43, 0, 0) := rfl
theorem r_MRm_lookBack_23 {a : Nat} (hq : qI a 10 43 = true) : Rr X d MRm_lookBack 23 L (.ref a :: st) (Wd mu la ro et) = Rr X d MRm_lookBack 26 L (.int (mu a 43) :: st) (Wd mu la ro et) := R_gfI d_MRm_lookBack_23 ff_10_313 hq
theorem r_MRm_lookBack_26 {x : Int32} : Rr X d MRm_lookBack 26 L (.int x :: st) h = Rr X d MRm_lookBack 27 L (.int (-x) :: st) h := Rr_nx d_MRm_lookBack_26 rfl
theorem r_MRm_lookBack_27 {x y : Int32} : Rr X d MRm_lookBack 27 L (.int y :: .int x :: st) h = if ¬ x = y then Rr X d MRm_lookBack 52 L st h else Rr X d MRm_lookBack 30 L st h := R_ic_ne d_MRm_lookBack_27 (by decide)
theorem r_MRm_lookBack_30 {l1 l2 : Value} {x : Nat} : Rr X d MRm_lookBack 30 [.ref x, l1, l2] st h = Rr X d MRm_lookBack 31 [.ref x, l1, l2] (.ref x :: st) h := Rr_nx d_MRm_lookBack_30 rfl
theorem ff_10_316 : fF 10 316 = some (10, 44, 0, 0) := rfl
theorem r_MRm_lookBack_31 {a : Nat} (hq : qI a 10 44 = true) : Rr X d MRm_lookBack 31 L (.ref a :: st) (Wd mu la ro et) = Rr X d MRm_lookBack 34 L (.int (mu a 44) :: st) (Wd mu la ro et) := R_gfI d_MRm_lookBack_31 ff_10_316 hq
theorem r_MRm_lookBack_34 {x : Int32} : Rr X d MRm_lookBack 34 L (.int x :: st) h = if ¬ x = 0 then Rr X d MRm_lookBack 42 L st h else Rr X d MRm_lookBack 37 L st h := R_if_ne d_MRm_lookBack_34 (by decide)
theorem r_MRm_lookBack_37 {l1 l2 : Value} {x : Nat} : Rr X d MRm_lookBack 37 [.ref x, l1, l2] st h = Rr X d MRm_lookBack 38 [.ref x, l1, l2] (.ref x :: st) h := Rr_nx d_MRm_lookBack_37 rfl
theorem r_MRm_lookBack_38 {l0 l2 : Value} {x : Int32} : Rr X d MRm_lookBack 38 [l0, .int x, l2] st h = Rr X d MRm_lookBack 39 [l0, .int x, l2] (.int x :: st) h := Rr_nx d_MRm_lookBack_38 rfl
theorem ff_10_319 : fF 10 319 = some (10, 45, 0, 0) := rfl
theorem r_MRm_lookBack_39 {a : Nat} {x : Int32} (hq : qI a 10 45 = true) : Rr X d MRm_lookBack 39 L (.int x :: .ref a :: st) (Wd mu la ro et) = Rr X d MRm_lookBack 42 L st (Wd (up2 mu a 45 x) la ro et) := R_pfI d_MRm_lookBack_39 ff_10_319 hq
theorem r_MRm_lookBack_42 {l1 l2 : Value} {x : Nat} : Rr X d MRm_lookBack 42 [.ref x, l1, l2] st h = Rr X d MRm_lookBack 43 [.ref x, l1, l2] (.ref x :: st) h := Rr_nx d_MRm_lookBack_42 rfl
theorem r_MRm_lookBack_43 {x : Nat} : Rr X d MRm_lookBack 43 L (.ref x :: st) h = Rr X d MRm_lookBack 44 L (.ref x :: .ref x :: st) h := Rr_nx d_MRm_lookBack_43 rfl
theorem r_MRm_lookBack_43i {x : Int32} : Rr X d MRm_lookBack 43 L (.int x :: st) h = Rr X d MRm_lookBack 44 L (.int x :: .int x :: st) h := Rr_nx d_MRm_lookBack_43 rfl
theorem r_MRm_lookBack_44 {a : Nat} (hq : qI a 10 44 = true) : Rr X d MRm_lookBack 44 L (.ref a :: st) (Wd mu la ro et) = Rr X d MRm_lookBack 47 L (.int (mu a 44) :: st) (Wd mu la ro et) := R_gfI d_MRm_lookBack_44 ff_10_316 hq
theorem r_MRm_lookBack_47 : Rr X d MRm_lookBack 47 L st h = Rr X d MRm_lookBack 48 L (.int (1) :: st) h := Rr_nx d_MRm_lookBack_47 rfl
theorem r_MRm_lookBack_48 {x y : Int32} : Rr X d MRm_lookBack 48 L (.int y :: .int x :: st) h = Rr X d MRm_lookBack 49 L (.int (x + y) :: st) h := Rr_nx d_MRm_lookBack_48 rfl
theorem r_MRm_lookBack_49 {a : Nat} {x : Int32} (hq : qI a 10 44 = true) : Rr X d MRm_lookBack 49 L (.int x :: .ref a :: st) (Wd mu la ro et) = Rr X d MRm_lookBack 52 L st (Wd (up2 mu a 44 x) la ro et) := R_pfI d_MRm_lookBack_49 ff_10_316 hq
theorem r_MRm_lookBack_52 {l1 l2 : Value} {x : Nat} : Rr X d MRm_lookBack 52 [.ref x, l1, l2] st h = Rr X d MRm_lookBack 53 [.ref x, l1, l2] (.ref x :: st) h := Rr_nx d_MRm_lookBack_52 rfl
theorem r_MRm_lookBack_53 {l0 l1 : Value} {x : Int32} : Rr X d MRm_lookBack 53 [l0, l1, .int x] st h = Rr X d MRm_lookBack 54 [l0, l1, .int x] (.int x :: st) h := Rr_nx d_MRm_lookBack_53 rfl
theorem r_MRm_lookBack_54 {a : Nat} {x : Int32} (hq : qI a 10 43 = true) : Rr X d MRm_lookBack 54 L (.int x :: .ref a :: st) (Wd mu la ro et) = Rr X d MRm_lookBack 57 L st (Wd (up2 mu a 43 x) la ro et) := R_pfI d_MRm_lookBack_54 ff_10_313 hq
theorem r_MRm_lookBack_57 : Rr X d MRm_lookBack 57 L [] h = some (none, h) := Rr_rt d_MRm_lookBack_57 rfl
theorem d_MRm_goThrough_0 : decode MRm_goThrough.2.2.1 0 = .ok (.aload_n 0, 1) := lkT_ok tk_MRm_goThrough rfl
theorem d_MRm_goThrough_1 : decode MRm_goThrough.2.2.1 1 = .ok (.iload 4, 2) := lkT_ok tk_MRm_goThrough rfl
theorem d_MRm_goThrough_3 : decode MRm_goThrough.2.2.1 3 = .ok (.iload 5, 2) := lkT_ok tk_MRm_goThrough rfl
theorem d_MRm_goThrough_5 : decode MRm_goThrough.2.2.1 5 = .ok (.invokevirtual 294, 3) := lkT_ok tk_MRm_goThrough rfl
theorem d_MRm_goThrough_8 : decode MRm_goThrough.2.2.1 8 = .ok (.aload_n 0, 1) := lkT_ok tk_MRm_goThrough rfl
theorem d_MRm_goThrough_9 : decode MRm_goThrough.2.2.1 9 = .ok (.iconst 0, 1) := lkT_ok tk_MRm_goThrough rfl
theorem d_MRm_goThrough_10 : decode MRm_goThrough.2.2.1 10 = .ok (.putfield 313, 3) := lkT_ok tk_MRm_goThrough rfl
theorem d_MRm_goThrough_13 : decode MRm_goThrough.2.2.1 13 = .ok (.aload_n 0, 1) := lkT_ok tk_MRm_goThrough rfl
theorem d_MRm_goThrough_14 : decode MRm_goThrough.2.2.1 14 = .ok (.iconst 0, 1) := lkT_ok tk_MRm_goThrough rfl
theorem d_MRm_goThrough_15 : decode MRm_goThrough.2.2.1 15 = .ok (.putfield 316, 3) := lkT_ok tk_MRm_goThrough rfl
theorem d_MRm_goThrough_18 : decode MRm_goThrough.2.2.1 18 = .ok (.aload_n 0, 1) := lkT_ok tk_MRm_goThrough rfl
theorem d_MRm_goThrough_19 : decode MRm_goThrough.2.2.1 19 = .ok (.iconst 0, 1) := lkT_ok tk_MRm_goThrough rfl
theorem d_MRm_goThrough_20 : decode MRm_goThrough.2.2.1 20 = .ok (.invokevirtual 322, 3) := lkT_ok tk_MRm_goThrough rfl
theorem d_MRm_goThrough_23 : decode MRm_goThrough.2.2.1 23 = .ok (.iconst 1, 1) := lkT_ok tk_MRm_goThrough rfl
theorem d_MRm_goThrough_24 : decode MRm_goThrough.2.2.1 24 = .ok (.istore 6, 2) := lkT_ok tk_MRm_goThrough rfl
theorem d_MRm_goThrough_26 : decode MRm_goThrough.2.2.1 26 = .ok (.iload 6, 2) := lkT_ok tk_MRm_goThrough rfl
theorem d_MRm_goThrough_28 : decode MRm_goThrough.2.2.1 28 = .ok (.sipush 400, 3) := lkT_ok tk_MRm_goThrough rfl
theorem d_MRm_goThrough_31 : decode MRm_goThrough.2.2.1 31 = .ok (.if_icmp .gt 24, 3) := lkT_ok tk_MRm_goThrough rfl
theorem d_MRm_goThrough_34 : decode MRm_goThrough.2.2.1 34 = .ok (.aload_n 0, 1) := lkT_ok tk_MRm_goThrough rfl
theorem d_MRm_goThrough_35 : decode MRm_goThrough.2.2.1 35 = .ok (.iload_n 1, 1) := lkT_ok tk_MRm_goThrough rfl
theorem d_MRm_goThrough_36 : decode MRm_goThrough.2.2.1 36 = .ok (.iload_n 2, 1) := lkT_ok tk_MRm_goThrough rfl
theorem d_MRm_goThrough_37 : decode MRm_goThrough.2.2.1 37 = .ok (.iload_n 3, 1) := lkT_ok tk_MRm_goThrough rfl
theorem d_MRm_goThrough_38 : decode MRm_goThrough.2.2.1 38 = .ok (.iload 6, 2) := lkT_ok tk_MRm_goThrough rfl
theorem d_MRm_goThrough_40 : decode MRm_goThrough.2.2.1 40 = .ok (.invokevirtual 300, 3) := lkT_ok tk_MRm_goThrough rfl
theorem d_MRm_goThrough_43 : decode MRm_goThrough.2.2.1 43 = .ok (.aload_n 0, 1) := lkT_ok tk_MRm_goThrough rfl
theorem d_MRm_goThrough_44 : decode MRm_goThrough.2.2.1 44 = .ok (.iload 6, 2) := lkT_ok tk_MRm_goThrough rfl
theorem d_MRm_goThrough_46 : decode MRm_goThrough.2.2.1 46 = .ok (.invokevirtual 322, 3) := lkT_ok tk_MRm_goThrough rfl
theorem d_MRm_goThrough_49 : decode MRm_goThrough.2.2.1 49 = .ok (.iinc 6 1, 3) := lkT_ok tk_MRm_goThrough rfl
theorem d_MRm_goThrough_52 : decode MRm_goThrough.2.2.1 52 = .ok (.goto (-26), 3) := lkT_ok tk_MRm_goThrough rfl
theorem d_MRm_goThrough_55 : decode MRm_goThrough.2.2.1 55 = .ok (.return_, 1) := lkT_ok tk_MRm_goThrough rfl
theorem r_MRm_goThrough_0 {l1 l2 l3 l4 l5 l6 : Value} {x : Nat} : Rr X d MRm_goThrough 0 [.ref x, l1, l2, l3, l4, l5, l6] st h = Rr X d MRm_goThrough 1 [.ref x, l1, l2, l3, l4, l5, l6] (.ref x :: st) h := Rr_nx d_MRm_goThrough_0 rfl
theorem r_MRm_goThrough_1 {l0 l1 l2 l3 l5 l6 : Value} {x : Int32} : Rr X d MRm_goThrough 1 [l0, l1, l2, l3, .int x, l5, l6] st h = Rr X d MRm_goThrough 3 [l0, l1, l2, l3, .int x, l5, l6] (.int x :: st) h := Rr_nx d_MRm_goThrough_1 rfl
theorem r_MRm_goThrough_3 {l0 l1 l2 l3 l4 l6 : Value} {x : Int32} : Rr X d MRm_goThrough 3 [l0, l1, l2, l3, l4, .int x, l6] st h = Rr X d MRm_goThrough 5 [l0, l1, l2, l3, l4, .int x, l6] (.int x :: st) h := Rr_nx d_MRm_goThrough_3 rfl
theorem r_MRm_goThrough_5 {y0 : Int32} {y1 : Int32} {a : Nat} (hO : qO a 10 = true) (hc : ckS st = true) : Rr X (d + 1) MRm_goThrough 5 L (.int y1 :: .int y0 :: .ref a :: st) (Wd mu la ro et) = (Rr X d MRm_begin 0 [.ref a, .int y0, .int y1] [] (Wd mu la ro et)).bind fun q => Rr X (d + 1) MRm_goThrough 8 L (psh q.1 st) q.2 := R_iv (av := [.int y1, .int y0]) d_MRm_goThrough_5 fc_10_294 hO (ckS_le hc) rfl (Nat.le_of_ble_eq_true rfl) (Nat.le_of_ble_eq_true rfl)
theorem r_MRm_goThrough_8 {l1 l2 l3 l4 l5 l6 : Value} {x : Nat} : Rr X d MRm_goThrough 8 [.ref x, l1, l2, l3, l4, l5, l6] st h = Rr X d MRm_goThrough 9 [.ref x, l1, l2, l3, l4, l5, l6] (.ref x :: st) h := Rr_nx d_MRm_goThrough_8 rfl
theorem r_MRm_goThrough_9 : Rr X d MRm_goThrough 9 L st h = Rr X d MRm_goThrough 10 L (.int (0) :: st) h := Rr_nx d_MRm_goThrough_9 rfl
theorem r_MRm_goThrough_10 {a : Nat} {x : Int32} (hq : qI a 10 43 = true) : Rr X d MRm_goThrough 10 L (.int x :: .ref a :: st) (Wd mu la ro et) = Rr X d MRm_goThrough 13 L st (Wd (up2 mu a 43 x) la ro et) := R_pfI d_MRm_goThrough_10 ff_10_313 hq
theorem r_MRm_goThrough_13 {l1 l2 l3 l4 l5 l6 : Value} {x : Nat} : Rr X d MRm_goThrough 13 [.ref x, l1, l2, l3, l4, l5, l6] st h = Rr X d MRm_goThrough 14 [.ref x, l1, l2, l3, l4, l5, l6] (.ref x :: st) h := Rr_nx d_MRm_goThrough_13 rfl
theorem r_MRm_goThrough_14 : Rr X d MRm_goThrough 14 L st h = Rr X d MRm_goThrough 15 L (.int (0) :: st) h := Rr_nx d_MRm_goThrough_14 rfl
theorem r_MRm_goThrough_15 {a : Nat} {x : Int32} (hq : qI a 10 44 = true) : Rr X d MRm_goThrough 15 L (.int x :: .ref a :: st) (Wd mu la ro et) = Rr X d MRm_goThrough 18 L st (Wd (up2 mu a 44 x) la ro et) := R_pfI d_MRm_goThrough_15 ff_10_316 hq
theorem r_MRm_goThrough_18 {l1 l2 l3 l4 l5 l6 : Value} {x : Nat} : Rr X d MRm_goThrough 18 [.ref x, l1, l2, l3, l4, l5, l6] st h = Rr X d MRm_goThrough 19 [.ref x, l1, l2, l3, l4, l5, l6] (.ref x :: st) h := Rr_nx d_MRm_goThrough_18 rfl
theorem r_MRm_goThrough_19 : Rr X d MRm_goThrough 19 L st h = Rr X d MRm_goThrough 20 L (.int (0) :: st) h := Rr_nx d_MRm_goThrough_19 rfl
theorem fc_10_322 : fC 10 322 = some (0, 10, 1, MRm_lookBack) := rfl
theorem r_MRm_goThrough_20 {y0 : Int32} {a : Nat} (hO : qO a 10 = true) (hc : ckS st = true) : Rr X (d + 1) MRm_goThrough 20 L (.int y0 :: .ref a :: st) (Wd mu la ro et) = (Rr X d MRm_lookBack 0 [.ref a, .int y0, mkU] [] (Wd mu la ro et)).bind fun q => Rr X (d + 1) MRm_goThrough 23 L (psh q.1 st) q.2 := R_iv (av := [.int y0]) d_MRm_goThrough_20 fc_10_322 hO (ckS_le hc) rfl (Nat.le_of_ble_eq_true rfl) (Nat.le_of_ble_eq_true rfl)
theorem r_MRm_goThrough_23 : Rr X d MRm_goThrough 23 L st h = Rr X d MRm_goThrough 24 L (.int (1) :: st) h := Rr_nx d_MRm_goThrough_23 rfl
theorem r_MRm_goThrough_24 {l0 l1 l2 l3 l4 l5 l6 : Value} {x : Int32} : Rr X d MRm_goThrough 24 [l0, l1, l2, l3, l4, l5, l6] (.int x :: st) h = Rr X d MRm_goThrough 26 (sL [l0, l1, l2, l3, l4, l5, l6] 6 (.int x)) st h := Rr_nx d_MRm_goThrough_24 rfl
theorem r_MRm_goThrough_26 {l0 l1 l2 l3 l4 l5 : Value} {x : Int32} : Rr X d MRm_goThrough 26 [l0, l1, l2, l3, l4, l5, .int x] st h = Rr X d MRm_goThrough 28 [l0, l1, l2, l3, l4, l5, .int x] (.int x :: st) h := Rr_nx d_MRm_goThrough_26 rfl
theorem r_MRm_goThrough_28 : Rr X d MRm_goThrough 28 L st h = Rr X d MRm_goThrough 31 L (.int (400) :: st) h := Rr_nx d_MRm_goThrough_28 rfl
theorem r_MRm_goThrough_31 {x y : Int32} : Rr X d MRm_goThrough 31 L (.int y :: .int x :: st) h = if y < x then Rr X d MRm_goThrough 55 L st h else Rr X d MRm_goThrough 34 L st h := R_ic_gt d_MRm_goThrough_31 (by decide)
theorem r_MRm_goThrough_34 {l1 l2 l3 l4 l5 l6 : Value} {x : Nat} : Rr X d MRm_goThrough 34 [.ref x, l1, l2, l3, l4, l5, l6] st h = Rr X d MRm_goThrough 35 [.ref x, l1, l2, l3, l4, l5, l6] (.ref x :: st) h := Rr_nx d_MRm_goThrough_34 rfl
theorem r_MRm_goThrough_35 {l0 l2 l3 l4 l5 l6 : Value} {x : Int32} : Rr X d MRm_goThrough 35 [l0, .int x, l2, l3, l4, l5, l6] st h = Rr X d MRm_goThrough 36 [l0, .int x, l2, l3, l4, l5, l6] (.int x :: st) h := Rr_nx d_MRm_goThrough_35 rfl
theorem r_MRm_goThrough_36 {l0 l1 l3 l4 l5 l6 : Value} {x : Int32} : Rr X d MRm_goThrough 36 [l0, l1, .int x, l3, l4, l5, l6] st h = Rr X d MRm_goThrough 37 [l0, l1, .int x, l3, l4, l5, l6] (.int x :: st) h := Rr_nx d_MRm_goThrough_36 rfl
theorem r_MRm_goThrough_37 {l0 l1 l2 l4 l5 l6 : Value} {x : Int32} : Rr X d MRm_goThrough 37 [l0, l1, l2, .int x, l4, l5, l6] st h = Rr X d MRm_goThrough 38 [l0, l1, l2, .int x, l4, l5, l6] (.int x :: st) h := Rr_nx d_MRm_goThrough_37 rfl
theorem r_MRm_goThrough_38 {l0 l1 l2 l3 l4 l5 : Value} {x : Int32} : Rr X d MRm_goThrough 38 [l0, l1, l2, l3, l4, l5, .int x] st h = Rr X d MRm_goThrough 40 [l0, l1, l2, l3, l4, l5, .int x] (.int x :: st) h := Rr_nx d_MRm_goThrough_38 rfl
theorem r_MRm_goThrough_40 {y0 : Int32} {y1 : Int32} {y2 : Int32} {y3 : Int32} {a : Nat} (hO : qO a 10 = true) (hc : ckS st = true) : Rr X (d + 1) MRm_goThrough 40 L (.int y3 :: .int y2 :: .int y1 :: .int y0 :: .ref a :: st) (Wd mu la ro et) = (Rr X d MRm_go 0 [.ref a, .int y0, .int y1, .int y2, .int y3, mkU, mkU, mkU, mkU, mkU] [] (Wd mu la ro et)).bind fun q => Rr X (d + 1) MRm_goThrough 43 L (psh q.1 st) q.2 := R_iv (av := [.int y3, .int y2, .int y1, .int y0]) d_MRm_goThrough_40 fc_10_300 hO (ckS_le hc) rfl (Nat.le_of_ble_eq_true rfl) (Nat.le_of_ble_eq_true rfl)
theorem r_MRm_goThrough_43 {l1 l2 l3 l4 l5 l6 : Value} {x : Nat} : Rr X d MRm_goThrough 43 [.ref x, l1, l2, l3, l4, l5, l6] st h = Rr X d MRm_goThrough 44 [.ref x, l1, l2, l3, l4, l5, l6] (.ref x :: st) h := Rr_nx d_MRm_goThrough_43 rfl
theorem r_MRm_goThrough_44 {l0 l1 l2 l3 l4 l5 : Value} {x : Int32} : Rr X d MRm_goThrough 44 [l0, l1, l2, l3, l4, l5, .int x] st h = Rr X d MRm_goThrough 46 [l0, l1, l2, l3, l4, l5, .int x] (.int x :: st) h := Rr_nx d_MRm_goThrough_44 rfl
theorem r_MRm_goThrough_46 {y0 : Int32} {a : Nat} (hO : qO a 10 = true) (hc : ckS st = true) : Rr X (d + 1) MRm_goThrough 46 L (.int y0 :: .ref a :: st) (Wd mu la ro et) = (Rr X d MRm_lookBack 0 [.ref a, .int y0, mkU] [] (Wd mu la ro et)).bind fun q => Rr X (d + 1) MRm_goThrough 49 L (psh q.1 st) q.2 := R_iv (av := [.int y0]) d_MRm_goThrough_46 fc_10_322 hO (ckS_le hc) rfl (Nat.le_of_ble_eq_true rfl) (Nat.le_of_ble_eq_true rfl)
theorem r_MRm_goThrough_49 {l0 l1 l2 l3 l4 l5 : Value} {x : Int32} : Rr X d MRm_goThrough 49 [l0, l1, l2, l3, l4, l5, .int x] st h = Rr X d MRm_goThrough 52 (sL [l0, l1, l2, l3, l4, l5, .int x] 6 (.int (x + (1)))) st h := Rr_nx d_MRm_goThrough_49 rfl
theorem r_MRm_goThrough_52 : Rr X d MRm_goThrough 52 L st h = Rr X d MRm_goThrough 26 L st h := R_goto d_MRm_goThrough_52 (by decide)
theorem r_MRm_goThrough_55 : Rr X d MRm_goThrough 55 L [] h = some (none, h) := Rr_rt d_MRm_goThrough_55 rfl
theorem d_MRm_isGoing_0 : decode MRm_isGoing.2.2.1 0 = .ok (.iload_n 1, 1) := lkT_ok tk_MRm_isGoing rfl
theorem d_MRm_isGoing_1 : decode MRm_isGoing.2.2.1 1 = .ok (.ifCond .lt 38, 3) := lkT_ok tk_MRm_isGoing rfl
theorem d_MRm_isGoing_4 : decode MRm_isGoing.2.2.1 4 = .ok (.aload_n 0, 1) := lkT_ok tk_MRm_isGoing rfl
theorem d_MRm_isGoing_5 : decode MRm_isGoing.2.2.1 5 = .ok (.iload_n 1, 1) := lkT_ok tk_MRm_isGoing rfl
theorem d_MRm_isGoing_6 : decode MRm_isGoing.2.2.1 6 = .ok (.bipush 10, 2) := lkT_ok tk_MRm_isGoing rfl
theorem d_MRm_isGoing_8 : decode MRm_isGoing.2.2.1 8 = .ok (.idiv, 1) := lkT_ok tk_MRm_isGoing rfl
theorem d_MRm_isGoing_9 : decode MRm_isGoing.2.2.1 9 = .ok (.invokevirtual 173, 3) := lkT_ok tk_MRm_isGoing rfl
theorem d_MRm_isGoing_12 : decode MRm_isGoing.2.2.1 12 = .ok (.ifCond .eq 27, 3) := lkT_ok tk_MRm_isGoing rfl
theorem d_MRm_isGoing_15 : decode MRm_isGoing.2.2.1 15 = .ok (.iload_n 1, 1) := lkT_ok tk_MRm_isGoing rfl
theorem d_MRm_isGoing_16 : decode MRm_isGoing.2.2.1 16 = .ok (.bipush 10, 2) := lkT_ok tk_MRm_isGoing rfl
theorem d_MRm_isGoing_18 : decode MRm_isGoing.2.2.1 18 = .ok (.irem, 1) := lkT_ok tk_MRm_isGoing rfl
theorem d_MRm_isGoing_19 : decode MRm_isGoing.2.2.1 19 = .ok (.bipush 9, 2) := lkT_ok tk_MRm_isGoing rfl
theorem d_MRm_isGoing_21 : decode MRm_isGoing.2.2.1 21 = .ok (.if_icmp .eq 14, 3) := lkT_ok tk_MRm_isGoing rfl
theorem d_MRm_isGoing_24 : decode MRm_isGoing.2.2.1 24 = .ok (.aload_n 0, 1) := lkT_ok tk_MRm_isGoing rfl
theorem d_MRm_isGoing_25 : decode MRm_isGoing.2.2.1 25 = .ok (.iload_n 1, 1) := lkT_ok tk_MRm_isGoing rfl
theorem d_MRm_isGoing_26 : decode MRm_isGoing.2.2.1 26 = .ok (.bipush 10, 2) := lkT_ok tk_MRm_isGoing rfl
theorem d_MRm_isGoing_28 : decode MRm_isGoing.2.2.1 28 = .ok (.irem, 1) := lkT_ok tk_MRm_isGoing rfl
theorem d_MRm_isGoing_29 : decode MRm_isGoing.2.2.1 29 = .ok (.invokevirtual 257, 3) := lkT_ok tk_MRm_isGoing rfl
theorem d_MRm_isGoing_32 : decode MRm_isGoing.2.2.1 32 = .ok (.ifCond .eq 7, 3) := lkT_ok tk_MRm_isGoing rfl
theorem d_MRm_isGoing_35 : decode MRm_isGoing.2.2.1 35 = .ok (.iconst 1, 1) := lkT_ok tk_MRm_isGoing rfl
theorem d_MRm_isGoing_36 : decode MRm_isGoing.2.2.1 36 = .ok (.goto 4, 3) := lkT_ok tk_MRm_isGoing rfl
theorem d_MRm_isGoing_39 : decode MRm_isGoing.2.2.1 39 = .ok (.iconst 0, 1) := lkT_ok tk_MRm_isGoing rfl
theorem d_MRm_isGoing_40 : decode MRm_isGoing.2.2.1 40 = .ok (.ireturn, 1) := lkT_ok tk_MRm_isGoing rfl
theorem r_MRm_isGoing_0 {l0 : Value} {x : Int32} : Rr X d MRm_isGoing 0 [l0, .int x] st h = Rr X d MRm_isGoing 1 [l0, .int x] (.int x :: st) h := Rr_nx d_MRm_isGoing_0 rfl
theorem r_MRm_isGoing_1 {x : Int32} : Rr X d MRm_isGoing 1 L (.int x :: st) h = if x < 0 then Rr X d MRm_isGoing 39 L st h else Rr X d MRm_isGoing 4 L st h := R_if_lt d_MRm_isGoing_1 (by decide)
theorem r_MRm_isGoing_4 {l1 : Value} {x : Nat} : Rr X d MRm_isGoing 4 [.ref x, l1] st h = Rr X d MRm_isGoing 5 [.ref x, l1] (.ref x :: st) h := Rr_nx d_MRm_isGoing_4 rfl
theorem r_MRm_isGoing_5 {l0 : Value} {x : Int32} : Rr X d MRm_isGoing 5 [l0, .int x] st h = Rr X d MRm_isGoing 6 [l0, .int x] (.int x :: st) h := Rr_nx d_MRm_isGoing_5 rfl
theorem r_MRm_isGoing_6 : Rr X d MRm_isGoing 6 L st h = Rr X d MRm_isGoing 8 L (.int (10) :: st) h := Rr_nx d_MRm_isGoing_6 rfl
theorem r_MRm_isGoing_8 {x y : Int32} : Rr X d MRm_isGoing 8 L (.int y :: .int x :: st) h = if y = 0 then none else Rr X d MRm_isGoing 9 L (.int (x / y) :: st) h := R_dv d_MRm_isGoing_8
theorem r_MRm_isGoing_9 {y0 : Int32} {a : Nat} (hO : qO a 10 = true) (hc : ckS st = true) : Rr X (d + 1) MRm_isGoing 9 L (.int y0 :: .ref a :: st) (Wd mu la ro et) = (Rr X d MRm_isStone 0 [.ref a, .int y0] [] (Wd mu la ro et)).bind fun q => Rr X (d + 1) MRm_isGoing 12 L (psh q.1 st) q.2 := R_iv (av := [.int y0]) d_MRm_isGoing_9 fc_10_173 hO (ckS_le hc) rfl (Nat.le_of_ble_eq_true rfl) (Nat.le_of_ble_eq_true rfl)
theorem r_MRm_isGoing_12 {x : Int32} : Rr X d MRm_isGoing 12 L (.int x :: st) h = if x = 0 then Rr X d MRm_isGoing 39 L st h else Rr X d MRm_isGoing 15 L st h := R_if_eq d_MRm_isGoing_12 (by decide)
theorem r_MRm_isGoing_15 {l0 : Value} {x : Int32} : Rr X d MRm_isGoing 15 [l0, .int x] st h = Rr X d MRm_isGoing 16 [l0, .int x] (.int x :: st) h := Rr_nx d_MRm_isGoing_15 rfl
theorem r_MRm_isGoing_16 : Rr X d MRm_isGoing 16 L st h = Rr X d MRm_isGoing 18 L (.int (10) :: st) h := Rr_nx d_MRm_isGoing_16 rfl
theorem r_MRm_isGoing_18 {x y : Int32} : Rr X d MRm_isGoing 18 L (.int y :: .int x :: st) h = if y = 0 then none else Rr X d MRm_isGoing 19 L (.int (x - x / y * y) :: st) h := R_rm d_MRm_isGoing_18
theorem r_MRm_isGoing_19 : Rr X d MRm_isGoing 19 L st h = Rr X d MRm_isGoing 21 L (.int (9) :: st) h := Rr_nx d_MRm_isGoing_19 rfl
theorem r_MRm_isGoing_21 {x y : Int32} : Rr X d MRm_isGoing 21 L (.int y :: .int x :: st) h = if x = y then Rr X d MRm_isGoing 35 L st h else Rr X d MRm_isGoing 24 L st h := R_ic_eq d_MRm_isGoing_21 (by decide)
theorem r_MRm_isGoing_24 {l1 : Value} {x : Nat} : Rr X d MRm_isGoing 24 [.ref x, l1] st h = Rr X d MRm_isGoing 25 [.ref x, l1] (.ref x :: st) h := Rr_nx d_MRm_isGoing_24 rfl
theorem r_MRm_isGoing_25 {l0 : Value} {x : Int32} : Rr X d MRm_isGoing 25 [l0, .int x] st h = Rr X d MRm_isGoing 26 [l0, .int x] (.int x :: st) h := Rr_nx d_MRm_isGoing_25 rfl
theorem r_MRm_isGoing_26 : Rr X d MRm_isGoing 26 L st h = Rr X d MRm_isGoing 28 L (.int (10) :: st) h := Rr_nx d_MRm_isGoing_26 rfl
theorem r_MRm_isGoing_28 {x y : Int32} : Rr X d MRm_isGoing 28 L (.int y :: .int x :: st) h = if y = 0 then none else Rr X d MRm_isGoing 29 L (.int (x - x / y * y) :: st) h := R_rm d_MRm_isGoing_28
theorem fc_10_257 : fC 10 257 = some (0, 10, 1, MRm_isFloor) := rfl
theorem r_MRm_isGoing_29 {y0 : Int32} {a : Nat} (hO : qO a 10 = true) (hc : ckS st = true) : Rr X (d + 1) MRm_isGoing 29 L (.int y0 :: .ref a :: st) (Wd mu la ro et) = (Rr X d MRm_isFloor 0 [.ref a, .int y0] [] (Wd mu la ro et)).bind fun q => Rr X (d + 1) MRm_isGoing 32 L (psh q.1 st) q.2 := R_iv (av := [.int y0]) d_MRm_isGoing_29 fc_10_257 hO (ckS_le hc) rfl (Nat.le_of_ble_eq_true rfl) (Nat.le_of_ble_eq_true rfl)
theorem r_MRm_isGoing_32 {x : Int32} : Rr X d MRm_isGoing 32 L (.int x :: st) h = if x = 0 then Rr X d MRm_isGoing 39 L st h else Rr X d MRm_isGoing 35 L st h := R_if_eq d_MRm_isGoing_32 (by decide)
theorem r_MRm_isGoing_35 : Rr X d MRm_isGoing 35 L st h = Rr X d MRm_isGoing 36 L (.int (1) :: st) h := Rr_nx d_MRm_isGoing_35 rfl
theorem r_MRm_isGoing_36 : Rr X d MRm_isGoing 36 L st h = Rr X d MRm_isGoing 40 L st h := R_goto d_MRm_isGoing_36 (by decide)
theorem r_MRm_isGoing_39 : Rr X d MRm_isGoing 39 L st h = Rr X d MRm_isGoing 40 L (.int (0) :: st) h := Rr_nx d_MRm_isGoing_39 rfl
theorem r_MRm_isGoing_40 {x : Int32} : Rr X d MRm_isGoing 40 L [.int x] h = if x = 0 ∨ x = 1 then some (some (.int x), h) else none := R_zr d_MRm_isGoing_40 rfl
theorem d_MRm_isStart_0 : decode MRm_isStart.2.2.1 0 = .ok (.iload_n 0, 1) := lkT_ok tk_MRm_isStart rfl
theorem d_MRm_isStart_1 : decode MRm_isStart.2.2.1 1 = .ok (.sipush (-999), 3) := lkT_ok tk_MRm_isStart rfl
theorem d_MRm_isStart_4 : decode MRm_isStart.2.2.1 4 = .ok (.sipush 999, 3) := lkT_ok tk_MRm_isStart rfl
theorem d_MRm_isStart_7 : decode MRm_isStart.2.2.1 7 = .ok (.invokestatic 107, 3) := lkT_ok tk_MRm_isStart rfl
theorem d_MRm_isStart_10 : decode MRm_isStart.2.2.1 10 = .ok (.ifCond .eq 18, 3) := lkT_ok tk_MRm_isStart rfl
theorem d_MRm_isStart_13 : decode MRm_isStart.2.2.1 13 = .ok (.iload_n 1, 1) := lkT_ok tk_MRm_isStart rfl
theorem d_MRm_isStart_14 : decode MRm_isStart.2.2.1 14 = .ok (.iconst 0, 1) := lkT_ok tk_MRm_isStart rfl
theorem d_MRm_isStart_15 : decode MRm_isStart.2.2.1 15 = .ok (.ldc_w 256, 3) := lkT_ok tk_MRm_isStart rfl
theorem d_MRm_isStart_18 : decode MRm_isStart.2.2.1 18 = .ok (.invokestatic 107, 3) := lkT_ok tk_MRm_isStart rfl
theorem d_MRm_isStart_21 : decode MRm_isStart.2.2.1 21 = .ok (.ifCond .eq 7, 3) := lkT_ok tk_MRm_isStart rfl
theorem d_MRm_isStart_24 : decode MRm_isStart.2.2.1 24 = .ok (.iconst 1, 1) := lkT_ok tk_MRm_isStart rfl
theorem d_MRm_isStart_25 : decode MRm_isStart.2.2.1 25 = .ok (.goto 4, 3) := lkT_ok tk_MRm_isStart rfl
theorem d_MRm_isStart_28 : decode MRm_isStart.2.2.1 28 = .ok (.iconst 0, 1) := lkT_ok tk_MRm_isStart rfl
theorem d_MRm_isStart_29 : decode MRm_isStart.2.2.1 29 = .ok (.ireturn, 1) := lkT_ok tk_MRm_isStart rfl
theorem r_MRm_isStart_0 {l1 : Value} {x : Int32} : Rr X d MRm_isStart 0 [.int x, l1] st h = Rr X d MRm_isStart 1 [.int x, l1] (.int x :: st) h := Rr_nx d_MRm_isStart_0 rfl
theorem r_MRm_isStart_1 : Rr X d MRm_isStart 1 L st h = Rr X d MRm_isStart 4 L (.int (-999) :: st) h := Rr_nx d_MRm_isStart_1 rfl
theorem r_MRm_isStart_4 : Rr X d MRm_isStart 4 L st h = Rr X d MRm_isStart 7 L (.int (999) :: st) h := Rr_nx d_MRm_isStart_4 rfl
theorem r_MRm_isStart_7 {y0 : Int32} {y1 : Int32} {y2 : Int32} (hc : ckS st = true) : Rr X (d + 1) MRm_isStart 7 L (.int y2 :: .int y1 :: .int y0 :: st) h = (Rr X d MRm_in 0 [.int y0, .int y1, .int y2] [] h).bind fun q => Rr X (d + 1) MRm_isStart 10 L (psh q.1 st) q.2 := R_is (av := [.int y2, .int y1, .int y0]) d_MRm_isStart_7 (Or.inl fc_10_107) (ckS_le hc) rfl (Nat.le_of_ble_eq_true rfl) (Nat.le_of_ble_eq_true rfl)
theorem r_MRm_isStart_10 {x : Int32} : Rr X d MRm_isStart 10 L (.int x :: st) h = if x = 0 then Rr X d MRm_isStart 28 L st h else Rr X d MRm_isStart 13 L st h := R_if_eq d_MRm_isStart_10 (by decide)
theorem r_MRm_isStart_13 {l0 : Value} {x : Int32} : Rr X d MRm_isStart 13 [l0, .int x] st h = Rr X d MRm_isStart 14 [l0, .int x] (.int x :: st) h := Rr_nx d_MRm_isStart_13 rfl
theorem r_MRm_isStart_14 : Rr X d MRm_isStart 14 L st h = Rr X d MRm_isStart 15 L (.int (0) :: st) h := Rr_nx d_MRm_isStart_14 rfl
theorem r_MRm_isStart_15 : Rr X d MRm_isStart 15 L st h = Rr X d MRm_isStart 18 L (.int (999999) :: st) h := Rr_nx d_MRm_isStart_15 rfl
theorem r_MRm_isStart_18 {y0 : Int32} {y1 : Int32} {y2 : Int32} (hc : ckS st = true) : Rr X (d + 1) MRm_isStart 18 L (.int y2 :: .int y1 :: .int y0 :: st) h = (Rr X d MRm_in 0 [.int y0, .int y1, .int y2] [] h).bind fun q => Rr X (d + 1) MRm_isStart 21 L (psh q.1 st) q.2 := R_is (av := [.int y2, .int y1, .int y0]) d_MRm_isStart_18 (Or.inl fc_10_107) (ckS_le hc) rfl (Nat.le_of_ble_eq_true rfl) (Nat.le_of_ble_eq_true rfl)
theorem r_MRm_isStart_21 {x : Int32} : Rr X d MRm_isStart 21 L (.int x :: st) h = if x = 0 then Rr X d MRm_isStart 28 L st h else Rr X d MRm_isStart 24 L st h := R_if_eq d_MRm_isStart_21 (by decide)
theorem r_MRm_isStart_24 : Rr X d MRm_isStart 24 L st h = Rr X d MRm_isStart 25 L (.int (1) :: st) h := Rr_nx d_MRm_isStart_24 rfl
theorem r_MRm_isStart_25 : Rr X d MRm_isStart 25 L st h = Rr X d MRm_isStart 29 L st h := R_goto d_MRm_isStart_25 (by decide)
theorem r_MRm_isStart_28 : Rr X d MRm_isStart 28 L st h = Rr X d MRm_isStart 29 L (.int (0) :: st) h := Rr_nx d_MRm_isStart_28 rfl
theorem r_MRm_isStart_29 {x : Int32} : Rr X d MRm_isStart 29 L [.int x] h = if x = 0 ∨ x = 1 then some (some (.int x), h) else none := R_zr d_MRm_isStart_29 rfl
theorem d_MRm_isFloor_0 : decode MRm_isFloor.2.2.1 0 = .ok (.iload_n 1, 1) := lkT_ok tk_MRm_isFloor rfl
theorem d_MRm_isFloor_1 : decode MRm_isFloor.2.2.1 1 = .ok (.iconst 0, 1) := lkT_ok tk_MRm_isFloor rfl
theorem d_MRm_isFloor_2 : decode MRm_isFloor.2.2.1 2 = .ok (.aload_n 0, 1) := lkT_ok tk_MRm_isFloor rfl
theorem d_MRm_isFloor_3 : decode MRm_isFloor.2.2.1 3 = .ok (.getfield 250, 3) := lkT_ok tk_MRm_isFloor rfl
theorem d_MRm_isFloor_6 : decode MRm_isFloor.2.2.1 6 = .ok (.iconst 1, 1) := lkT_ok tk_MRm_isFloor rfl
theorem d_MRm_isFloor_7 : decode MRm_isFloor.2.2.1 7 = .ok (.isub, 1) := lkT_ok tk_MRm_isFloor rfl
theorem d_MRm_isFloor_8 : decode MRm_isFloor.2.2.1 8 = .ok (.invokestatic 107, 3) := lkT_ok tk_MRm_isFloor rfl
theorem d_MRm_isFloor_11 : decode MRm_isFloor.2.2.1 11 = .ok (.ireturn, 1) := lkT_ok tk_MRm_isFloor rfl
theorem r_MRm_isFloor_0 {l0 : Value} {x : Int32} : Rr X d MRm_isFloor 0 [l0, .int x] st h = Rr X d MRm_isFloor 1 [l0, .int x] (.int x :: st) h := Rr_nx d_MRm_isFloor_0 rfl
theorem r_MRm_isFloor_1 : Rr X d MRm_isFloor 1 L st h = Rr X d MRm_isFloor 2 L (.int (0) :: st) h := Rr_nx d_MRm_isFloor_1 rfl
theorem r_MRm_isFloor_2 {l1 : Value} {x : Nat} : Rr X d MRm_isFloor 2 [.ref x, l1] st h = Rr X d MRm_isFloor 3 [.ref x, l1] (.ref x :: st) h := Rr_nx d_MRm_isFloor_2 rfl
theorem r_MRm_isFloor_3 {a : Nat} (hq : qI a 10 29 = true) : Rr X d MRm_isFloor 3 L (.ref a :: st) (Wd mu la ro et) = Rr X d MRm_isFloor 6 L (.int (mu a 29) :: st) (Wd mu la ro et) := R_gfI d_MRm_isFloor_3 ff_10_250 hq
theorem r_MRm_isFloor_6 : Rr X d MRm_isFloor 6 L st h = Rr X d MRm_isFloor 7 L (.int (1) :: st) h := Rr_nx d_MRm_isFloor_6 rfl
theorem r_MRm_isFloor_7 {x y : Int32} : Rr X d MRm_isFloor 7 L (.int y :: .int x :: st) h = Rr X d MRm_isFloor 8 L (.int (x - y) :: st) h := Rr_nx d_MRm_isFloor_7 rfl
theorem r_MRm_isFloor_8 {y0 : Int32} {y1 : Int32} {y2 : Int32} (hc : ckS st = true) : Rr X (d + 1) MRm_isFloor 8 L (.int y2 :: .int y1 :: .int y0 :: st) h = (Rr X d MRm_in 0 [.int y0, .int y1, .int y2] [] h).bind fun q => Rr X (d + 1) MRm_isFloor 11 L (psh q.1 st) q.2 := R_is (av := [.int y2, .int y1, .int y0]) d_MRm_isFloor_8 (Or.inl fc_10_107) (ckS_le hc) rfl (Nat.le_of_ble_eq_true rfl) (Nat.le_of_ble_eq_true rfl)
theorem r_MRm_isFloor_11 {x : Int32} : Rr X d MRm_isFloor 11 L [.int x] h = if x = 0 ∨ x = 1 then some (some (.int x), h) else none := R_zr d_MRm_isFloor_11 rfl
end RULES
