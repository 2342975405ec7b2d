section RULES
variable {X : Tok} {d : Nat} {st L : List Value} {h : Hp} {mu : Nat → Nat → Int32} {la : Nat → Nat → Int64} {ro : Nat → Nat → Option Nat} {et : Nat → Option va_E}
theorem d_MTo_even_0 : decode MTo_even.2.2.1 0 = .ok (.aload_n 0, 1) := lkT_ok tk_MTo_even rfl
theorem d_MTo_even_1 : decode MTo_even.2.2.1 1 = .ok (.iload_n 1, 1) := lkT_ok tk_MTo_even rfl
theorem d_MTo_even_2 : decode MTo_even.2.2.1 2 = .ok (.invokevirtual 100, 3) := lkT_ok tk_MTo_even rfl
theorem d_MTo_even_5 : decode MTo_even.2.2.1 5 = .ok (.astore 5, 2) := lkT_ok tk_MTo_even rfl
theorem d_MTo_even_7 : decode MTo_even.2.2.1 7 = .ok (.aload 5, 2) := lkT_ok tk_MTo_even rfl
theorem d_MTo_even_9 : decode MTo_even.2.2.1 9 = .ok (.ifnull 22, 3) := lkT_ok tk_MTo_even rfl
theorem d_MTo_even_12 : decode MTo_even.2.2.1 12 = .ok (.iload_n 2, 1) := lkT_ok tk_MTo_even rfl
theorem d_MTo_even_13 : decode MTo_even.2.2.1 13 = .ok (.iload_n 3, 1) := lkT_ok tk_MTo_even rfl
theorem d_MTo_even_14 : decode MTo_even.2.2.1 14 = .ok (.invokestatic 139, 3) := lkT_ok tk_MTo_even rfl
theorem d_MTo_even_17 : decode MTo_even.2.2.1 17 = .ok (.ifCond .eq 14, 3) := lkT_ok tk_MTo_even rfl
theorem d_MTo_even_20 : decode MTo_even.2.2.1 20 = .ok (.iload 4, 2) := lkT_ok tk_MTo_even rfl
theorem d_MTo_even_22 : decode MTo_even.2.2.1 22 = .ok (.iconst 0, 1) := lkT_ok tk_MTo_even rfl
theorem d_MTo_even_23 : decode MTo_even.2.2.1 23 = .ok (.bipush 99, 2) := lkT_ok tk_MTo_even rfl
theorem d_MTo_even_25 : decode MTo_even.2.2.1 25 = .ok (.invokestatic 72, 3) := lkT_ok tk_MTo_even rfl
theorem d_MTo_even_28 : decode MTo_even.2.2.1 28 = .ok (.ifCond .ne 5, 3) := lkT_ok tk_MTo_even rfl
theorem d_MTo_even_31 : decode MTo_even.2.2.1 31 = .ok (.iconst (-1), 1) := lkT_ok tk_MTo_even rfl
theorem d_MTo_even_32 : decode MTo_even.2.2.1 32 = .ok (.ireturn, 1) := lkT_ok tk_MTo_even rfl
theorem d_MTo_even_33 : decode MTo_even.2.2.1 33 = .ok (.aload_n 0, 1) := lkT_ok tk_MTo_even rfl
theorem d_MTo_even_34 : decode MTo_even.2.2.1 34 = .ok (.getfield 37, 3) := lkT_ok tk_MTo_even rfl
theorem d_MTo_even_37 : decode MTo_even.2.2.1 37 = .ok (.aload 5, 2) := lkT_ok tk_MTo_even rfl
theorem d_MTo_even_39 : decode MTo_even.2.2.1 39 = .ok (.aload 5, 2) := lkT_ok tk_MTo_even rfl
theorem d_MTo_even_41 : decode MTo_even.2.2.1 41 = .ok (.invokevirtual 131, 3) := lkT_ok tk_MTo_even rfl
theorem d_MTo_even_44 : decode MTo_even.2.2.1 44 = .ok (.aconst_null, 1) := lkT_ok tk_MTo_even rfl
theorem d_MTo_even_45 : decode MTo_even.2.2.1 45 = .ok (.invokevirtual 174, 3) := lkT_ok tk_MTo_even rfl
theorem d_MTo_even_48 : decode MTo_even.2.2.1 48 = .ok (.aload_n 0, 1) := lkT_ok tk_MTo_even rfl
theorem d_MTo_even_49 : decode MTo_even.2.2.1 49 = .ok (.getfield 37, 3) := lkT_ok tk_MTo_even rfl
theorem d_MTo_even_52 : decode MTo_even.2.2.1 52 = .ok (.iload 4, 2) := lkT_ok tk_MTo_even rfl
theorem d_MTo_even_54 : decode MTo_even.2.2.1 54 = .ok (.putfield 178, 3) := lkT_ok tk_MTo_even rfl
theorem d_MTo_even_57 : decode MTo_even.2.2.1 57 = .ok (.aload_n 0, 1) := lkT_ok tk_MTo_even rfl
theorem d_MTo_even_58 : decode MTo_even.2.2.1 58 = .ok (.iload_n 2, 1) := lkT_ok tk_MTo_even rfl
theorem d_MTo_even_59 : decode MTo_even.2.2.1 59 = .ok (.iload_n 3, 1) := lkT_ok tk_MTo_even rfl
theorem d_MTo_even_60 : decode MTo_even.2.2.1 60 = .ok (.invokevirtual 145, 3) := lkT_ok tk_MTo_even rfl
theorem d_MTo_even_63 : decode MTo_even.2.2.1 63 = .ok (.aload_n 0, 1) := lkT_ok tk_MTo_even rfl
theorem d_MTo_even_64 : decode MTo_even.2.2.1 64 = .ok (.getfield 37, 3) := lkT_ok tk_MTo_even rfl
theorem d_MTo_even_67 : decode MTo_even.2.2.1 67 = .ok (.sipush 400, 3) := lkT_ok tk_MTo_even rfl
theorem d_MTo_even_70 : decode MTo_even.2.2.1 70 = .ok (.invokevirtual 181, 3) := lkT_ok tk_MTo_even rfl
theorem d_MTo_even_73 : decode MTo_even.2.2.1 73 = .ok (.aload_n 0, 1) := lkT_ok tk_MTo_even rfl
theorem d_MTo_even_74 : decode MTo_even.2.2.1 74 = .ok (.getfield 37, 3) := lkT_ok tk_MTo_even rfl
theorem d_MTo_even_77 : decode MTo_even.2.2.1 77 = .ok (.getfield 184, 3) := lkT_ok tk_MTo_even rfl
theorem d_MTo_even_80 : decode MTo_even.2.2.1 80 = .ok (.ireturn, 1) := lkT_ok tk_MTo_even rfl
theorem r_MTo_even_0 {l1 l2 l3 l4 l5 : Value} {x : Nat} : Rr X d MTo_even 0 [.ref x, l1, l2, l3, l4, l5] st h = Rr X d MTo_even 1 [.ref x, l1, l2, l3, l4, l5] (.ref x :: st) h := Rr_nx d_MTo_even_0 rfl
theorem r_MTo_even_1 {l0 l2 l3 l4 l5 : Value} {x : Int32} : Rr X d MTo_even 1 [l0, .int x, l2, l3, l4, l5] st h = Rr X d MTo_even 2 [l0, .int x, l2, l3, l4, l5] (.int x :: st) h := Rr_nx d_MTo_even_1 rfl
theorem r_MTo_even_2 {y0 : Int32} {a : Nat} (hO : qO a 9 = true) (hc : ckS st = true) : Rr X (d + 1) MTo_even 2 L (.int y0 :: .ref a :: st) (Wd mu la ro et) = (Rr X d MTo_stoneAt 0 [.ref a, .int y0] [] (Wd mu la ro et)).bind fun q => Rr X (d + 1) MTo_even 5 L (psh q.1 st) q.2 := R_iv (av := [.int y0]) d_MTo_even_2 fc_9_100 hO (ckS_le hc) rfl (Nat.le_of_ble_eq_true rfl) (Nat.le_of_ble_eq_true rfl)
theorem r_MTo_even_5 {l0 l1 l2 l3 l4 l5 : Value} {x : Nat} : Rr X d MTo_even 5 [l0, l1, l2, l3, l4, l5] (.ref x :: st) h = Rr X d MTo_even 7 (sL [l0, l1, l2, l3, l4, l5] 5 (.ref x)) st h := Rr_nx d_MTo_even_5 rfl
theorem r_MTo_even_5n {l0 l1 l2 l3 l4 l5 : Value} : Rr X d MTo_even 5 [l0, l1, l2, l3, l4, l5] (.null :: st) h = Rr X d MTo_even 7 (sL [l0, l1, l2, l3, l4, l5] 5 .null) st h := Rr_nx d_MTo_even_5 rfl
theorem r_MTo_even_7 {l0 l1 l2 l3 l4 : Value} {x : Nat} : Rr X d MTo_even 7 [l0, l1, l2, l3, l4, .ref x] st h = Rr X d MTo_even 9 [l0, l1, l2, l3, l4, .ref x] (.ref x :: st) h := Rr_nx d_MTo_even_7 rfl
theorem r_MTo_even_7n {l0 l1 l2 l3 l4 : Value} : Rr X d MTo_even 7 [l0, l1, l2, l3, l4, .null] st h = Rr X d MTo_even 9 [l0, l1, l2, l3, l4, .null] (.null :: st) h := Rr_nx d_MTo_even_7 rfl
theorem r_MTo_even_9 {x : Nat} : Rr X d MTo_even 9 L (.ref x :: st) h = Rr X d MTo_even 12 L st h := R_nul1 d_MTo_even_9
theorem r_MTo_even_9n : Rr X d MTo_even 9 L (.null :: st) h = Rr X d MTo_even 31 L st h := R_nul0 d_MTo_even_9 (by decide)
theorem r_MTo_even_12 {l0 l1 l3 l4 l5 : Value} {x : Int32} : Rr X d MTo_even 12 [l0, l1, .int x, l3, l4, l5] st h = Rr X d MTo_even 13 [l0, l1, .int x, l3, l4, l5] (.int x :: st) h := Rr_nx d_MTo_even_12 rfl
theorem r_MTo_even_13 {l0 l1 l2 l4 l5 : Value} {x : Int32} : Rr X d MTo_even 13 [l0, l1, l2, .int x, l4, l5] st h = Rr X d MTo_even 14 [l0, l1, l2, .int x, l4, l5] (.int x :: st) h := Rr_nx d_MTo_even_13 rfl
theorem r_MTo_even_14 {y0 : Int32} {y1 : Int32} (hc : ckS st = true) : Rr X (d + 1) MTo_even 14 L (.int y1 :: .int y0 :: st) h = (Rr X d MTo_isStart 0 [.int y0, .int y1] [] h).bind fun q => Rr X (d + 1) MTo_even 17 L (psh q.1 st) q.2 := R_is (av := [.int y1, .int y0]) d_MTo_even_14 (Or.inl fc_9_139) (ckS_le hc) rfl (Nat.le_of_ble_eq_true rfl) (Nat.le_of_ble_eq_true rfl)
theorem r_MTo_even_17 {x : Int32} : Rr X d MTo_even 17 L (.int x :: st) h = if x = 0 then Rr X d MTo_even 31 L st h else Rr X d MTo_even 20 L st h := R_if_eq d_MTo_even_17 (by decide)
theorem r_MTo_even_20 {l0 l1 l2 l3 l5 : Value} {x : Int32} : Rr X d MTo_even 20 [l0, l1, l2, l3, .int x, l5] st h = Rr X d MTo_even 22 [l0, l1, l2, l3, .int x, l5] (.int x :: st) h := Rr_nx d_MTo_even_20 rfl
theorem r_MTo_even_22 : Rr X d MTo_even 22 L st h = Rr X d MTo_even 23 L (.int (0) :: st) h := Rr_nx d_MTo_even_22 rfl
theorem r_MTo_even_23 : Rr X d MTo_even 23 L st h = Rr X d MTo_even 25 L (.int (99) :: st) h := Rr_nx d_MTo_even_23 rfl
theorem r_MTo_even_25 {y0 : Int32} {y1 : Int32} {y2 : Int32} (hc : ckS st = true) : Rr X (d + 1) MTo_even 25 L (.int y2 :: .int y1 :: .int y0 :: st) h = (Rr X d MTo_isWithin 0 [.int y0, .int y1, .int y2] [] h).bind fun q => Rr X (d + 1) MTo_even 28 L (psh q.1 st) q.2 := R_is (av := [.int y2, .int y1, .int y0]) d_MTo_even_25 (Or.inl fc_9_72) (ckS_le hc) rfl (Nat.le_of_ble_eq_true rfl) (Nat.le_of_ble_eq_true rfl)
theorem r_MTo_even_28 {x : Int32} : Rr X d MTo_even 28 L (.int x :: st) h = if ¬ x = 0 then Rr X d MTo_even 33 L st h else Rr X d MTo_even 31 L st h := R_if_ne d_MTo_even_28 (by decide)
theorem r_MTo_even_31 : Rr X d MTo_even 31 L st h = Rr X d MTo_even 32 L (.int (-1) :: st) h := Rr_nx d_MTo_even_31 rfl
theorem r_MTo_even_32 {x : Int32} : Rr X d MTo_even 32 L [.int x] h = some (some (.int x), h) := R_ir d_MTo_even_32 rfl
theorem r_MTo_even_33 {l1 l2 l3 l4 l5 : Value} {x : Nat} : Rr X d MTo_even 33 [.ref x, l1, l2, l3, l4, l5] st h = Rr X d MTo_even 34 [.ref x, l1, l2, l3, l4, l5] (.ref x :: st) h := Rr_nx d_MTo_even_33 rfl
theorem r_MTo_even_34 {a : Nat} (hq : (qR a 9 4).isSome = true) : Rr X d MTo_even 34 L (.ref a :: st) (Wd mu la ro et) = Rr X d MTo_even 37 L (.ref (qRd a 9 4) :: st) (Wd mu la ro et) := R_gfR d_MTo_even_34 ff_9_37 hq
theorem r_MTo_even_37 {l0 l1 l2 l3 l4 : Value} {x : Nat} : Rr X d MTo_even 37 [l0, l1, l2, l3, l4, .ref x] st h = Rr X d MTo_even 39 [l0, l1, l2, l3, l4, .ref x] (.ref x :: st) h := Rr_nx d_MTo_even_37 rfl
theorem r_MTo_even_37n {l0 l1 l2 l3 l4 : Value} : Rr X d MTo_even 37 [l0, l1, l2, l3, l4, .null] st h = Rr X d MTo_even 39 [l0, l1, l2, l3, l4, .null] (.null :: st) h := Rr_nx d_MTo_even_37 rfl
theorem r_MTo_even_39 {l0 l1 l2 l3 l4 : Value} {x : Nat} : Rr X d MTo_even 39 [l0, l1, l2, l3, l4, .ref x] st h = Rr X d MTo_even 41 [l0, l1, l2, l3, l4, .ref x] (.ref x :: st) h := Rr_nx d_MTo_even_39 rfl
theorem r_MTo_even_39n {l0 l1 l2 l3 l4 : Value} : Rr X d MTo_even 39 [l0, l1, l2, l3, l4, .null] st h = Rr X d MTo_even 41 [l0, l1, l2, l3, l4, .null] (.null :: st) h := Rr_nx d_MTo_even_39 rfl
theorem r_MTo_even_41 {a : Nat} (hO : qO a 7 = true) (hc : ckS st = true) : Rr X (d + 1) MTo_even 41 L (.ref a :: st) (Wd mu la ro et) = (Rr X d MSt_keen 0 [.ref a] [] (Wd mu la ro et)).bind fun q => Rr X (d + 1) MTo_even 44 L (psh q.1 st) q.2 := R_iv (av := []) d_MTo_even_41 fc_9_131 hO (ckS_le hc) rfl (Nat.le_of_ble_eq_true rfl) (Nat.le_of_ble_eq_true rfl)
theorem r_MTo_even_44 : Rr X d MTo_even 44 L st h = Rr X d MTo_even 45 L (.null :: st) h := Rr_nx d_MTo_even_44 rfl
theorem r_MTo_even_45 {y0 : Nat} {y1 : Int32} {y2 : Nat} {a : Nat} (hO : qO a 5 = true) (hc : ckS st = true) : Rr X (d + 1) MTo_even 45 L (.ref y2 :: .int y1 :: .ref y0 :: .ref a :: st) (Wd mu la ro et) = (Rr X d MMo_rule 0 [.ref a, .ref y0, .int y1, .ref y2] [] (Wd mu la ro et)).bind fun q => Rr X (d + 1) MTo_even 48 L (psh q.1 st) q.2 := R_iv (av := [.ref y2, .int y1, .ref y0]) d_MTo_even_45 fc_9_174 hO (ckS_le hc) rfl (Nat.le_of_ble_eq_true rfl) (Nat.le_of_ble_eq_true rfl)
theorem r_MTo_even_48 {l1 l2 l3 l4 l5 : Value} {x : Nat} : Rr X d MTo_even 48 [.ref x, l1, l2, l3, l4, l5] st h = Rr X d MTo_even 49 [.ref x, l1, l2, l3, l4, l5] (.ref x :: st) h := Rr_nx d_MTo_even_48 rfl
theorem r_MTo_even_49 {a : Nat} (hq : (qR a 9 4).isSome = true) : Rr X d MTo_even 49 L (.ref a :: st) (Wd mu la ro et) = Rr X d MTo_even 52 L (.ref (qRd a 9 4) :: st) (Wd mu la ro et) := R_gfR d_MTo_even_49 ff_9_37 hq
theorem r_MTo_even_52 {l0 l1 l2 l3 l5 : Value} {x : Int32} : Rr X d MTo_even 52 [l0, l1, l2, l3, .int x, l5] st h = Rr X d MTo_even 54 [l0, l1, l2, l3, .int x, l5] (.int x :: st) h := Rr_nx d_MTo_even_52 rfl
theorem ff_9_178 : fF 9 178 = some (5, 6, 0, 0) := rfl
theorem r_MTo_even_54 {a : Nat} {x : Int32} (hq : qI a 5 6 = true) : Rr X d MTo_even 54 L (.int x :: .ref a :: st) (Wd mu la ro et) = Rr X d MTo_even 57 L st (Wd (up2 mu a 6 x) la ro et) := R_pfI d_MTo_even_54 ff_9_178 hq
theorem r_MTo_even_57 {l1 l2 l3 l4 l5 : Value} {x : Nat} : Rr X d MTo_even 57 [.ref x, l1, l2, l3, l4, l5] st h = Rr X d MTo_even 58 [.ref x, l1, l2, l3, l4, l5] (.ref x :: st) h := Rr_nx d_MTo_even_57 rfl
theorem r_MTo_even_58 {l0 l1 l3 l4 l5 : Value} {x : Int32} : Rr X d MTo_even 58 [l0, l1, .int x, l3, l4, l5] st h = Rr X d MTo_even 59 [l0, l1, .int x, l3, l4, l5] (.int x :: st) h := Rr_nx d_MTo_even_58 rfl
theorem r_MTo_even_59 {l0 l1 l2 l4 l5 : Value} {x : Int32} : Rr X d MTo_even 59 [l0, l1, l2, .int x, l4, l5] st h = Rr X d MTo_even 60 [l0, l1, l2, .int x, l4, l5] (.int x :: st) h := Rr_nx d_MTo_even_59 rfl
theorem r_MTo_even_60 {y0 : Int32} {y1 : Int32} {a : Nat} (hO : qO a 9 = true) (hc : ckS st = true) : Rr X (d + 1) MTo_even 60 L (.int y1 :: .int y0 :: .ref a :: st) (Wd mu la ro et) = (Rr X d MTo_start 0 [.ref a, .int y0, .int y1] [] (Wd mu la ro et)).bind fun q => Rr X (d + 1) MTo_even 63 L (psh q.1 st) q.2 := R_iv (av := [.int y1, .int y0]) d_MTo_even_60 fc_9_145 hO (ckS_le hc) rfl (Nat.le_of_ble_eq_true rfl) (Nat.le_of_ble_eq_true rfl)
theorem r_MTo_even_63 {l1 l2 l3 l4 l5 : Value} {x : Nat} : Rr X d MTo_even 63 [.ref x, l1, l2, l3, l4, l5] st h = Rr X d MTo_even 64 [.ref x, l1, l2, l3, l4, l5] (.ref x :: st) h := Rr_nx d_MTo_even_63 rfl
theorem r_MTo_even_64 {a : Nat} (hq : (qR a 9 4).isSome = true) : Rr X d MTo_even 64 L (.ref a :: st) (Wd mu la ro et) = Rr X d MTo_even 67 L (.ref (qRd a 9 4) :: st) (Wd mu la ro et) := R_gfR d_MTo_even_64 ff_9_37 hq
theorem r_MTo_even_67 : Rr X d MTo_even 67 L st h = Rr X d MTo_even 70 L (.int (400) :: st) h := Rr_nx d_MTo_even_67 rfl
theorem fc_9_181 : fC 9 181 = some (0, 5, 1, MMo_run) := rfl
theorem r_MTo_even_70 {y0 : Int32} {a : Nat} (hO : qO a 5 = true) (hc : ckS st = true) : Rr X (d + 1) MTo_even 70 L (.int y0 :: .ref a :: st) (Wd mu la ro et) = (Rr X d MMo_run 0 [.ref a, .int y0, mkU] [] (Wd mu la ro et)).bind fun q => Rr X (d + 1) MTo_even 73 L (psh q.1 st) q.2 := R_iv (av := [.int y0]) d_MTo_even_70 fc_9_181 hO (ckS_le hc) rfl (Nat.le_of_ble_eq_true rfl) (Nat.le_of_ble_eq_true rfl)
theorem r_MTo_even_73 {l1 l2 l3 l4 l5 : Value} {x : Nat} : Rr X d MTo_even 73 [.ref x, l1, l2, l3, l4, l5] st h = Rr X d MTo_even 74 [.ref x, l1, l2, l3, l4, l5] (.ref x :: st) h := Rr_nx d_MTo_even_73 rfl
theorem r_MTo_even_74 {a : Nat} (hq : (qR a 9 4).isSome = true) : Rr X d MTo_even 74 L (.ref a :: st) (Wd mu la ro et) = Rr X d MTo_even 77 L (.ref (qRd a 9 4) :: st) (Wd mu la ro et) := R_gfR d_MTo_even_74 ff_9_37 hq
theorem r_MTo_even_77 {a : Nat} (hq : qI a 5 12 = true) : Rr X d MTo_even 77 L (.ref a :: st) (Wd mu la ro et) = Rr X d MTo_even 80 L (.int (mu a 12) :: st) (Wd mu la ro et) := R_gfI d_MTo_even_77 ff_9_184 hq
theorem r_MTo_even_80 {x : Int32} : Rr X d MTo_even 80 L [.int x] h = some (some (.int x), h) := R_ir d_MTo_even_80 rfl
theorem d_MTo_seen_0 : decode MTo_seen.2.2.1 0 = .ok (.aload_n 0, 1) := lkT_ok tk_MTo_seen rfl
theorem d_MTo_seen_1 : decode MTo_seen.2.2.1 1 = .ok (.iload_n 1, 1) := lkT_ok tk_MTo_seen rfl
theorem d_MTo_seen_2 : decode MTo_seen.2.2.1 2 = .ok (.invokevirtual 135, 3) := lkT_ok tk_MTo_seen rfl
theorem d_MTo_seen_5 : decode MTo_seen.2.2.1 5 = .ok (.ifCond .eq 11, 3) := lkT_ok tk_MTo_seen rfl
theorem d_MTo_seen_8 : decode MTo_seen.2.2.1 8 = .ok (.iload_n 2, 1) := lkT_ok tk_MTo_seen rfl
theorem d_MTo_seen_9 : decode MTo_seen.2.2.1 9 = .ok (.iload_n 3, 1) := lkT_ok tk_MTo_seen rfl
theorem d_MTo_seen_10 : decode MTo_seen.2.2.1 10 = .ok (.invokestatic 139, 3) := lkT_ok tk_MTo_seen rfl
theorem d_MTo_seen_13 : decode MTo_seen.2.2.1 13 = .ok (.ifCond .ne 5, 3) := lkT_ok tk_MTo_seen rfl
theorem d_MTo_seen_16 : decode MTo_seen.2.2.1 16 = .ok (.iconst (-1), 1) := lkT_ok tk_MTo_seen rfl
theorem d_MTo_seen_17 : decode MTo_seen.2.2.1 17 = .ok (.ireturn, 1) := lkT_ok tk_MTo_seen rfl
theorem d_MTo_seen_18 : decode MTo_seen.2.2.1 18 = .ok (.iconst 1, 1) := lkT_ok tk_MTo_seen rfl
theorem d_MTo_seen_19 : decode MTo_seen.2.2.1 19 = .ok (.istore 4, 2) := lkT_ok tk_MTo_seen rfl
theorem d_MTo_seen_21 : decode MTo_seen.2.2.1 21 = .ok (.iload 4, 2) := lkT_ok tk_MTo_seen rfl
theorem d_MTo_seen_23 : decode MTo_seen.2.2.1 23 = .ok (.bipush 9, 2) := lkT_ok tk_MTo_seen rfl
theorem d_MTo_seen_25 : decode MTo_seen.2.2.1 25 = .ok (.if_icmp .gt 28, 3) := lkT_ok tk_MTo_seen rfl
theorem d_MTo_seen_28 : decode MTo_seen.2.2.1 28 = .ok (.aload_n 0, 1) := lkT_ok tk_MTo_seen rfl
theorem d_MTo_seen_29 : decode MTo_seen.2.2.1 29 = .ok (.iload_n 1, 1) := lkT_ok tk_MTo_seen rfl
theorem d_MTo_seen_30 : decode MTo_seen.2.2.1 30 = .ok (.iload 4, 2) := lkT_ok tk_MTo_seen rfl
theorem d_MTo_seen_32 : decode MTo_seen.2.2.1 32 = .ok (.invokevirtual 197, 3) := lkT_ok tk_MTo_seen rfl
theorem d_MTo_seen_35 : decode MTo_seen.2.2.1 35 = .ok (.aload_n 0, 1) := lkT_ok tk_MTo_seen rfl
theorem d_MTo_seen_36 : decode MTo_seen.2.2.1 36 = .ok (.iload_n 2, 1) := lkT_ok tk_MTo_seen rfl
theorem d_MTo_seen_37 : decode MTo_seen.2.2.1 37 = .ok (.iload_n 3, 1) := lkT_ok tk_MTo_seen rfl
theorem d_MTo_seen_38 : decode MTo_seen.2.2.1 38 = .ok (.invokevirtual 188, 3) := lkT_ok tk_MTo_seen rfl
theorem d_MTo_seen_41 : decode MTo_seen.2.2.1 41 = .ok (.ifCond .le 6, 3) := lkT_ok tk_MTo_seen rfl
theorem d_MTo_seen_44 : decode MTo_seen.2.2.1 44 = .ok (.iload 4, 2) := lkT_ok tk_MTo_seen rfl
theorem d_MTo_seen_46 : decode MTo_seen.2.2.1 46 = .ok (.ireturn, 1) := lkT_ok tk_MTo_seen rfl
theorem d_MTo_seen_47 : decode MTo_seen.2.2.1 47 = .ok (.iinc 4 1, 3) := lkT_ok tk_MTo_seen rfl
theorem d_MTo_seen_50 : decode MTo_seen.2.2.1 50 = .ok (.goto (-29), 3) := lkT_ok tk_MTo_seen rfl
theorem d_MTo_seen_53 : decode MTo_seen.2.2.1 53 = .ok (.bipush (-2), 2) := lkT_ok tk_MTo_seen rfl
theorem d_MTo_seen_55 : decode MTo_seen.2.2.1 55 = .ok (.ireturn, 1) := lkT_ok tk_MTo_seen rfl
theorem r_MTo_seen_0 {l1 l2 l3 l4 : Value} {x : Nat} : Rr X d MTo_seen 0 [.ref x, l1, l2, l3, l4] st h = Rr X d MTo_seen 1 [.ref x, l1, l2, l3, l4] (.ref x :: st) h := Rr_nx d_MTo_seen_0 rfl
theorem r_MTo_seen_1 {l0 l2 l3 l4 : Value} {x : Int32} : Rr X d MTo_seen 1 [l0, .int x, l2, l3, l4] st h = Rr X d MTo_seen 2 [l0, .int x, l2, l3, l4] (.int x :: st) h := Rr_nx d_MTo_seen_1 rfl
theorem r_MTo_seen_2 {y0 : Int32} {a : Nat} (hO : qO a 9 = true) (hc : ckS st = true) : Rr X (d + 1) MTo_seen 2 L (.int y0 :: .ref a :: st) (Wd mu la ro et) = (Rr X d MTo_isGround 0 [.ref a, .int y0] [] (Wd mu la ro et)).bind fun q => Rr X (d + 1) MTo_seen 5 L (psh q.1 st) q.2 := R_iv (av := [.int y0]) d_MTo_seen_2 fc_9_135 hO (ckS_le hc) rfl (Nat.le_of_ble_eq_true rfl) (Nat.le_of_ble_eq_true rfl)
theorem r_MTo_seen_5 {x : Int32} : Rr X d MTo_seen 5 L (.int x :: st) h = if x = 0 then Rr X d MTo_seen 16 L st h else Rr X d MTo_seen 8 L st h := R_if_eq d_MTo_seen_5 (by decide)
theorem r_MTo_seen_8 {l0 l1 l3 l4 : Value} {x : Int32} : Rr X d MTo_seen 8 [l0, l1, .int x, l3, l4] st h = Rr X d MTo_seen 9 [l0, l1, .int x, l3, l4] (.int x :: st) h := Rr_nx d_MTo_seen_8 rfl
theorem r_MTo_seen_9 {l0 l1 l2 l4 : Value} {x : Int32} : Rr X d MTo_seen 9 [l0, l1, l2, .int x, l4] st h = Rr X d MTo_seen 10 [l0, l1, l2, .int x, l4] (.int x :: st) h := Rr_nx d_MTo_seen_9 rfl
theorem r_MTo_seen_10 {y0 : Int32} {y1 : Int32} (hc : ckS st = true) : Rr X (d + 1) MTo_seen 10 L (.int y1 :: .int y0 :: st) h = (Rr X d MTo_isStart 0 [.int y0, .int y1] [] h).bind fun q => Rr X (d + 1) MTo_seen 13 L (psh q.1 st) q.2 := R_is (av := [.int y1, .int y0]) d_MTo_seen_10 (Or.inl fc_9_139) (ckS_le hc) rfl (Nat.le_of_ble_eq_true rfl) (Nat.le_of_ble_eq_true rfl)
theorem r_MTo_seen_13 {x : Int32} : Rr X d MTo_seen 13 L (.int x :: st) h = if ¬ x = 0 then Rr X d MTo_seen 18 L st h else Rr X d MTo_seen 16 L st h := R_if_ne d_MTo_seen_13 (by decide)
theorem r_MTo_seen_16 : Rr X d MTo_seen 16 L st h = Rr X d MTo_seen 17 L (.int (-1) :: st) h := Rr_nx d_MTo_seen_16 rfl
theorem r_MTo_seen_17 {x : Int32} : Rr X d MTo_seen 17 L [.int x] h = some (some (.int x), h) := R_ir d_MTo_seen_17 rfl
theorem r_MTo_seen_18 : Rr X d MTo_seen 18 L st h = Rr X d MTo_seen 19 L (.int (1) :: st) h := Rr_nx d_MTo_seen_18 rfl
theorem r_MTo_seen_19 {l0 l1 l2 l3 l4 : Value} {x : Int32} : Rr X d MTo_seen 19 [l0, l1, l2, l3, l4] (.int x :: st) h = Rr X d MTo_seen 21 (sL [l0, l1, l2, l3, l4] 4 (.int x)) st h := Rr_nx d_MTo_seen_19 rfl
theorem r_MTo_seen_21 {l0 l1 l2 l3 : Value} {x : Int32} : Rr X d MTo_seen 21 [l0, l1, l2, l3, .int x] st h = Rr X d MTo_seen 23 [l0, l1, l2, l3, .int x] (.int x :: st) h := Rr_nx d_MTo_seen_21 rfl
theorem r_MTo_seen_23 : Rr X d MTo_seen 23 L st h = Rr X d MTo_seen 25 L (.int (9) :: st) h := Rr_nx d_MTo_seen_23 rfl
theorem r_MTo_seen_25 {x y : Int32} : Rr X d MTo_seen 25 L (.int y :: .int x :: st) h = if y < x then Rr X d MTo_seen 53 L st h else Rr X d MTo_seen 28 L st h := R_ic_gt d_MTo_seen_25 (by decide)
theorem r_MTo_seen_28 {l1 l2 l3 l4 : Value} {x : Nat} : Rr X d MTo_seen 28 [.ref x, l1, l2, l3, l4] st h = Rr X d MTo_seen 29 [.ref x, l1, l2, l3, l4] (.ref x :: st) h := Rr_nx d_MTo_seen_28 rfl
theorem r_MTo_seen_29 {l0 l2 l3 l4 : Value} {x : Int32} : Rr X d MTo_seen 29 [l0, .int x, l2, l3, l4] st h = Rr X d MTo_seen 30 [l0, .int x, l2, l3, l4] (.int x :: st) h := Rr_nx d_MTo_seen_29 rfl
theorem r_MTo_seen_30 {l0 l1 l2 l3 : Value} {x : Int32} : Rr X d MTo_seen 30 [l0, l1, l2, l3, .int x] st h = Rr X d MTo_seen 32 [l0, l1, l2, l3, .int x] (.int x :: st) h := Rr_nx d_MTo_seen_30 rfl
theorem r_MTo_seen_32 {y0 : Int32} {y1 : Int32} {a : Nat} (hO : qO a 9 = true) (hc : ckS st = true) : Rr X (d + 1) MTo_seen 32 L (.int y1 :: .int y0 :: .ref a :: st) (Wd mu la ro et) = (Rr X d MTo_lay 0 [.ref a, .int y0, .int y1, mkU] [] (Wd mu la ro et)).bind fun q => Rr X (d + 1) MTo_seen 35 L (psh q.1 st) q.2 := R_iv (av := [.int y1, .int y0]) d_MTo_seen_32 fc_9_197 hO (ckS_le hc) rfl (Nat.le_of_ble_eq_true rfl) (Nat.le_of_ble_eq_true rfl)
theorem r_MTo_seen_35 {l1 l2 l3 l4 : Value} {x : Nat} : Rr X d MTo_seen 35 [.ref x, l1, l2, l3, l4] st h = Rr X d MTo_seen 36 [.ref x, l1, l2, l3, l4] (.ref x :: st) h := Rr_nx d_MTo_seen_35 rfl
theorem r_MTo_seen_36 {l0 l1 l3 l4 : Value} {x : Int32} : Rr X d MTo_seen 36 [l0, l1, .int x, l3, l4] st h = Rr X d MTo_seen 37 [l0, l1, .int x, l3, l4] (.int x :: st) h := Rr_nx d_MTo_seen_36 rfl
theorem r_MTo_seen_37 {l0 l1 l2 l4 : Value} {x : Int32} : Rr X d MTo_seen 37 [l0, l1, l2, .int x, l4] st h = Rr X d MTo_seen 38 [l0, l1, l2, .int x, l4] (.int x :: st) h := Rr_nx d_MTo_seen_37 rfl
theorem fc_9_188 : fC 9 188 = some (0, 9, 2, MTo_firstBack) := rfl
theorem r_MTo_seen_38 {y0 : Int32} {y1 : Int32} {a : Nat} (hO : qO a 9 = true) (hc : ckS st = true) : Rr X (d + 1) MTo_seen 38 L (.int y1 :: .int y0 :: .ref a :: st) (Wd mu la ro et) = (Rr X d MTo_firstBack 0 [.ref a, .int y0, .int y1, mkU] [] (Wd mu la ro et)).bind fun q => Rr X (d + 1) MTo_seen 41 L (psh q.1 st) q.2 := R_iv (av := [.int y1, .int y0]) d_MTo_seen_38 fc_9_188 hO (ckS_le hc) rfl (Nat.le_of_ble_eq_true rfl) (Nat.le_of_ble_eq_true rfl)
theorem r_MTo_seen_41 {x : Int32} : Rr X d MTo_seen 41 L (.int x :: st) h = if x ≤ 0 then Rr X d MTo_seen 47 L st h else Rr X d MTo_seen 44 L st h := R_if_le d_MTo_seen_41 (by decide)
theorem r_MTo_seen_44 {l0 l1 l2 l3 : Value} {x : Int32} : Rr X d MTo_seen 44 [l0, l1, l2, l3, .int x] st h = Rr X d MTo_seen 46 [l0, l1, l2, l3, .int x] (.int x :: st) h := Rr_nx d_MTo_seen_44 rfl
theorem r_MTo_seen_46 {x : Int32} : Rr X d MTo_seen 46 L [.int x] h = some (some (.int x), h) := R_ir d_MTo_seen_46 rfl
theorem r_MTo_seen_47 {l0 l1 l2 l3 : Value} {x : Int32} : Rr X d MTo_seen 47 [l0, l1, l2, l3, .int x] st h = Rr X d MTo_seen 50 (sL [l0, l1, l2, l3, .int x] 4 (.int (x + (1)))) st h := Rr_nx d_MTo_seen_47 rfl
theorem r_MTo_seen_50 : Rr X d MTo_seen 50 L st h = Rr X d MTo_seen 21 L st h := R_goto d_MTo_seen_50 (by decide)
theorem r_MTo_seen_53 : Rr X d MTo_seen 53 L st h = Rr X d MTo_seen 55 L (.int (-2) :: st) h := Rr_nx d_MTo_seen_53 rfl
theorem r_MTo_seen_55 {x : Int32} : Rr X d MTo_seen 55 L [.int x] h = some (some (.int x), h) := R_ir d_MTo_seen_55 rfl
theorem d_MTo_soonest_0 : decode MTo_soonest.2.2.1 0 = .ok (.aload_n 0, 1) := lkT_ok tk_MTo_soonest rfl
theorem d_MTo_soonest_1 : decode MTo_soonest.2.2.1 1 = .ok (.iload_n 1, 1) := lkT_ok tk_MTo_soonest rfl
theorem d_MTo_soonest_2 : decode MTo_soonest.2.2.1 2 = .ok (.invokevirtual 185, 3) := lkT_ok tk_MTo_soonest rfl
theorem d_MTo_soonest_5 : decode MTo_soonest.2.2.1 5 = .ok (.ifCond .eq 21, 3) := lkT_ok tk_MTo_soonest rfl
theorem d_MTo_soonest_8 : decode MTo_soonest.2.2.1 8 = .ok (.iload_n 2, 1) := lkT_ok tk_MTo_soonest rfl
theorem d_MTo_soonest_9 : decode MTo_soonest.2.2.1 9 = .ok (.iload_n 3, 1) := lkT_ok tk_MTo_soonest rfl
theorem d_MTo_soonest_10 : decode MTo_soonest.2.2.1 10 = .ok (.invokestatic 139, 3) := lkT_ok tk_MTo_soonest rfl
theorem d_MTo_soonest_13 : decode MTo_soonest.2.2.1 13 = .ok (.ifCond .eq 13, 3) := lkT_ok tk_MTo_soonest rfl
theorem d_MTo_soonest_16 : decode MTo_soonest.2.2.1 16 = .ok (.iload 4, 2) := lkT_ok tk_MTo_soonest rfl
theorem d_MTo_soonest_18 : decode MTo_soonest.2.2.1 18 = .ok (.iconst 0, 1) := lkT_ok tk_MTo_soonest rfl
theorem d_MTo_soonest_19 : decode MTo_soonest.2.2.1 19 = .ok (.iconst 1, 1) := lkT_ok tk_MTo_soonest rfl
theorem d_MTo_soonest_20 : decode MTo_soonest.2.2.1 20 = .ok (.invokestatic 72, 3) := lkT_ok tk_MTo_soonest rfl
theorem d_MTo_soonest_23 : decode MTo_soonest.2.2.1 23 = .ok (.ifCond .ne 5, 3) := lkT_ok tk_MTo_soonest rfl
theorem d_MTo_soonest_26 : decode MTo_soonest.2.2.1 26 = .ok (.iconst (-1), 1) := lkT_ok tk_MTo_soonest rfl
theorem d_MTo_soonest_27 : decode MTo_soonest.2.2.1 27 = .ok (.ireturn, 1) := lkT_ok tk_MTo_soonest rfl
theorem d_MTo_soonest_28 : decode MTo_soonest.2.2.1 28 = .ok (.bipush (-2), 2) := lkT_ok tk_MTo_soonest rfl
theorem d_MTo_soonest_30 : decode MTo_soonest.2.2.1 30 = .ok (.istore 5, 2) := lkT_ok tk_MTo_soonest rfl
theorem d_MTo_soonest_32 : decode MTo_soonest.2.2.1 32 = .ok (.bipush (-2), 2) := lkT_ok tk_MTo_soonest rfl
theorem d_MTo_soonest_34 : decode MTo_soonest.2.2.1 34 = .ok (.istore 6, 2) := lkT_ok tk_MTo_soonest rfl
theorem d_MTo_soonest_36 : decode MTo_soonest.2.2.1 36 = .ok (.iconst 0, 1) := lkT_ok tk_MTo_soonest rfl
theorem d_MTo_soonest_37 : decode MTo_soonest.2.2.1 37 = .ok (.istore 7, 2) := lkT_ok tk_MTo_soonest rfl
theorem d_MTo_soonest_39 : decode MTo_soonest.2.2.1 39 = .ok (.iload 7, 2) := lkT_ok tk_MTo_soonest rfl
theorem d_MTo_soonest_41 : decode MTo_soonest.2.2.1 41 = .ok (.aload_n 0, 1) := lkT_ok tk_MTo_soonest rfl
theorem d_MTo_soonest_42 : decode MTo_soonest.2.2.1 42 = .ok (.getfield 84, 3) := lkT_ok tk_MTo_soonest rfl
theorem d_MTo_soonest_45 : decode MTo_soonest.2.2.1 45 = .ok (.if_icmp .ge 53, 3) := lkT_ok tk_MTo_soonest rfl
theorem d_MTo_soonest_48 : decode MTo_soonest.2.2.1 48 = .ok (.aload_n 0, 1) := lkT_ok tk_MTo_soonest rfl
theorem d_MTo_soonest_49 : decode MTo_soonest.2.2.1 49 = .ok (.bipush 10, 2) := lkT_ok tk_MTo_soonest rfl
theorem d_MTo_soonest_51 : decode MTo_soonest.2.2.1 51 = .ok (.iload 7, 2) := lkT_ok tk_MTo_soonest rfl
theorem d_MTo_soonest_53 : decode MTo_soonest.2.2.1 53 = .ok (.imul, 1) := lkT_ok tk_MTo_soonest rfl
theorem d_MTo_soonest_54 : decode MTo_soonest.2.2.1 54 = .ok (.iload_n 1, 1) := lkT_ok tk_MTo_soonest rfl
theorem d_MTo_soonest_55 : decode MTo_soonest.2.2.1 55 = .ok (.iadd, 1) := lkT_ok tk_MTo_soonest rfl
theorem d_MTo_soonest_56 : decode MTo_soonest.2.2.1 56 = .ok (.invokevirtual 142, 3) := lkT_ok tk_MTo_soonest rfl
theorem d_MTo_soonest_59 : decode MTo_soonest.2.2.1 59 = .ok (.aload_n 0, 1) := lkT_ok tk_MTo_soonest rfl
theorem d_MTo_soonest_60 : decode MTo_soonest.2.2.1 60 = .ok (.iload_n 2, 1) := lkT_ok tk_MTo_soonest rfl
theorem d_MTo_soonest_61 : decode MTo_soonest.2.2.1 61 = .ok (.iload_n 3, 1) := lkT_ok tk_MTo_soonest rfl
theorem d_MTo_soonest_62 : decode MTo_soonest.2.2.1 62 = .ok (.invokevirtual 188, 3) := lkT_ok tk_MTo_soonest rfl
theorem d_MTo_soonest_65 : decode MTo_soonest.2.2.1 65 = .ok (.istore 8, 2) := lkT_ok tk_MTo_soonest rfl
theorem d_MTo_soonest_67 : decode MTo_soonest.2.2.1 67 = .ok (.iload 8, 2) := lkT_ok tk_MTo_soonest rfl
theorem d_MTo_soonest_69 : decode MTo_soonest.2.2.1 69 = .ok (.ifCond .le 23, 3) := lkT_ok tk_MTo_soonest rfl
theorem d_MTo_soonest_72 : decode MTo_soonest.2.2.1 72 = .ok (.iload 5, 2) := lkT_ok tk_MTo_soonest rfl
theorem d_MTo_soonest_74 : decode MTo_soonest.2.2.1 74 = .ok (.ifCond .lt 10, 3) := lkT_ok tk_MTo_soonest rfl
theorem d_MTo_soonest_77 : decode MTo_soonest.2.2.1 77 = .ok (.iload 8, 2) := lkT_ok tk_MTo_soonest rfl
theorem d_MTo_soonest_79 : decode MTo_soonest.2.2.1 79 = .ok (.iload 6, 2) := lkT_ok tk_MTo_soonest rfl
theorem d_MTo_soonest_81 : decode MTo_soonest.2.2.1 81 = .ok (.if_icmp .ge 11, 3) := lkT_ok tk_MTo_soonest rfl
theorem d_MTo_soonest_84 : decode MTo_soonest.2.2.1 84 = .ok (.iload 7, 2) := lkT_ok tk_MTo_soonest rfl
theorem d_MTo_soonest_86 : decode MTo_soonest.2.2.1 86 = .ok (.istore 5, 2) := lkT_ok tk_MTo_soonest rfl
theorem d_MTo_soonest_88 : decode MTo_soonest.2.2.1 88 = .ok (.iload 8, 2) := lkT_ok tk_MTo_soonest rfl
theorem d_MTo_soonest_90 : decode MTo_soonest.2.2.1 90 = .ok (.istore 6, 2) := lkT_ok tk_MTo_soonest rfl
theorem d_MTo_soonest_92 : decode MTo_soonest.2.2.1 92 = .ok (.iinc 7 1, 3) := lkT_ok tk_MTo_soonest rfl
theorem d_MTo_soonest_95 : decode MTo_soonest.2.2.1 95 = .ok (.goto (-56), 3) := lkT_ok tk_MTo_soonest rfl
theorem d_MTo_soonest_98 : decode MTo_soonest.2.2.1 98 = .ok (.iload 4, 2) := lkT_ok tk_MTo_soonest rfl
theorem d_MTo_soonest_100 : decode MTo_soonest.2.2.1 100 = .ok (.ifCond .ne 8, 3) := lkT_ok tk_MTo_soonest rfl
theorem d_MTo_soonest_103 : decode MTo_soonest.2.2.1 103 = .ok (.iload 5, 2) := lkT_ok tk_MTo_soonest rfl
theorem d_MTo_soonest_105 : decode MTo_soonest.2.2.1 105 = .ok (.goto 5, 3) := lkT_ok tk_MTo_soonest rfl
theorem d_MTo_soonest_108 : decode MTo_soonest.2.2.1 108 = .ok (.iload 6, 2) := lkT_ok tk_MTo_soonest rfl
theorem d_MTo_soonest_110 : decode MTo_soonest.2.2.1 110 = .ok (.ireturn, 1) := lkT_ok tk_MTo_soonest rfl
theorem r_MTo_soonest_0 {l1 l2 l3 l4 l5 l6 l7 l8 : Value} {x : Nat} : Rr X d MTo_soonest 0 [.ref x, l1, l2, l3, l4, l5, l6, l7, l8] st h = Rr X d MTo_soonest 1 [.ref x, l1, l2, l3, l4, l5, l6, l7, l8] (.ref x :: st) h := Rr_nx d_MTo_soonest_0 rfl
theorem r_MTo_soonest_1 {l0 l2 l3 l4 l5 l6 l7 l8 : Value} {x : Int32} : Rr X d MTo_soonest 1 [l0, .int x, l2, l3, l4, l5, l6, l7, l8] st h = Rr X d MTo_soonest 2 [l0, .int x, l2, l3, l4, l5, l6, l7, l8] (.int x :: st) h := Rr_nx d_MTo_soonest_1 rfl
theorem r_MTo_soonest_2 {y0 : Int32} {a : Nat} (hO : qO a 9 = true) (hc : ckS st = true) : Rr X (d + 1) MTo_soonest 2 L (.int y0 :: .ref a :: st) (Wd mu la ro et) = (Rr X d MTo_isFloorOrNone 0 [.ref a, .int y0] [] (Wd mu la ro et)).bind fun q => Rr X (d + 1) MTo_soonest 5 L (psh q.1 st) q.2 := R_iv (av := [.int y0]) d_MTo_soonest_2 fc_9_185 hO (ckS_le hc) rfl (Nat.le_of_ble_eq_true rfl) (Nat.le_of_ble_eq_true rfl)
theorem r_MTo_soonest_5 {x : Int32} : Rr X d MTo_soonest 5 L (.int x :: st) h = if x = 0 then Rr X d MTo_soonest 26 L st h else Rr X d MTo_soonest 8 L st h := R_if_eq d_MTo_soonest_5 (by decide)
theorem r_MTo_soonest_8 {l0 l1 l3 l4 l5 l6 l7 l8 : Value} {x : Int32} : Rr X d MTo_soonest 8 [l0, l1, .int x, l3, l4, l5, l6, l7, l8] st h = Rr X d MTo_soonest 9 [l0, l1, .int x, l3, l4, l5, l6, l7, l8] (.int x :: st) h := Rr_nx d_MTo_soonest_8 rfl
theorem r_MTo_soonest_9 {l0 l1 l2 l4 l5 l6 l7 l8 : Value} {x : Int32} : Rr X d MTo_soonest 9 [l0, l1, l2, .int x, l4, l5, l6, l7, l8] st h = Rr X d MTo_soonest 10 [l0, l1, l2, .int x, l4, l5, l6, l7, l8] (.int x :: st) h := Rr_nx d_MTo_soonest_9 rfl
theorem r_MTo_soonest_10 {y0 : Int32} {y1 : Int32} (hc : ckS st = true) : Rr X (d + 1) MTo_soonest 10 L (.int y1 :: .int y0 :: st) h = (Rr X d MTo_isStart 0 [.int y0, .int y1] [] h).bind fun q => Rr X (d + 1) MTo_soonest 13 L (psh q.1 st) q.2 := R_is (av := [.int y1, .int y0]) d_MTo_soonest_10 (Or.inl fc_9_139) (ckS_le hc) rfl (Nat.le_of_ble_eq_true rfl) (Nat.le_of_ble_eq_true rfl)
theorem r_MTo_soonest_13 {x : Int32} : Rr X d MTo_soonest 13 L (.int x :: st) h = if x = 0 then Rr X d MTo_soonest 26 L st h else Rr X d MTo_soonest 16 L st h := R_if_eq d_MTo_soonest_13 (by decide)
theorem r_MTo_soonest_16 {l0 l1 l2 l3 l5 l6 l7 l8 : Value} {x : Int32} : Rr X d MTo_soonest 16 [l0, l1, l2, l3, .int x, l5, l6, l7, l8] st h = Rr X d MTo_soonest 18 [l0, l1, l2, l3, .int x, l5, l6, l7, l8] (.int x :: st) h := Rr_nx d_MTo_soonest_16 rfl
theorem r_MTo_soonest_18 : Rr X d MTo_soonest 18 L st h = Rr X d MTo_soonest 19 L (.int (0) :: st) h := Rr_nx d_MTo_soonest_18 rfl
theorem r_MTo_soonest_19 : Rr X d MTo_soonest 19 L st h = Rr X d MTo_soonest 20 L (.int (1) :: st) h := Rr_nx d_MTo_soonest_19 rfl
theorem r_MTo_soonest_20 {y0 : Int32} {y1 : Int32} {y2 : Int32} (hc : ckS st = true) : Rr X (d + 1) MTo_soonest 20 L (.int y2 :: .int y1 :: .int y0 :: st) h = (Rr X d MTo_isWithin 0 [.int y0, .int y1, .int y2] [] h).bind fun q => Rr X (d + 1) MTo_soonest 23 L (psh q.1 st) q.2 := R_is (av := [.int y2, .int y1, .int y0]) d_MTo_soonest_20 (Or.inl fc_9_72) (ckS_le hc) rfl (Nat.le_of_ble_eq_true rfl) (Nat.le_of_ble_eq_true rfl)
theorem r_MTo_soonest_23 {x : Int32} : Rr X d MTo_soonest 23 L (.int x :: st) h = if ¬ x = 0 then Rr X d MTo_soonest 28 L st h else Rr X d MTo_soonest 26 L st h := R_if_ne d_MTo_soonest_23 (by decide)
theorem r_MTo_soonest_26 : Rr X d MTo_soonest 26 L st h = Rr X d MTo_soonest 27 L (.int (-1) :: st) h := Rr_nx d_MTo_soonest_26 rfl
theorem r_MTo_soonest_27 {x : Int32} : Rr X d MTo_soonest 27 L [.int x] h = some (some (.int x), h) := R_ir d_MTo_soonest_27 rfl
theorem r_MTo_soonest_28 : Rr X d MTo_soonest 28 L st h = Rr X d MTo_soonest 30 L (.int (-2) :: st) h := Rr_nx d_MTo_soonest_28 rfl
theorem r_MTo_soonest_30 {l0 l1 l2 l3 l4 l5 l6 l7 l8 : Value} {x : Int32} : Rr X d MTo_soonest 30 [l0, l1, l2, l3, l4, l5, l6, l7, l8] (.int x :: st) h = Rr X d MTo_soonest 32 (sL [l0, l1, l2, l3, l4, l5, l6, l7, l8] 5 (.int x)) st h := Rr_nx d_MTo_soonest_30 rfl
theorem r_MTo_soonest_32 : Rr X d MTo_soonest 32 L st h = Rr X d MTo_soonest 34 L (.int (-2) :: st) h := Rr_nx d_MTo_soonest_32 rfl
theorem r_MTo_soonest_34 {l0 l1 l2 l3 l4 l5 l6 l7 l8 : Value} {x : Int32} : Rr X d MTo_soonest 34 [l0, l1, l2, l3, l4, l5, l6, l7, l8] (.int x :: st) h = Rr X d MTo_soonest 36 (sL [l0, l1, l2, l3, l4, l5, l6, l7, l8] 6 (.int x)) st h := Rr_nx d_MTo_soonest_34 rfl
theorem r_MTo_soonest_36 : Rr X d MTo_soonest 36 L st h = Rr X d MTo_soonest 37 L (.int (0) :: st) h := Rr_nx d_MTo_soonest_36 rfl
theorem r_MTo_soonest_37 {l0 l1 l2 l3 l4 l5 l6 l7 l8 : Value} {x : Int32} : Rr X d MTo_soonest 37 [l0, l1, l2, l3, l4, l5, l6, l7, l8] (.int x :: st) h = Rr X d MTo_soonest 39 (sL [l0, l1, l2, l3, l4, l5, l6, l7, l8] 7 (.int x)) st h := Rr_nx d_MTo_soonest_37 rfl
theorem r_MTo_soonest_39 {l0 l1 l2 l3 l4 l5 l6 l8 : Value} {x : Int32} : Rr X d MTo_soonest 39 [l0, l1, l2, l3, l4, l5, l6, .int x, l8] st h = Rr X d MTo_soonest 41 [l0, l1, l2, l3, l4, l5, l6, .int x, l8] (.int x :: st) h := Rr_nx d_MTo_soonest_39 rfl
theorem r_MTo_soonest_41 {l1 l2 l3 l4 l5 l6 l7 l8 : Value} {x : Nat} : Rr X d MTo_soonest 41 [.ref x, l1, l2, l3, l4, l5, l6, l7, l8] st h = Rr X d MTo_soonest 42 [.ref x, l1, l2, l3, l4, l5, l6, l7, l8] (.ref x :: st) h := Rr_nx d_MTo_soonest_41 rfl
theorem r_MTo_soonest_42 {a : Nat} (hq : qI a 9 9 = true) : Rr X d MTo_soonest 42 L (.ref a :: st) (Wd mu la ro et) = Rr X d MTo_soonest 45 L (.int (mu a 9) :: st) (Wd mu la ro et) := R_gfI d_MTo_soonest_42 ff_9_84 hq
theorem r_MTo_soonest_45 {x y : Int32} : Rr X d MTo_soonest 45 L (.int y :: .int x :: st) h = if y ≤ x then Rr X d MTo_soonest 98 L st h else Rr X d MTo_soonest 48 L st h := R_ic_ge d_MTo_soonest_45 (by decide)
theorem r_MTo_soonest_48 {l1 l2 l3 l4 l5 l6 l7 l8 : Value} {x : Nat} : Rr X d MTo_soonest 48 [.ref x, l1, l2, l3, l4, l5, l6, l7, l8] st h = Rr X d MTo_soonest 49 [.ref x, l1, l2, l3, l4, l5, l6, l7, l8] (.ref x :: st) h := Rr_nx d_MTo_soonest_48 rfl
theorem r_MTo_soonest_49 : Rr X d MTo_soonest 49 L st h = Rr X d MTo_soonest 51 L (.int (10) :: st) h := Rr_nx d_MTo_soonest_49 rfl
theorem r_MTo_soonest_51 {l0 l1 l2 l3 l4 l5 l6 l8 : Value} {x : Int32} : Rr X d MTo_soonest 51 [l0, l1, l2, l3, l4, l5, l6, .int x, l8] st h = Rr X d MTo_soonest 53 [l0, l1, l2, l3, l4, l5, l6, .int x, l8] (.int x :: st) h := Rr_nx d_MTo_soonest_51 rfl
theorem r_MTo_soonest_53 {x y : Int32} : Rr X d MTo_soonest 53 L (.int y :: .int x :: st) h = Rr X d MTo_soonest 54 L (.int (x * y) :: st) h := Rr_nx d_MTo_soonest_53 rfl
theorem r_MTo_soonest_54 {l0 l2 l3 l4 l5 l6 l7 l8 : Value} {x : Int32} : Rr X d MTo_soonest 54 [l0, .int x, l2, l3, l4, l5, l6, l7, l8] st h = Rr X d MTo_soonest 55 [l0, .int x, l2, l3, l4, l5, l6, l7, l8] (.int x :: st) h := Rr_nx d_MTo_soonest_54 rfl
theorem r_MTo_soonest_55 {x y : Int32} : Rr X d MTo_soonest 55 L (.int y :: .int x :: st) h = Rr X d MTo_soonest 56 L (.int (x + y) :: st) h := Rr_nx d_MTo_soonest_55 rfl
theorem r_MTo_soonest_56 {y0 : Int32} {a : Nat} (hO : qO a 9 = true) (hc : ckS st = true) : Rr X (d + 1) MTo_soonest 56 L (.int y0 :: .ref a :: st) (Wd mu la ro et) = (Rr X d MTo_layOwn 0 [.ref a, .int y0, mkU] [] (Wd mu la ro et)).bind fun q => Rr X (d + 1) MTo_soonest 59 L (psh q.1 st) q.2 := R_iv (av := [.int y0]) d_MTo_soonest_56 fc_9_142 hO (ckS_le hc) rfl (Nat.le_of_ble_eq_true rfl) (Nat.le_of_ble_eq_true rfl)
theorem r_MTo_soonest_59 {l1 l2 l3 l4 l5 l6 l7 l8 : Value} {x : Nat} : Rr X d MTo_soonest 59 [.ref x, l1, l2, l3, l4, l5, l6, l7, l8] st h = Rr X d MTo_soonest 60 [.ref x, l1, l2, l3, l4, l5, l6, l7, l8] (.ref x :: st) h := Rr_nx d_MTo_soonest_59 rfl
theorem r_MTo_soonest_60 {l0 l1 l3 l4 l5 l6 l7 l8 : Value} {x : Int32} : Rr X d MTo_soonest 60 [l0, l1, .int x, l3, l4, l5, l6, l7, l8] st h = Rr X d MTo_soonest 61 [l0, l1, .int x, l3, l4, l5, l6, l7, l8] (.int x :: st) h := Rr_nx d_MTo_soonest_60 rfl
theorem r_MTo_soonest_61 {l0 l1 l2 l4 l5 l6 l7 l8 : Value} {x : Int32} : Rr X d MTo_soonest 61 [l0, l1, l2, .int x, l4, l5, l6, l7, l8] st h = Rr X d MTo_soonest 62 [l0, l1, l2, .int x, l4, l5, l6, l7, l8] (.int x :: st) h := Rr_nx d_MTo_soonest_61 rfl
theorem r_MTo_soonest_62 {y0 : Int32} {y1 : Int32} {a : Nat} (hO : qO a 9 = true) (hc : ckS st = true) : Rr X (d + 1) MTo_soonest 62 L (.int y1 :: .int y0 :: .ref a :: st) (Wd mu la ro et) = (Rr X d MTo_firstBack 0 [.ref a, .int y0, .int y1, mkU] [] (Wd mu la ro et)).bind fun q => Rr X (d + 1) MTo_soonest 65 L (psh q.1 st) q.2 := R_iv (av := [.int y1, .int y0]) d_MTo_soonest_62 fc_9_188 hO (ckS_le hc) rfl (Nat.le_of_ble_eq_true rfl) (Nat.le_of_ble_eq_true rfl)
theorem r_MTo_soonest_65 {l0 l1 l2 l3 l4 l5 l6 l7 l8 : Value} {x : Int32} : Rr X d MTo_soonest 65 [l0, l1, l2, l3, l4, l5, l6, l7, l8] (.int x :: st) h = Rr X d MTo_soonest 67 (sL [l0, l1, l2, l3, l4, l5, l6, l7, l8] 8 (.int x)) st h := Rr_nx d_MTo_soonest_65 rfl
theorem r_MTo_soonest_67 {l0 l1 l2 l3 l4 l5 l6 l7 : Value} {x : Int32} : Rr X d MTo_soonest 67 [l0, l1, l2, l3, l4, l5, l6, l7, .int x] st h = Rr X d MTo_soonest 69 [l0, l1, l2, l3, l4, l5, l6, l7, .int x] (.int x :: st) h := Rr_nx d_MTo_soonest_67 rfl
theorem r_MTo_soonest_69 {x : Int32} : Rr X d MTo_soonest 69 L (.int x :: st) h = if x ≤ 0 then Rr X d MTo_soonest 92 L st h else Rr X d MTo_soonest 72 L st h := R_if_le d_MTo_soonest_69 (by decide)
theorem r_MTo_soonest_72 {l0 l1 l2 l3 l4 l6 l7 l8 : Value} {x : Int32} : Rr X d MTo_soonest 72 [l0, l1, l2, l3, l4, .int x, l6, l7, l8] st h = Rr X d MTo_soonest 74 [l0, l1, l2, l3, l4, .int x, l6, l7, l8] (.int x :: st) h := Rr_nx d_MTo_soonest_72 rfl
theorem r_MTo_soonest_74 {x : Int32} : Rr X d MTo_soonest 74 L (.int x :: st) h = if x < 0 then Rr X d MTo_soonest 84 L st h else Rr X d MTo_soonest 77 L st h := R_if_lt d_MTo_soonest_74 (by decide)
theorem r_MTo_soonest_77 {l0 l1 l2 l3 l4 l5 l6 l7 : Value} {x : Int32} : Rr X d MTo_soonest 77 [l0, l1, l2, l3, l4, l5, l6, l7, .int x] st h = Rr X d MTo_soonest 79 [l0, l1, l2, l3, l4, l5, l6, l7, .int x] (.int x :: st) h := Rr_nx d_MTo_soonest_77 rfl
theorem r_MTo_soonest_79 {l0 l1 l2 l3 l4 l5 l7 l8 : Value} {x : Int32} : Rr X d MTo_soonest 79 [l0, l1, l2, l3, l4, l5, .int x, l7, l8] st h = Rr X d MTo_soonest 81 [l0, l1, l2, l3, l4, l5, .int x, l7, l8] (.int x :: st) h := Rr_nx d_MTo_soonest_79 rfl
theorem r_MTo_soonest_81 {x y : Int32} : Rr X d MTo_soonest 81 L (.int y :: .int x :: st) h = if y ≤ x then Rr X d MTo_soonest 92 L st h else Rr X d MTo_soonest 84 L st h := R_ic_ge d_MTo_soonest_81 (by decide)
theorem r_MTo_soonest_84 {l0 l1 l2 l3 l4 l5 l6 l8 : Value} {x : Int32} : Rr X d MTo_soonest 84 [l0, l1, l2, l3, l4, l5, l6, .int x, l8] st h = Rr X d MTo_soonest 86 [l0, l1, l2, l3, l4, l5, l6, .int x, l8] (.int x :: st) h := Rr_nx d_MTo_soonest_84 rfl
theorem r_MTo_soonest_86 {l0 l1 l2 l3 l4 l5 l6 l7 l8 : Value} {x : Int32} : Rr X d MTo_soonest 86 [l0, l1, l2, l3, l4, l5, l6, l7, l8] (.int x :: st) h = Rr X d MTo_soonest 88 (sL [l0, l1, l2, l3, l4, l5, l6, l7, l8] 5 (.int x)) st h := Rr_nx d_MTo_soonest_86 rfl
theorem r_MTo_soonest_88 {l0 l1 l2 l3 l4 l5 l6 l7 : Value} {x : Int32} : Rr X d MTo_soonest 88 [l0, l1, l2, l3, l4, l5, l6, l7, .int x] st h = Rr X d MTo_soonest 90 [l0, l1, l2, l3, l4, l5, l6, l7, .int x] (.int x :: st) h := Rr_nx d_MTo_soonest_88 rfl
theorem r_MTo_soonest_90 {l0 l1 l2 l3 l4 l5 l6 l7 l8 : Value} {x : Int32} : Rr X d MTo_soonest 90 [l0, l1, l2, l3, l4, l5, l6, l7, l8] (.int x :: st) h = Rr X d MTo_soonest 92 (sL [l0, l1, l2, l3, l4, l5, l6, l7, l8] 6 (.int x)) st h := Rr_nx d_MTo_soonest_90 rfl
theorem r_MTo_soonest_92 {l0 l1 l2 l3 l4 l5 l6 l8 : Value} {x : Int32} : Rr X d MTo_soonest 92 [l0, l1, l2, l3, l4, l5, l6, .int x, l8] st h = Rr X d MTo_soonest 95 (sL [l0, l1, l2, l3, l4, l5, l6, .int x, l8] 7 (.int (x + (1)))) st h := Rr_nx d_MTo_soonest_92 rfl
theorem r_MTo_soonest_95 : Rr X d MTo_soonest 95 L st h = Rr X d MTo_soonest 39 L st h := R_goto d_MTo_soonest_95 (by decide)
theorem r_MTo_soonest_98 {l0 l1 l2 l3 l5 l6 l7 l8 : Value} {x : Int32} : Rr X d MTo_soonest 98 [l0, l1, l2, l3, .int x, l5, l6, l7, l8] st h = Rr X d MTo_soonest 100 [l0, l1, l2, l3, .int x, l5, l6, l7, l8] (.int x :: st) h := Rr_nx d_MTo_soonest_98 rfl
theorem r_MTo_soonest_100 {x : Int32} : Rr X d MTo_soonest 100 L (.int x :: st) h = if ¬ x = 0 then Rr X d MTo_soonest 108 L st h else Rr X d MTo_soonest 103 L st h := R_if_ne d_MTo_soonest_100 (by decide)
theorem r_MTo_soonest_103 {l0 l1 l2 l3 l4 l6 l7 l8 : Value} {x : Int32} : Rr X d MTo_soonest 103 [l0, l1, l2, l3, l4, .int x, l6, l7, l8] st h = Rr X d MTo_soonest 105 [l0, l1, l2, l3, l4, .int x, l6, l7, l8] (.int x :: st) h := Rr_nx d_MTo_soonest_103 rfl
theorem r_MTo_soonest_105 : Rr X d MTo_soonest 105 L st h = Rr X d MTo_soonest 110 L st h := R_goto d_MTo_soonest_105 (by decide)
theorem r_MTo_soonest_108 {l0 l1 l2 l3 l4 l5 l7 l8 : Value} {x : Int32} : Rr X d MTo_soonest 108 [l0, l1, l2, l3, l4, l5, .int x, l7, l8] st h = Rr X d MTo_soonest 110 [l0, l1, l2, l3, l4, l5, .int x, l7, l8] (.int x :: st) h := Rr_nx d_MTo_soonest_108 rfl
theorem r_MTo_soonest_110 {x : Int32} : Rr X d MTo_soonest 110 L [.int x] h = some (some (.int x), h) := R_ir d_MTo_soonest_110 rfl
theorem d_MTo_pressed_0 : decode MTo_pressed.2.2.1 0 = .ok (.aload_n 0, 1) := lkT_ok tk_MTo_pressed rfl
theorem d_MTo_pressed_1 : decode MTo_pressed.2.2.1 1 = .ok (.iload_n 1, 1) := lkT_ok tk_MTo_pressed rfl
theorem d_MTo_pressed_2 : decode MTo_pressed.2.2.1 2 = .ok (.invokevirtual 135, 3) := lkT_ok tk_MTo_pressed rfl
theorem d_MTo_pressed_5 : decode MTo_pressed.2.2.1 5 = .ok (.ifCond .eq 11, 3) := lkT_ok tk_MTo_pressed rfl
theorem d_MTo_pressed_8 : decode MTo_pressed.2.2.1 8 = .ok (.iconst 0, 1) := lkT_ok tk_MTo_pressed rfl
theorem d_MTo_pressed_9 : decode MTo_pressed.2.2.1 9 = .ok (.iload_n 2, 1) := lkT_ok tk_MTo_pressed rfl
theorem d_MTo_pressed_10 : decode MTo_pressed.2.2.1 10 = .ok (.invokestatic 139, 3) := lkT_ok tk_MTo_pressed rfl
theorem d_MTo_pressed_13 : decode MTo_pressed.2.2.1 13 = .ok (.ifCond .ne 6, 3) := lkT_ok tk_MTo_pressed rfl
theorem d_MTo_pressed_16 : decode MTo_pressed.2.2.1 16 = .ok (.ldc 104, 2) := lkT_ok tk_MTo_pressed rfl
theorem d_MTo_pressed_18 : decode MTo_pressed.2.2.1 18 = .ok (.ireturn, 1) := lkT_ok tk_MTo_pressed rfl
theorem d_MTo_pressed_19 : decode MTo_pressed.2.2.1 19 = .ok (.aload_n 0, 1) := lkT_ok tk_MTo_pressed rfl
theorem d_MTo_pressed_20 : decode MTo_pressed.2.2.1 20 = .ok (.iload_n 1, 1) := lkT_ok tk_MTo_pressed rfl
theorem d_MTo_pressed_21 : decode MTo_pressed.2.2.1 21 = .ok (.invokevirtual 142, 3) := lkT_ok tk_MTo_pressed rfl
theorem d_MTo_pressed_24 : decode MTo_pressed.2.2.1 24 = .ok (.aload_n 0, 1) := lkT_ok tk_MTo_pressed rfl
theorem d_MTo_pressed_25 : decode MTo_pressed.2.2.1 25 = .ok (.iconst 0, 1) := lkT_ok tk_MTo_pressed rfl
theorem d_MTo_pressed_26 : decode MTo_pressed.2.2.1 26 = .ok (.iload_n 2, 1) := lkT_ok tk_MTo_pressed rfl
theorem d_MTo_pressed_27 : decode MTo_pressed.2.2.1 27 = .ok (.invokevirtual 145, 3) := lkT_ok tk_MTo_pressed rfl
theorem d_MTo_pressed_30 : decode MTo_pressed.2.2.1 30 = .ok (.aload_n 0, 1) := lkT_ok tk_MTo_pressed rfl
theorem d_MTo_pressed_31 : decode MTo_pressed.2.2.1 31 = .ok (.getfield 37, 3) := lkT_ok tk_MTo_pressed rfl
theorem d_MTo_pressed_34 : decode MTo_pressed.2.2.1 34 = .ok (.sipush 400, 3) := lkT_ok tk_MTo_pressed rfl
theorem d_MTo_pressed_37 : decode MTo_pressed.2.2.1 37 = .ok (.invokevirtual 181, 3) := lkT_ok tk_MTo_pressed rfl
theorem d_MTo_pressed_40 : decode MTo_pressed.2.2.1 40 = .ok (.aload_n 0, 1) := lkT_ok tk_MTo_pressed rfl
theorem d_MTo_pressed_41 : decode MTo_pressed.2.2.1 41 = .ok (.getfield 37, 3) := lkT_ok tk_MTo_pressed rfl
theorem d_MTo_pressed_44 : decode MTo_pressed.2.2.1 44 = .ok (.getfield 200, 3) := lkT_ok tk_MTo_pressed rfl
theorem d_MTo_pressed_47 : decode MTo_pressed.2.2.1 47 = .ok (.ireturn, 1) := lkT_ok tk_MTo_pressed rfl
theorem r_MTo_pressed_0 {l1 l2 : Value} {x : Nat} : Rr X d MTo_pressed 0 [.ref x, l1, l2] st h = Rr X d MTo_pressed 1 [.ref x, l1, l2] (.ref x :: st) h := Rr_nx d_MTo_pressed_0 rfl
theorem r_MTo_pressed_1 {l0 l2 : Value} {x : Int32} : Rr X d MTo_pressed 1 [l0, .int x, l2] st h = Rr X d MTo_pressed 2 [l0, .int x, l2] (.int x :: st) h := Rr_nx d_MTo_pressed_1 rfl
theorem r_MTo_pressed_2 {y0 : Int32} {a : Nat} (hO : qO a 9 = true) (hc : ckS st = true) : Rr X (d + 1) MTo_pressed 2 L (.int y0 :: .ref a :: st) (Wd mu la ro et) = (Rr X d MTo_isGround 0 [.ref a, .int y0] [] (Wd mu la ro et)).bind fun q => Rr X (d + 1) MTo_pressed 5 L (psh q.1 st) q.2 := R_iv (av := [.int y0]) d_MTo_pressed_2 fc_9_135 hO (ckS_le hc) rfl (Nat.le_of_ble_eq_true rfl) (Nat.le_of_ble_eq_true rfl)
theorem r_MTo_pressed_5 {x : Int32} : Rr X d MTo_pressed 5 L (.int x :: st) h = if x = 0 then Rr X d MTo_pressed 16 L st h else Rr X d MTo_pressed 8 L st h := R_if_eq d_MTo_pressed_5 (by decide)
theorem r_MTo_pressed_8 : Rr X d MTo_pressed 8 L st h = Rr X d MTo_pressed 9 L (.int (0) :: st) h := Rr_nx d_MTo_pressed_8 rfl
theorem r_MTo_pressed_9 {l0 l1 : Value} {x : Int32} : Rr X d MTo_pressed 9 [l0, l1, .int x] st h = Rr X d MTo_pressed 10 [l0, l1, .int x] (.int x :: st) h := Rr_nx d_MTo_pressed_9 rfl
theorem r_MTo_pressed_10 {y0 : Int32} {y1 : Int32} (hc : ckS st = true) : Rr X (d + 1) MTo_pressed 10 L (.int y1 :: .int y0 :: st) h = (Rr X d MTo_isStart 0 [.int y0, .int y1] [] h).bind fun q => Rr X (d + 1) MTo_pressed 13 L (psh q.1 st) q.2 := R_is (av := [.int y1, .int y0]) d_MTo_pressed_10 (Or.inl fc_9_139) (ckS_le hc) rfl (Nat.le_of_ble_eq_true rfl) (Nat.le_of_ble_eq_true rfl)
theorem r_MTo_pressed_13 {x : Int32} : Rr X d MTo_pressed 13 L (.int x :: st) h = if ¬ x = 0 then Rr X d MTo_pressed 19 L st h else Rr X d MTo_pressed 16 L st h := R_if_ne d_MTo_pressed_13 (by decide)
theorem r_MTo_pressed_16 : Rr X d MTo_pressed 16 L st h = Rr X d MTo_pressed 18 L (.int (-2000000000) :: st) h := Rr_nx d_MTo_pressed_16 rfl
theorem r_MTo_pressed_18 {x : Int32} : Rr X d MTo_pressed 18 L [.int x] h = some (some (.int x), h) := R_ir d_MTo_pressed_18 rfl
theorem r_MTo_pressed_19 {l1 l2 : Value} {x : Nat} : Rr X d MTo_pressed 19 [.ref x, l1, l2] st h = Rr X d MTo_pressed 20 [.ref x, l1, l2] (.ref x :: st) h := Rr_nx d_MTo_pressed_19 rfl
theorem r_MTo_pressed_20 {l0 l2 : Value} {x : Int32} : Rr X d MTo_pressed 20 [l0, .int x, l2] st h = Rr X d MTo_pressed 21 [l0, .int x, l2] (.int x :: st) h := Rr_nx d_MTo_pressed_20 rfl
theorem r_MTo_pressed_21 {y0 : Int32} {a : Nat} (hO : qO a 9 = true) (hc : ckS st = true) : Rr X (d + 1) MTo_pressed 21 L (.int y0 :: .ref a :: st) (Wd mu la ro et) = (Rr X d MTo_layOwn 0 [.ref a, .int y0, mkU] [] (Wd mu la ro et)).bind fun q => Rr X (d + 1) MTo_pressed 24 L (psh q.1 st) q.2 := R_iv (av := [.int y0]) d_MTo_pressed_21 fc_9_142 hO (ckS_le hc) rfl (Nat.le_of_ble_eq_true rfl) (Nat.le_of_ble_eq_true rfl)
theorem r_MTo_pressed_24 {l1 l2 : Value} {x : Nat} : Rr X d MTo_pressed 24 [.ref x, l1, l2] st h = Rr X d MTo_pressed 25 [.ref x, l1, l2] (.ref x :: st) h := Rr_nx d_MTo_pressed_24 rfl
theorem r_MTo_pressed_25 : Rr X d MTo_pressed 25 L st h = Rr X d MTo_pressed 26 L (.int (0) :: st) h := Rr_nx d_MTo_pressed_25 rfl
theorem r_MTo_pressed_26 {l0 l1 : Value} {x : Int32} : Rr X d MTo_pressed 26 [l0, l1, .int x] st h = Rr X d MTo_pressed 27 [l0, l1, .int x] (.int x :: st) h := Rr_nx d_MTo_pressed_26 rfl
theorem r_MTo_pressed_27 {y0 : Int32} {y1 : Int32} {a : Nat} (hO : qO a 9 = true) (hc : ckS st = true) : Rr X (d + 1) MTo_pressed 27 L (.int y1 :: .int y0 :: .ref a :: st) (Wd mu la ro et) = (Rr X d MTo_start 0 [.ref a, .int y0, .int y1] [] (Wd mu la ro et)).bind fun q => Rr X (d + 1) MTo_pressed 30 L (psh q.1 st) q.2 := R_iv (av := [.int y1, .int y0]) d_MTo_pressed_27 fc_9_145 hO (ckS_le hc) rfl (Nat.le_of_ble_eq_true rfl) (Nat.le_of_ble_eq_true rfl)
theorem r_MTo_pressed_30 {l1 l2 : Value} {x : Nat} : Rr X d MTo_pressed 30 [.ref x, l1, l2] st h = Rr X d MTo_pressed 31 [.ref x, l1, l2] (.ref x :: st) h := Rr_nx d_MTo_pressed_30 rfl
theorem r_MTo_pressed_31 {a : Nat} (hq : (qR a 9 4).isSome = true) : Rr X d MTo_pressed 31 L (.ref a :: st) (Wd mu la ro et) = Rr X d MTo_pressed 34 L (.ref (qRd a 9 4) :: st) (Wd mu la ro et) := R_gfR d_MTo_pressed_31 ff_9_37 hq
theorem r_MTo_pressed_34 : Rr X d MTo_pressed 34 L st h = Rr X d MTo_pressed 37 L (.int (400) :: st) h := Rr_nx d_MTo_pressed_34 rfl
theorem r_MTo_pressed_37 {y0 : Int32} {a : Nat} (hO : qO a 5 = true) (hc : ckS st = true) : Rr X (d + 1) MTo_pressed 37 L (.int y0 :: .ref a :: st) (Wd mu la ro et) = (Rr X d MMo_run 0 [.ref a, .int y0, mkU] [] (Wd mu la ro et)).bind fun q => Rr X (d + 1) MTo_pressed 40 L (psh q.1 st) q.2 := R_iv (av := [.int y0]) d_MTo_pressed_37 fc_9_181 hO (ckS_le hc) rfl (Nat.le_of_ble_eq_true rfl) (Nat.le_of_ble_eq_true rfl)
theorem r_MTo_pressed_40 {l1 l2 : Value} {x : Nat} : Rr X d MTo_pressed 40 [.ref x, l1, l2] st h = Rr X d MTo_pressed 41 [.ref x, l1, l2] (.ref x :: st) h := Rr_nx d_MTo_pressed_40 rfl
theorem r_MTo_pressed_41 {a : Nat} (hq : (qR a 9 4).isSome = true) : Rr X d MTo_pressed 41 L (.ref a :: st) (Wd mu la ro et) = Rr X d MTo_pressed 44 L (.ref (qRd a 9 4) :: st) (Wd mu la ro et) := R_gfR d_MTo_pressed_41 ff_9_37 hq
theorem ff_9_200 : fF 9 200 = some (5, 13, 0, 0) := rfl
theorem r_MTo_pressed_44 {a : Nat} (hq : qI a 5 13 = true) : Rr X d MTo_pressed 44 L (.ref a :: st) (Wd mu la ro et) = Rr X d MTo_pressed 47 L (.int (mu a 13) :: st) (Wd mu la ro et) := R_gfI d_MTo_pressed_44 ff_9_200 hq
theorem r_MTo_pressed_47 {x : Int32} : Rr X d MTo_pressed 47 L [.int x] h = some (some (.int x), h) := R_ir d_MTo_pressed_47 rfl
theorem d_MTo_hands_0 : decode MTo_hands.2.2.1 0 = .ok (.aload_n 0, 1) := lkT_ok tk_MTo_hands rfl
theorem d_MTo_hands_1 : decode MTo_hands.2.2.1 1 = .ok (.iload_n 1, 1) := lkT_ok tk_MTo_hands rfl
theorem d_MTo_hands_2 : decode MTo_hands.2.2.1 2 = .ok (.invokevirtual 135, 3) := lkT_ok tk_MTo_hands rfl
theorem d_MTo_hands_5 : decode MTo_hands.2.2.1 5 = .ok (.ifCond .eq 13, 3) := lkT_ok tk_MTo_hands rfl
theorem d_MTo_hands_8 : decode MTo_hands.2.2.1 8 = .ok (.iload_n 3, 1) := lkT_ok tk_MTo_hands rfl
theorem d_MTo_hands_9 : decode MTo_hands.2.2.1 9 = .ok (.iconst 1, 1) := lkT_ok tk_MTo_hands rfl
theorem d_MTo_hands_10 : decode MTo_hands.2.2.1 10 = .ok (.bipush 20, 2) := lkT_ok tk_MTo_hands rfl
theorem d_MTo_hands_12 : decode MTo_hands.2.2.1 12 = .ok (.invokestatic 72, 3) := lkT_ok tk_MTo_hands rfl
theorem d_MTo_hands_15 : decode MTo_hands.2.2.1 15 = .ok (.ifCond .ne 5, 3) := lkT_ok tk_MTo_hands rfl
theorem d_MTo_hands_18 : decode MTo_hands.2.2.1 18 = .ok (.iconst (-1), 1) := lkT_ok tk_MTo_hands rfl
theorem d_MTo_hands_19 : decode MTo_hands.2.2.1 19 = .ok (.ireturn, 1) := lkT_ok tk_MTo_hands rfl
theorem d_MTo_hands_20 : decode MTo_hands.2.2.1 20 = .ok (.aload_n 0, 1) := lkT_ok tk_MTo_hands rfl
theorem d_MTo_hands_21 : decode MTo_hands.2.2.1 21 = .ok (.iload_n 1, 1) := lkT_ok tk_MTo_hands rfl
theorem d_MTo_hands_22 : decode MTo_hands.2.2.1 22 = .ok (.invokevirtual 142, 3) := lkT_ok tk_MTo_hands rfl
theorem d_MTo_hands_25 : decode MTo_hands.2.2.1 25 = .ok (.iload_n 2, 1) := lkT_ok tk_MTo_hands rfl
theorem d_MTo_hands_26 : decode MTo_hands.2.2.1 26 = .ok (.istore 4, 2) := lkT_ok tk_MTo_hands rfl
theorem d_MTo_hands_28 : decode MTo_hands.2.2.1 28 = .ok (.iconst 0, 1) := lkT_ok tk_MTo_hands rfl
theorem d_MTo_hands_29 : decode MTo_hands.2.2.1 29 = .ok (.istore 5, 2) := lkT_ok tk_MTo_hands rfl
theorem d_MTo_hands_31 : decode MTo_hands.2.2.1 31 = .ok (.iconst 0, 1) := lkT_ok tk_MTo_hands rfl
theorem d_MTo_hands_32 : decode MTo_hands.2.2.1 32 = .ok (.istore 6, 2) := lkT_ok tk_MTo_hands rfl
theorem d_MTo_hands_34 : decode MTo_hands.2.2.1 34 = .ok (.iload 6, 2) := lkT_ok tk_MTo_hands rfl
theorem d_MTo_hands_36 : decode MTo_hands.2.2.1 36 = .ok (.iload_n 3, 1) := lkT_ok tk_MTo_hands rfl
theorem d_MTo_hands_37 : decode MTo_hands.2.2.1 37 = .ok (.if_icmp .ge 86, 3) := lkT_ok tk_MTo_hands rfl
theorem d_MTo_hands_40 : decode MTo_hands.2.2.1 40 = .ok (.iload 4, 2) := lkT_ok tk_MTo_hands rfl
theorem d_MTo_hands_42 : decode MTo_hands.2.2.1 42 = .ok (.invokestatic 203, 3) := lkT_ok tk_MTo_hands rfl
theorem d_MTo_hands_45 : decode MTo_hands.2.2.1 45 = .ok (.istore 4, 2) := lkT_ok tk_MTo_hands rfl
theorem d_MTo_hands_47 : decode MTo_hands.2.2.1 47 = .ok (.iload 4, 2) := lkT_ok tk_MTo_hands rfl
theorem d_MTo_hands_49 : decode MTo_hands.2.2.1 49 = .ok (.bipush 8, 2) := lkT_ok tk_MTo_hands rfl
theorem d_MTo_hands_51 : decode MTo_hands.2.2.1 51 = .ok (.iushr, 1) := lkT_ok tk_MTo_hands rfl
theorem d_MTo_hands_52 : decode MTo_hands.2.2.1 52 = .ok (.sipush 1001, 3) := lkT_ok tk_MTo_hands rfl
theorem d_MTo_hands_55 : decode MTo_hands.2.2.1 55 = .ok (.irem, 1) := lkT_ok tk_MTo_hands rfl
theorem d_MTo_hands_56 : decode MTo_hands.2.2.1 56 = .ok (.sipush 500, 3) := lkT_ok tk_MTo_hands rfl
theorem d_MTo_hands_59 : decode MTo_hands.2.2.1 59 = .ok (.isub, 1) := lkT_ok tk_MTo_hands rfl
theorem d_MTo_hands_60 : decode MTo_hands.2.2.1 60 = .ok (.istore 7, 2) := lkT_ok tk_MTo_hands rfl
theorem d_MTo_hands_62 : decode MTo_hands.2.2.1 62 = .ok (.iload 4, 2) := lkT_ok tk_MTo_hands rfl
theorem d_MTo_hands_64 : decode MTo_hands.2.2.1 64 = .ok (.invokestatic 203, 3) := lkT_ok tk_MTo_hands rfl
theorem d_MTo_hands_67 : decode MTo_hands.2.2.1 67 = .ok (.istore 4, 2) := lkT_ok tk_MTo_hands rfl
theorem d_MTo_hands_69 : decode MTo_hands.2.2.1 69 = .ok (.iload 4, 2) := lkT_ok tk_MTo_hands rfl
theorem d_MTo_hands_71 : decode MTo_hands.2.2.1 71 = .ok (.bipush 8, 2) := lkT_ok tk_MTo_hands rfl
theorem d_MTo_hands_73 : decode MTo_hands.2.2.1 73 = .ok (.iushr, 1) := lkT_ok tk_MTo_hands rfl
theorem d_MTo_hands_74 : decode MTo_hands.2.2.1 74 = .ok (.bipush 50, 2) := lkT_ok tk_MTo_hands rfl
theorem d_MTo_hands_76 : decode MTo_hands.2.2.1 76 = .ok (.irem, 1) := lkT_ok tk_MTo_hands rfl
theorem d_MTo_hands_77 : decode MTo_hands.2.2.1 77 = .ok (.istore 8, 2) := lkT_ok tk_MTo_hands rfl
theorem d_MTo_hands_79 : decode MTo_hands.2.2.1 79 = .ok (.iload 4, 2) := lkT_ok tk_MTo_hands rfl
theorem d_MTo_hands_81 : decode MTo_hands.2.2.1 81 = .ok (.invokestatic 203, 3) := lkT_ok tk_MTo_hands rfl
theorem d_MTo_hands_84 : decode MTo_hands.2.2.1 84 = .ok (.istore 4, 2) := lkT_ok tk_MTo_hands rfl
theorem d_MTo_hands_86 : decode MTo_hands.2.2.1 86 = .ok (.iload 4, 2) := lkT_ok tk_MTo_hands rfl
theorem d_MTo_hands_88 : decode MTo_hands.2.2.1 88 = .ok (.bipush 8, 2) := lkT_ok tk_MTo_hands rfl
theorem d_MTo_hands_90 : decode MTo_hands.2.2.1 90 = .ok (.iushr, 1) := lkT_ok tk_MTo_hands rfl
theorem d_MTo_hands_91 : decode MTo_hands.2.2.1 91 = .ok (.bipush 50, 2) := lkT_ok tk_MTo_hands rfl
theorem d_MTo_hands_93 : decode MTo_hands.2.2.1 93 = .ok (.irem, 1) := lkT_ok tk_MTo_hands rfl
theorem d_MTo_hands_94 : decode MTo_hands.2.2.1 94 = .ok (.istore 9, 2) := lkT_ok tk_MTo_hands rfl
theorem d_MTo_hands_96 : decode MTo_hands.2.2.1 96 = .ok (.aload_n 0, 1) := lkT_ok tk_MTo_hands rfl
theorem d_MTo_hands_97 : decode MTo_hands.2.2.1 97 = .ok (.iload 7, 2) := lkT_ok tk_MTo_hands rfl
theorem d_MTo_hands_99 : decode MTo_hands.2.2.1 99 = .ok (.sipush 1000, 3) := lkT_ok tk_MTo_hands rfl
theorem d_MTo_hands_102 : decode MTo_hands.2.2.1 102 = .ok (.iload 8, 2) := lkT_ok tk_MTo_hands rfl
theorem d_MTo_hands_104 : decode MTo_hands.2.2.1 104 = .ok (.imul, 1) := lkT_ok tk_MTo_hands rfl
theorem d_MTo_hands_105 : decode MTo_hands.2.2.1 105 = .ok (.iload 9, 2) := lkT_ok tk_MTo_hands rfl
theorem d_MTo_hands_107 : decode MTo_hands.2.2.1 107 = .ok (.iadd, 1) := lkT_ok tk_MTo_hands rfl
theorem d_MTo_hands_108 : decode MTo_hands.2.2.1 108 = .ok (.invokevirtual 188, 3) := lkT_ok tk_MTo_hands rfl
theorem d_MTo_hands_111 : decode MTo_hands.2.2.1 111 = .ok (.ifCond .le 6, 3) := lkT_ok tk_MTo_hands rfl
theorem d_MTo_hands_114 : decode MTo_hands.2.2.1 114 = .ok (.iinc 5 1, 3) := lkT_ok tk_MTo_hands rfl
theorem d_MTo_hands_117 : decode MTo_hands.2.2.1 117 = .ok (.iinc 6 1, 3) := lkT_ok tk_MTo_hands rfl
theorem d_MTo_hands_120 : decode MTo_hands.2.2.1 120 = .ok (.goto (-86), 3) := lkT_ok tk_MTo_hands rfl
theorem d_MTo_hands_123 : decode MTo_hands.2.2.1 123 = .ok (.iload 5, 2) := lkT_ok tk_MTo_hands rfl
theorem d_MTo_hands_125 : decode MTo_hands.2.2.1 125 = .ok (.ireturn, 1) := lkT_ok tk_MTo_hands rfl
theorem r_MTo_hands_0 {l1 l2 l3 l4 l5 l6 l7 l8 l9 : Value} {x : Nat} : Rr X d MTo_hands 0 [.ref x, l1, l2, l3, l4, l5, l6, l7, l8, l9] st h = Rr X d MTo_hands 1 [.ref x, l1, l2, l3, l4, l5, l6, l7, l8, l9] (.ref x :: st) h := Rr_nx d_MTo_hands_0 rfl
theorem r_MTo_hands_1 {l0 l2 l3 l4 l5 l6 l7 l8 l9 : Value} {x : Int32} : Rr X d MTo_hands 1 [l0, .int x, l2, l3, l4, l5, l6, l7, l8, l9] st h = Rr X d MTo_hands 2 [l0, .int x, l2, l3, l4, l5, l6, l7, l8, l9] (.int x :: st) h := Rr_nx d_MTo_hands_1 rfl
theorem r_MTo_hands_2 {y0 : Int32} {a : Nat} (hO : qO a 9 = true) (hc : ckS st = true) : Rr X (d + 1) MTo_hands 2 L (.int y0 :: .ref a :: st) (Wd mu la ro et) = (Rr X d MTo_isGround 0 [.ref a, .int y0] [] (Wd mu la ro et)).bind fun q => Rr X (d + 1) MTo_hands 5 L (psh q.1 st) q.2 := R_iv (av := [.int y0]) d_MTo_hands_2 fc_9_135 hO (ckS_le hc) rfl (Nat.le_of_ble_eq_true rfl) (Nat.le_of_ble_eq_true rfl)
theorem r_MTo_hands_5 {x : Int32} : Rr X d MTo_hands 5 L (.int x :: st) h = if x = 0 then Rr X d MTo_hands 18 L st h else Rr X d MTo_hands 8 L st h := R_if_eq d_MTo_hands_5 (by decide)
theorem r_MTo_hands_8 {l0 l1 l2 l4 l5 l6 l7 l8 l9 : Value} {x : Int32} : Rr X d MTo_hands 8 [l0, l1, l2, .int x, l4, l5, l6, l7, l8, l9] st h = Rr X d MTo_hands 9 [l0, l1, l2, .int x, l4, l5, l6, l7, l8, l9] (.int x :: st) h := Rr_nx d_MTo_hands_8 rfl
theorem r_MTo_hands_9 : Rr X d MTo_hands 9 L st h = Rr X d MTo_hands 10 L (.int (1) :: st) h := Rr_nx d_MTo_hands_9 rfl
theorem r_MTo_hands_10 : Rr X d MTo_hands 10 L st h = Rr X d MTo_hands 12 L (.int (20) :: st) h := Rr_nx d_MTo_hands_10 rfl
theorem r_MTo_hands_12 {y0 : Int32} {y1 : Int32} {y2 : Int32} (hc : ckS st = true) : Rr X (d + 1) MTo_hands 12 L (.int y2 :: .int y1 :: .int y0 :: st) h = (Rr X d MTo_isWithin 0 [.int y0, .int y1, .int y2] [] h).bind fun q => Rr X (d + 1) MTo_hands 15 L (psh q.1 st) q.2 := R_is (av := [.int y2, .int y1, .int y0]) d_MTo_hands_12 (Or.inl fc_9_72) (ckS_le hc) rfl (Nat.le_of_ble_eq_true rfl) (Nat.le_of_ble_eq_true rfl)
theorem r_MTo_hands_15 {x : Int32} : Rr X d MTo_hands 15 L (.int x :: st) h = if ¬ x = 0 then Rr X d MTo_hands 20 L st h else Rr X d MTo_hands 18 L st h := R_if_ne d_MTo_hands_15 (by decide)
theorem r_MTo_hands_18 : Rr X d MTo_hands 18 L st h = Rr X d MTo_hands 19 L (.int (-1) :: st) h := Rr_nx d_MTo_hands_18 rfl
theorem r_MTo_hands_19 {x : Int32} : Rr X d MTo_hands 19 L [.int x] h = some (some (.int x), h) := R_ir d_MTo_hands_19 rfl
theorem r_MTo_hands_20 {l1 l2 l3 l4 l5 l6 l7 l8 l9 : Value} {x : Nat} : Rr X d MTo_hands 20 [.ref x, l1, l2, l3, l4, l5, l6, l7, l8, l9] st h = Rr X d MTo_hands 21 [.ref x, l1, l2, l3, l4, l5, l6, l7, l8, l9] (.ref x :: st) h := Rr_nx d_MTo_hands_20 rfl
theorem r_MTo_hands_21 {l0 l2 l3 l4 l5 l6 l7 l8 l9 : Value} {x : Int32} : Rr X d MTo_hands 21 [l0, .int x, l2, l3, l4, l5, l6, l7, l8, l9] st h = Rr X d MTo_hands 22 [l0, .int x, l2, l3, l4, l5, l6, l7, l8, l9] (.int x :: st) h := Rr_nx d_MTo_hands_21 rfl
theorem r_MTo_hands_22 {y0 : Int32} {a : Nat} (hO : qO a 9 = true) (hc : ckS st = true) : Rr X (d + 1) MTo_hands 22 L (.int y0 :: .ref a :: st) (Wd mu la ro et) = (Rr X d MTo_layOwn 0 [.ref a, .int y0, mkU] [] (Wd mu la ro et)).bind fun q => Rr X (d + 1) MTo_hands 25 L (psh q.1 st) q.2 := R_iv (av := [.int y0]) d_MTo_hands_22 fc_9_142 hO (ckS_le hc) rfl (Nat.le_of_ble_eq_true rfl) (Nat.le_of_ble_eq_true rfl)
theorem r_MTo_hands_25 {l0 l1 l3 l4 l5 l6 l7 l8 l9 : Value} {x : Int32} : Rr X d MTo_hands 25 [l0, l1, .int x, l3, l4, l5, l6, l7, l8, l9] st h = Rr X d MTo_hands 26 [l0, l1, .int x, l3, l4, l5, l6, l7, l8, l9] (.int x :: st) h := Rr_nx d_MTo_hands_25 rfl
theorem r_MTo_hands_26 {l0 l1 l2 l3 l4 l5 l6 l7 l8 l9 : Value} {x : Int32} : Rr X d MTo_hands 26 [l0, l1, l2, l3, l4, l5, l6, l7, l8, l9] (.int x :: st) h = Rr X d MTo_hands 28 (sL [l0, l1, l2, l3, l4, l5, l6, l7, l8, l9] 4 (.int x)) st h := Rr_nx d_MTo_hands_26 rfl
theorem r_MTo_hands_28 : Rr X d MTo_hands 28 L st h = Rr X d MTo_hands 29 L (.int (0) :: st) h := Rr_nx d_MTo_hands_28 rfl
theorem r_MTo_hands_29 {l0 l1 l2 l3 l4 l5 l6 l7 l8 l9 : Value} {x : Int32} : Rr X d MTo_hands 29 [l0, l1, l2, l3, l4, l5, l6, l7, l8, l9] (.int x :: st) h = Rr X d MTo_hands 31 (sL [l0, l1, l2, l3, l4, l5, l6, l7, l8, l9] 5 (.int x)) st h := Rr_nx d_MTo_hands_29 rfl
theorem r_MTo_hands_31 : Rr X d MTo_hands 31 L st h = Rr X d MTo_hands 32 L (.int (0) :: st) h := Rr_nx d_MTo_hands_31 rfl
theorem r_MTo_hands_32 {l0 l1 l2 l3 l4 l5 l6 l7 l8 l9 : Value} {x : Int32} : Rr X d MTo_hands 32 [l0, l1, l2, l3, l4, l5, l6, l7, l8, l9] (.int x :: st) h = Rr X d MTo_hands 34 (sL [l0, l1, l2, l3, l4, l5, l6, l7, l8, l9] 6 (.int x)) st h := Rr_nx d_MTo_hands_32 rfl
theorem r_MTo_hands_34 {l0 l1 l2 l3 l4 l5 l7 l8 l9 : Value} {x : Int32} : Rr X d MTo_hands 34 [l0, l1, l2, l3, l4, l5, .int x, l7, l8, l9] st h = Rr X d MTo_hands 36 [l0, l1, l2, l3, l4, l5, .int x, l7, l8, l9] (.int x :: st) h := Rr_nx d_MTo_hands_34 rfl
theorem r_MTo_hands_36 {l0 l1 l2 l4 l5 l6 l7 l8 l9 : Value} {x : Int32} : Rr X d MTo_hands 36 [l0, l1, l2, .int x, l4, l5, l6, l7, l8, l9] st h = Rr X d MTo_hands 37 [l0, l1, l2, .int x, l4, l5, l6, l7, l8, l9] (.int x :: st) h := Rr_nx d_MTo_hands_36 rfl
theorem r_MTo_hands_37 {x y : Int32} : Rr X d MTo_hands 37 L (.int y :: .int x :: st) h = if y ≤ x then Rr X d MTo_hands 123 L st h else Rr X d MTo_hands 40 L st h := R_ic_ge d_MTo_hands_37 (by decide)
theorem r_MTo_hands_40 {l0 l1 l2 l3 l5 l6 l7 l8 l9 : Value} {x : Int32} : Rr X d MTo_hands 40 [l0, l1, l2, l3, .int x, l5, l6, l7, l8, l9] st h = Rr X d MTo_hands 42 [l0, l1, l2, l3, .int x, l5, l6, l7, l8, l9] (.int x :: st) h := Rr_nx d_MTo_hands_40 rfl
theorem fc_9_203 : fC 9 203 = some (1, 0, 1, MTo_drawn) := rfl
theorem r_MTo_hands_42 {y0 : Int32} (hc : ckS st = true) : Rr X (d + 1) MTo_hands 42 L (.int y0 :: st) h = (Rr X d MTo_drawn 0 [.int y0] [] h).bind fun q => Rr X (d + 1) MTo_hands 45 L (psh q.1 st) q.2 := R_is (av := [.int y0]) d_MTo_hands_42 (Or.inl fc_9_203) (ckS_le hc) rfl (Nat.le_of_ble_eq_true rfl) (Nat.le_of_ble_eq_true rfl)
theorem r_MTo_hands_45 {l0 l1 l2 l3 l4 l5 l6 l7 l8 l9 : Value} {x : Int32} : Rr X d MTo_hands 45 [l0, l1, l2, l3, l4, l5, l6, l7, l8, l9] (.int x :: st) h = Rr X d MTo_hands 47 (sL [l0, l1, l2, l3, l4, l5, l6, l7, l8, l9] 4 (.int x)) st h := Rr_nx d_MTo_hands_45 rfl
theorem r_MTo_hands_47 {l0 l1 l2 l3 l5 l6 l7 l8 l9 : Value} {x : Int32} : Rr X d MTo_hands 47 [l0, l1, l2, l3, .int x, l5, l6, l7, l8, l9] st h = Rr X d MTo_hands 49 [l0, l1, l2, l3, .int x, l5, l6, l7, l8, l9] (.int x :: st) h := Rr_nx d_MTo_hands_47 rfl
theorem r_MTo_hands_49 : Rr X d MTo_hands 49 L st h = Rr X d MTo_hands 51 L (.int (8) :: st) h := Rr_nx d_MTo_hands_49 rfl
theorem r_MTo_hands_51 {x y : Int32} : Rr X d MTo_hands 51 L (.int y :: .int x :: st) h = Rr X d MTo_hands 52 L (.int ((x.toUInt32 >>> (y.toUInt32 &&& Int32.toUInt32 31)).toInt32) :: st) h := Rr_nx d_MTo_hands_51 rfl
theorem r_MTo_hands_52 : Rr X d MTo_hands 52 L st h = Rr X d MTo_hands 55 L (.int (1001) :: st) h := Rr_nx d_MTo_hands_52 rfl
theorem r_MTo_hands_55 {x y : Int32} : Rr X d MTo_hands 55 L (.int y :: .int x :: st) h = if y = 0 then none else Rr X d MTo_hands 56 L (.int (x - x / y * y) :: st) h := R_rm d_MTo_hands_55
theorem r_MTo_hands_56 : Rr X d MTo_hands 56 L st h = Rr X d MTo_hands 59 L (.int (500) :: st) h := Rr_nx d_MTo_hands_56 rfl
theorem r_MTo_hands_59 {x y : Int32} : Rr X d MTo_hands 59 L (.int y :: .int x :: st) h = Rr X d MTo_hands 60 L (.int (x - y) :: st) h := Rr_nx d_MTo_hands_59 rfl
theorem r_MTo_hands_60 {l0 l1 l2 l3 l4 l5 l6 l7 l8 l9 : Value} {x : Int32} : Rr X d MTo_hands 60 [l0, l1, l2, l3, l4, l5, l6, l7, l8, l9] (.int x :: st) h = Rr X d MTo_hands 62 (sL [l0, l1, l2, l3, l4, l5, l6, l7, l8, l9] 7 (.int x)) st h := Rr_nx d_MTo_hands_60 rfl
theorem r_MTo_hands_62 {l0 l1 l2 l3 l5 l6 l7 l8 l9 : Value} {x : Int32} : Rr X d MTo_hands 62 [l0, l1, l2, l3, .int x, l5, l6, l7, l8, l9] st h = Rr X d MTo_hands 64 [l0, l1, l2, l3, .int x, l5, l6, l7, l8, l9] (.int x :: st) h := Rr_nx d_MTo_hands_62 rfl
theorem r_MTo_hands_64 {y0 : Int32} (hc : ckS st = true) : Rr X (d + 1) MTo_hands 64 L (.int y0 :: st) h = (Rr X d MTo_drawn 0 [.int y0] [] h).bind fun q => Rr X (d + 1) MTo_hands 67 L (psh q.1 st) q.2 := R_is (av := [.int y0]) d_MTo_hands_64 (Or.inl fc_9_203) (ckS_le hc) rfl (Nat.le_of_ble_eq_true rfl) (Nat.le_of_ble_eq_true rfl)
theorem r_MTo_hands_67 {l0 l1 l2 l3 l4 l5 l6 l7 l8 l9 : Value} {x : Int32} : Rr X d MTo_hands 67 [l0, l1, l2, l3, l4, l5, l6, l7, l8, l9] (.int x :: st) h = Rr X d MTo_hands 69 (sL [l0, l1, l2, l3, l4, l5, l6, l7, l8, l9] 4 (.int x)) st h := Rr_nx d_MTo_hands_67 rfl
theorem r_MTo_hands_69 {l0 l1 l2 l3 l5 l6 l7 l8 l9 : Value} {x : Int32} : Rr X d MTo_hands 69 [l0, l1, l2, l3, .int x, l5, l6, l7, l8, l9] st h = Rr X d MTo_hands 71 [l0, l1, l2, l3, .int x, l5, l6, l7, l8, l9] (.int x :: st) h := Rr_nx d_MTo_hands_69 rfl
theorem r_MTo_hands_71 : Rr X d MTo_hands 71 L st h = Rr X d MTo_hands 73 L (.int (8) :: st) h := Rr_nx d_MTo_hands_71 rfl
theorem r_MTo_hands_73 {x y : Int32} : Rr X d MTo_hands 73 L (.int y :: .int x :: st) h = Rr X d MTo_hands 74 L (.int ((x.toUInt32 >>> (y.toUInt32 &&& Int32.toUInt32 31)).toInt32) :: st) h := Rr_nx d_MTo_hands_73 rfl
theorem r_MTo_hands_74 : Rr X d MTo_hands 74 L st h = Rr X d MTo_hands 76 L (.int (50) :: st) h := Rr_nx d_MTo_hands_74 rfl
theorem r_MTo_hands_76 {x y : Int32} : Rr X d MTo_hands 76 L (.int y :: .int x :: st) h = if y = 0 then none else Rr X d MTo_hands 77 L (.int (x - x / y * y) :: st) h := R_rm d_MTo_hands_76
theorem r_MTo_hands_77 {l0 l1 l2 l3 l4 l5 l6 l7 l8 l9 : Value} {x : Int32} : Rr X d MTo_hands 77 [l0, l1, l2, l3, l4, l5, l6, l7, l8, l9] (.int x :: st) h = Rr X d MTo_hands 79 (sL [l0, l1, l2, l3, l4, l5, l6, l7, l8, l9] 8 (.int x)) st h := Rr_nx d_MTo_hands_77 rfl
theorem r_MTo_hands_79 {l0 l1 l2 l3 l5 l6 l7 l8 l9 : Value} {x : Int32} : Rr X d MTo_hands 79 [l0, l1, l2, l3, .int x, l5, l6, l7, l8, l9] st h = Rr X d MTo_hands 81 [l0, l1, l2, l3, .int x, l5, l6, l7, l8, l9] (.int x :: st) h := Rr_nx d_MTo_hands_79 rfl
theorem r_MTo_hands_81 {y0 : Int32} (hc : ckS st = true) : Rr X (d + 1) MTo_hands 81 L (.int y0 :: st) h = (Rr X d MTo_drawn 0 [.int y0] [] h).bind fun q => Rr X (d + 1) MTo_hands 84 L (psh q.1 st) q.2 := R_is (av := [.int y0]) d_MTo_hands_81 (Or.inl fc_9_203) (ckS_le hc) rfl (Nat.le_of_ble_eq_true rfl) (Nat.le_of_ble_eq_true rfl)
theorem r_MTo_hands_84 {l0 l1 l2 l3 l4 l5 l6 l7 l8 l9 : Value} {x : Int32} : Rr X d MTo_hands 84 [l0, l1, l2, l3, l4, l5, l6, l7, l8, l9] (.int x :: st) h = Rr X d MTo_hands 86 (sL [l0, l1, l2, l3, l4, l5, l6, l7, l8, l9] 4 (.int x)) st h := Rr_nx d_MTo_hands_84 rfl
theorem r_MTo_hands_86 {l0 l1 l2 l3 l5 l6 l7 l8 l9 : Value} {x : Int32} : Rr X d MTo_hands 86 [l0, l1, l2, l3, .int x, l5, l6, l7, l8, l9] st h = Rr X d MTo_hands 88 [l0, l1, l2, l3, .int x, l5, l6, l7, l8, l9] (.int x :: st) h := Rr_nx d_MTo_hands_86 rfl
theorem r_MTo_hands_88 : Rr X d MTo_hands 88 L st h = Rr X d MTo_hands 90 L (.int (8) :: st) h := Rr_nx d_MTo_hands_88 rfl
theorem r_MTo_hands_90 {x y : Int32} : Rr X d MTo_hands 90 L (.int y :: .int x :: st) h = Rr X d MTo_hands 91 L (.int ((x.toUInt32 >>> (y.toUInt32 &&& Int32.toUInt32 31)).toInt32) :: st) h := Rr_nx d_MTo_hands_90 rfl
theorem r_MTo_hands_91 : Rr X d MTo_hands 91 L st h = Rr X d MTo_hands 93 L (.int (50) :: st) h := Rr_nx d_MTo_hands_91 rfl
theorem r_MTo_hands_93 {x y : Int32} : Rr X d MTo_hands 93 L (.int y :: .int x :: st) h = if y = 0 then none else Rr X d MTo_hands 94 L (.int (x - x / y * y) :: st) h := R_rm d_MTo_hands_93
theorem r_MTo_hands_94 {l0 l1 l2 l3 l4 l5 l6 l7 l8 l9 : Value} {x : Int32} : Rr X d MTo_hands 94 [l0, l1, l2, l3, l4, l5, l6, l7, l8, l9] (.int x :: st) h = Rr X d MTo_hands 96 (sL [l0, l1, l2, l3, l4, l5, l6, l7, l8, l9] 9 (.int x)) st h := Rr_nx d_MTo_hands_94 rfl
theorem r_MTo_hands_96 {l1 l2 l3 l4 l5 l6 l7 l8 l9 : Value} {x : Nat} : Rr X d MTo_hands 96 [.ref x, l1, l2, l3, l4, l5, l6, l7, l8, l9] st h = Rr X d MTo_hands 97 [.ref x, l1, l2, l3, l4, l5, l6, l7, l8, l9] (.ref x :: st) h := Rr_nx d_MTo_hands_96 rfl
theorem r_MTo_hands_97 {l0 l1 l2 l3 l4 l5 l6 l8 l9 : Value} {x : Int32} : Rr X d MTo_hands 97 [l0, l1, l2, l3, l4, l5, l6, .int x, l8, l9] st h = Rr X d MTo_hands 99 [l0, l1, l2, l3, l4, l5, l6, .int x, l8, l9] (.int x :: st) h := Rr_nx d_MTo_hands_97 rfl
theorem r_MTo_hands_99 : Rr X d MTo_hands 99 L st h = Rr X d MTo_hands 102 L (.int (1000) :: st) h := Rr_nx d_MTo_hands_99 rfl
theorem r_MTo_hands_102 {l0 l1 l2 l3 l4 l5 l6 l7 l9 : Value} {x : Int32} : Rr X d MTo_hands 102 [l0, l1, l2, l3, l4, l5, l6, l7, .int x, l9] st h = Rr X d MTo_hands 104 [l0, l1, l2, l3, l4, l5, l6, l7, .int x, l9] (.int x :: st) h := Rr_nx d_MTo_hands_102 rfl
theorem r_MTo_hands_104 {x y : Int32} : Rr X d MTo_hands 104 L (.int y :: .int x :: st) h = Rr X d MTo_hands 105 L (.int (x * y) :: st) h := Rr_nx d_MTo_hands_104 rfl
theorem r_MTo_hands_105 {l0 l1 l2 l3 l4 l5 l6 l7 l8 : Value} {x : Int32} : Rr X d MTo_hands 105 [l0, l1, l2, l3, l4, l5, l6, l7, l8, .int x] st h = Rr X d MTo_hands 107 [l0, l1, l2, l3, l4, l5, l6, l7, l8, .int x] (.int x :: st) h := Rr_nx d_MTo_hands_105 rfl
theorem r_MTo_hands_107 {x y : Int32} : Rr X d MTo_hands 107 L (.int y :: .int x :: st) h = Rr X d MTo_hands 108 L (.int (x + y) :: st) h := Rr_nx d_MTo_hands_107 rfl
theorem r_MTo_hands_108 {y0 : Int32} {y1 : Int32} {a : Nat} (hO : qO a 9 = true) (hc : ckS st = true) : Rr X (d + 1) MTo_hands 108 L (.int y1 :: .int y0 :: .ref a :: st) (Wd mu la ro et) = (Rr X d MTo_firstBack 0 [.ref a, .int y0, .int y1, mkU] [] (Wd mu la ro et)).bind fun q => Rr X (d + 1) MTo_hands 111 L (psh q.1 st) q.2 := R_iv (av := [.int y1, .int y0]) d_MTo_hands_108 fc_9_188 hO (ckS_le hc) rfl (Nat.le_of_ble_eq_true rfl) (Nat.le_of_ble_eq_true rfl)
theorem r_MTo_hands_111 {x : Int32} : Rr X d MTo_hands 111 L (.int x :: st) h = if x ≤ 0 then Rr X d MTo_hands 117 L st h else Rr X d MTo_hands 114 L st h := R_if_le d_MTo_hands_111 (by decide)
theorem r_MTo_hands_114 {l0 l1 l2 l3 l4 l6 l7 l8 l9 : Value} {x : Int32} : Rr X d MTo_hands 114 [l0, l1, l2, l3, l4, .int x, l6, l7, l8, l9] st h = Rr X d MTo_hands 117 (sL [l0, l1, l2, l3, l4, .int x, l6, l7, l8, l9] 5 (.int (x + (1)))) st h := Rr_nx d_MTo_hands_114 rfl
theorem r_MTo_hands_117 {l0 l1 l2 l3 l4 l5 l7 l8 l9 : Value} {x : Int32} : Rr X d MTo_hands 117 [l0, l1, l2, l3, l4, l5, .int x, l7, l8, l9] st h = Rr X d MTo_hands 120 (sL [l0, l1, l2, l3, l4, l5, .int x, l7, l8, l9] 6 (.int (x + (1)))) st h := Rr_nx d_MTo_hands_117 rfl
theorem r_MTo_hands_120 : Rr X d MTo_hands 120 L st h = Rr X d MTo_hands 34 L st h := R_goto d_MTo_hands_120 (by decide)
theorem r_MTo_hands_123 {l0 l1 l2 l3 l4 l6 l7 l8 l9 : Value} {x : Int32} : Rr X d MTo_hands 123 [l0, l1, l2, l3, l4, .int x, l6, l7, l8, l9] st h = Rr X d MTo_hands 125 [l0, l1, l2, l3, l4, .int x, l6, l7, l8, l9] (.int x :: st) h := Rr_nx d_MTo_hands_123 rfl
theorem r_MTo_hands_125 {x : Int32} : Rr X d MTo_hands 125 L [.int x] h = some (some (.int x), h) := R_ir d_MTo_hands_125 rfl
theorem d_MTo_drawn_0 : decode MTo_drawn.2.2.1 0 = .ok (.iload_n 0, 1) := lkT_ok tk_MTo_drawn rfl
theorem d_MTo_drawn_1 : decode MTo_drawn.2.2.1 1 = .ok (.ldc_w 308, 3) := lkT_ok tk_MTo_drawn rfl
theorem d_MTo_drawn_4 : decode MTo_drawn.2.2.1 4 = .ok (.imul, 1) := lkT_ok tk_MTo_drawn rfl
theorem d_MTo_drawn_5 : decode MTo_drawn.2.2.1 5 = .ok (.sipush 12345, 3) := lkT_ok tk_MTo_drawn rfl
theorem d_MTo_drawn_8 : decode MTo_drawn.2.2.1 8 = .ok (.iadd, 1) := lkT_ok tk_MTo_drawn rfl
theorem d_MTo_drawn_9 : decode MTo_drawn.2.2.1 9 = .ok (.ireturn, 1) := lkT_ok tk_MTo_drawn rfl
theorem r_MTo_drawn_0 {x : Int32} : Rr X d MTo_drawn 0 [.int x] st h = Rr X d MTo_drawn 1 [.int x] (.int x :: st) h := Rr_nx d_MTo_drawn_0 rfl
theorem r_MTo_drawn_1 : Rr X d MTo_drawn 1 L st h = Rr X d MTo_drawn 4 L (.int (1103515245) :: st) h := Rr_nx d_MTo_drawn_1 rfl
theorem r_MTo_drawn_4 {x y : Int32} : Rr X d MTo_drawn 4 L (.int y :: .int x :: st) h = Rr X d MTo_drawn 5 L (.int (x * y) :: st) h := Rr_nx d_MTo_drawn_4 rfl
theorem r_MTo_drawn_5 : Rr X d MTo_drawn 5 L st h = Rr X d MTo_drawn 8 L (.int (12345) :: st) h := Rr_nx d_MTo_drawn_5 rfl
theorem r_MTo_drawn_8 {x y : Int32} : Rr X d MTo_drawn 8 L (.int y :: .int x :: st) h = Rr X d MTo_drawn 9 L (.int (x + y) :: st) h := Rr_nx d_MTo_drawn_8 rfl
theorem r_MTo_drawn_9 {x : Int32} : Rr X d MTo_drawn 9 L [.int x] h = some (some (.int x), h) := R_ir d_MTo_drawn_9 rfl
theorem d_MTo_going_0 : decode MTo_going.2.2.1 0 = .ok (.iload_n 1, 1) := lkT_ok tk_MTo_going rfl
theorem d_MTo_going_1 : decode MTo_going.2.2.1 1 = .ok (.iconst (-1), 1) := lkT_ok tk_MTo_going rfl
theorem d_MTo_going_2 : decode MTo_going.2.2.1 2 = .ok (.if_icmp .ne 30, 3) := lkT_ok tk_MTo_going rfl
theorem d_MTo_going_5 : decode MTo_going.2.2.1 5 = .ok (.aload_n 0, 1) := lkT_ok tk_MTo_going rfl
theorem d_MTo_going_6 : decode MTo_going.2.2.1 6 = .ok (.getfield 44, 3) := lkT_ok tk_MTo_going rfl
theorem d_MTo_going_9 : decode MTo_going.2.2.1 9 = .ok (.invokevirtual 156, 3) := lkT_ok tk_MTo_going rfl
theorem d_MTo_going_12 : decode MTo_going.2.2.1 12 = .ok (.ifCond .eq 17, 3) := lkT_ok tk_MTo_going rfl
theorem d_MTo_going_15 : decode MTo_going.2.2.1 15 = .ok (.iload_n 2, 1) := lkT_ok tk_MTo_going rfl
theorem d_MTo_going_16 : decode MTo_going.2.2.1 16 = .ok (.ifCond .ne 13, 3) := lkT_ok tk_MTo_going rfl
theorem d_MTo_going_19 : decode MTo_going.2.2.1 19 = .ok (.aload_n 0, 1) := lkT_ok tk_MTo_going rfl
theorem d_MTo_going_20 : decode MTo_going.2.2.1 20 = .ok (.getfield 44, 3) := lkT_ok tk_MTo_going rfl
theorem d_MTo_going_23 : decode MTo_going.2.2.1 23 = .ok (.getfield 160, 3) := lkT_ok tk_MTo_going rfl
theorem d_MTo_going_26 : decode MTo_going.2.2.1 26 = .ok (.goto 5, 3) := lkT_ok tk_MTo_going rfl
theorem d_MTo_going_29 : decode MTo_going.2.2.1 29 = .ok (.ldc 104, 2) := lkT_ok tk_MTo_going rfl
theorem d_MTo_going_31 : decode MTo_going.2.2.1 31 = .ok (.ireturn, 1) := lkT_ok tk_MTo_going rfl
theorem d_MTo_going_32 : decode MTo_going.2.2.1 32 = .ok (.iload_n 1, 1) := lkT_ok tk_MTo_going rfl
theorem d_MTo_going_33 : decode MTo_going.2.2.1 33 = .ok (.iconst 0, 1) := lkT_ok tk_MTo_going rfl
theorem d_MTo_going_34 : decode MTo_going.2.2.1 34 = .ok (.aload_n 0, 1) := lkT_ok tk_MTo_going rfl
theorem d_MTo_going_35 : decode MTo_going.2.2.1 35 = .ok (.getfield 44, 3) := lkT_ok tk_MTo_going rfl
theorem d_MTo_going_38 : decode MTo_going.2.2.1 38 = .ok (.getfield 160, 3) := lkT_ok tk_MTo_going rfl
theorem d_MTo_going_41 : decode MTo_going.2.2.1 41 = .ok (.invokestatic 72, 3) := lkT_ok tk_MTo_going rfl
theorem d_MTo_going_44 : decode MTo_going.2.2.1 44 = .ok (.ifCond .eq 12, 3) := lkT_ok tk_MTo_going rfl
theorem d_MTo_going_47 : decode MTo_going.2.2.1 47 = .ok (.iload_n 2, 1) := lkT_ok tk_MTo_going rfl
theorem d_MTo_going_48 : decode MTo_going.2.2.1 48 = .ok (.iconst 0, 1) := lkT_ok tk_MTo_going rfl
theorem d_MTo_going_49 : decode MTo_going.2.2.1 49 = .ok (.iconst 2, 1) := lkT_ok tk_MTo_going rfl
theorem d_MTo_going_50 : decode MTo_going.2.2.1 50 = .ok (.invokestatic 72, 3) := lkT_ok tk_MTo_going rfl
theorem d_MTo_going_53 : decode MTo_going.2.2.1 53 = .ok (.ifCond .ne 6, 3) := lkT_ok tk_MTo_going rfl
theorem d_MTo_going_56 : decode MTo_going.2.2.1 56 = .ok (.ldc 104, 2) := lkT_ok tk_MTo_going rfl
theorem d_MTo_going_58 : decode MTo_going.2.2.1 58 = .ok (.ireturn, 1) := lkT_ok tk_MTo_going rfl
theorem d_MTo_going_59 : decode MTo_going.2.2.1 59 = .ok (.aload_n 0, 1) := lkT_ok tk_MTo_going rfl
theorem d_MTo_going_60 : decode MTo_going.2.2.1 60 = .ok (.getfield 44, 3) := lkT_ok tk_MTo_going rfl
theorem d_MTo_going_63 : decode MTo_going.2.2.1 63 = .ok (.iload_n 1, 1) := lkT_ok tk_MTo_going rfl
theorem d_MTo_going_64 : decode MTo_going.2.2.1 64 = .ok (.iload_n 2, 1) := lkT_ok tk_MTo_going rfl
theorem d_MTo_going_65 : decode MTo_going.2.2.1 65 = .ok (.invokevirtual 163, 3) := lkT_ok tk_MTo_going rfl
theorem d_MTo_going_68 : decode MTo_going.2.2.1 68 = .ok (.ireturn, 1) := lkT_ok tk_MTo_going rfl
theorem r_MTo_going_0 {l0 l2 : Value} {x : Int32} : Rr X d MTo_going 0 [l0, .int x, l2] st h = Rr X d MTo_going 1 [l0, .int x, l2] (.int x :: st) h := Rr_nx d_MTo_going_0 rfl
theorem r_MTo_going_1 : Rr X d MTo_going 1 L st h = Rr X d MTo_going 2 L (.int (-1) :: st) h := Rr_nx d_MTo_going_1 rfl
theorem r_MTo_going_2 {x y : Int32} : Rr X d MTo_going 2 L (.int y :: .int x :: st) h = if ¬ x = y then Rr X d MTo_going 32 L st h else Rr X d MTo_going 5 L st h := R_ic_ne d_MTo_going_2 (by decide)
theorem r_MTo_going_5 {l1 l2 : Value} {x : Nat} : Rr X d MTo_going 5 [.ref x, l1, l2] st h = Rr X d MTo_going 6 [.ref x, l1, l2] (.ref x :: st) h := Rr_nx d_MTo_going_5 rfl
theorem r_MTo_going_6 {a : Nat} (hq : (qR a 9 5).isSome = true) : Rr X d MTo_going 6 L (.ref a :: st) (Wd mu la ro et) = Rr X d MTo_going 9 L (.ref (qRd a 9 5) :: st) (Wd mu la ro et) := R_gfR d_MTo_going_6 ff_9_44 hq
theorem fc_9_156 : fC 9 156 = some (0, 4, 0, MGo_isThere) := rfl
theorem r_MTo_going_9 {a : Nat} (hO : qO a 4 = true) (hc : ckS st = true) : Rr X (d + 1) MTo_going 9 L (.ref a :: st) (Wd mu la ro et) = (Rr X d MGo_isThere 0 [.ref a] [] (Wd mu la ro et)).bind fun q => Rr X (d + 1) MTo_going 12 L (psh q.1 st) q.2 := R_iv (av := []) d_MTo_going_9 fc_9_156 hO (ckS_le hc) rfl (Nat.le_of_ble_eq_true rfl) (Nat.le_of_ble_eq_true rfl)
theorem r_MTo_going_12 {x : Int32} : Rr X d MTo_going 12 L (.int x :: st) h = if x = 0 then Rr X d MTo_going 29 L st h else Rr X d MTo_going 15 L st h := R_if_eq d_MTo_going_12 (by decide)
theorem r_MTo_going_15 {l0 l1 : Value} {x : Int32} : Rr X d MTo_going 15 [l0, l1, .int x] st h = Rr X d MTo_going 16 [l0, l1, .int x] (.int x :: st) h := Rr_nx d_MTo_going_15 rfl
theorem r_MTo_going_16 {x : Int32} : Rr X d MTo_going 16 L (.int x :: st) h = if ¬ x = 0 then Rr X d MTo_going 29 L st h else Rr X d MTo_going 19 L st h := R_if_ne d_MTo_going_16 (by decide)
theorem r_MTo_going_19 {l1 l2 : Value} {x : Nat} : Rr X d MTo_going 19 [.ref x, l1, l2] st h = Rr X d MTo_going 20 [.ref x, l1, l2] (.ref x :: st) h := Rr_nx d_MTo_going_19 rfl
theorem r_MTo_going_20 {a : Nat} (hq : (qR a 9 5).isSome = true) : Rr X d MTo_going 20 L (.ref a :: st) (Wd mu la ro et) = Rr X d MTo_going 23 L (.ref (qRd a 9 5) :: st) (Wd mu la ro et) := R_gfR d_MTo_going_20 ff_9_44 hq
theorem ff_9_160 : fF 9 160 = some (4, 3, 0, 0) := rfl
theorem r_MTo_going_23 {a : Nat} (hq : qI a 4 3 = true) : Rr X d MTo_going 23 L (.ref a :: st) (Wd mu la ro et) = Rr X d MTo_going 26 L (.int (mu a 3) :: st) (Wd mu la ro et) := R_gfI d_MTo_going_23 ff_9_160 hq
theorem r_MTo_going_26 : Rr X d MTo_going 26 L st h = Rr X d MTo_going 31 L st h := R_goto d_MTo_going_26 (by decide)
theorem r_MTo_going_29 : Rr X d MTo_going 29 L st h = Rr X d MTo_going 31 L (.int (-2000000000) :: st) h := Rr_nx d_MTo_going_29 rfl
theorem r_MTo_going_31 {x : Int32} : Rr X d MTo_going 31 L [.int x] h = some (some (.int x), h) := R_ir d_MTo_going_31 rfl
theorem r_MTo_going_32 {l0 l2 : Value} {x : Int32} : Rr X d MTo_going 32 [l0, .int x, l2] st h = Rr X d MTo_going 33 [l0, .int x, l2] (.int x :: st) h := Rr_nx d_MTo_going_32 rfl
theorem r_MTo_going_33 : Rr X d MTo_going 33 L st h = Rr X d MTo_going 34 L (.int (0) :: st) h := Rr_nx d_MTo_going_33 rfl
theorem r_MTo_going_34 {l1 l2 : Value} {x : Nat} : Rr X d MTo_going 34 [.ref x, l1, l2] st h = Rr X d MTo_going 35 [.ref x, l1, l2] (.ref x :: st) h := Rr_nx d_MTo_going_34 rfl
theorem r_MTo_going_35 {a : Nat} (hq : (qR a 9 5).isSome = true) : Rr X d MTo_going 35 L (.ref a :: st) (Wd mu la ro et) = Rr X d MTo_going 38 L (.ref (qRd a 9 5) :: st) (Wd mu la ro et) := R_gfR d_MTo_going_35 ff_9_44 hq
theorem r_MTo_going_38 {a : Nat} (hq : qI a 4 3 = true) : Rr X d MTo_going 38 L (.ref a :: st) (Wd mu la ro et) = Rr X d MTo_going 41 L (.int (mu a 3) :: st) (Wd mu la ro et) := R_gfI d_MTo_going_38 ff_9_160 hq
theorem r_MTo_going_41 {y0 : Int32} {y1 : Int32} {y2 : Int32} (hc : ckS st = true) : Rr X (d + 1) MTo_going 41 L (.int y2 :: .int y1 :: .int y0 :: st) h = (Rr X d MTo_isWithin 0 [.int y0, .int y1, .int y2] [] h).bind fun q => Rr X (d + 1) MTo_going 44 L (psh q.1 st) q.2 := R_is (av := [.int y2, .int y1, .int y0]) d_MTo_going_41 (Or.inl fc_9_72) (ckS_le hc) rfl (Nat.le_of_ble_eq_true rfl) (Nat.le_of_ble_eq_true rfl)
theorem r_MTo_going_44 {x : Int32} : Rr X d MTo_going 44 L (.int x :: st) h = if x = 0 then Rr X d MTo_going 56 L st h else Rr X d MTo_going 47 L st h := R_if_eq d_MTo_going_44 (by decide)
theorem r_MTo_going_47 {l0 l1 : Value} {x : Int32} : Rr X d MTo_going 47 [l0, l1, .int x] st h = Rr X d MTo_going 48 [l0, l1, .int x] (.int x :: st) h := Rr_nx d_MTo_going_47 rfl
theorem r_MTo_going_48 : Rr X d MTo_going 48 L st h = Rr X d MTo_going 49 L (.int (0) :: st) h := Rr_nx d_MTo_going_48 rfl
theorem r_MTo_going_49 : Rr X d MTo_going 49 L st h = Rr X d MTo_going 50 L (.int (2) :: st) h := Rr_nx d_MTo_going_49 rfl
theorem r_MTo_going_50 {y0 : Int32} {y1 : Int32} {y2 : Int32} (hc : ckS st = true) : Rr X (d + 1) MTo_going 50 L (.int y2 :: .int y1 :: .int y0 :: st) h = (Rr X d MTo_isWithin 0 [.int y0, .int y1, .int y2] [] h).bind fun q => Rr X (d + 1) MTo_going 53 L (psh q.1 st) q.2 := R_is (av := [.int y2, .int y1, .int y0]) d_MTo_going_50 (Or.inl fc_9_72) (ckS_le hc) rfl (Nat.le_of_ble_eq_true rfl) (Nat.le_of_ble_eq_true rfl)
theorem r_MTo_going_53 {x : Int32} : Rr X d MTo_going 53 L (.int x :: st) h = if ¬ x = 0 then Rr X d MTo_going 59 L st h else Rr X d MTo_going 56 L st h := R_if_ne d_MTo_going_53 (by decide)
theorem r_MTo_going_56 : Rr X d MTo_going 56 L st h = Rr X d MTo_going 58 L (.int (-2000000000) :: st) h := Rr_nx d_MTo_going_56 rfl
theorem r_MTo_going_58 {x : Int32} : Rr X d MTo_going 58 L [.int x] h = some (some (.int x), h) := R_ir d_MTo_going_58 rfl
theorem r_MTo_going_59 {l1 l2 : Value} {x : Nat} : Rr X d MTo_going 59 [.ref x, l1, l2] st h = Rr X d MTo_going 60 [.ref x, l1, l2] (.ref x :: st) h := Rr_nx d_MTo_going_59 rfl
theorem r_MTo_going_60 {a : Nat} (hq : (qR a 9 5).isSome = true) : Rr X d MTo_going 60 L (.ref a :: st) (Wd mu la ro et) = Rr X d MTo_going 63 L (.ref (qRd a 9 5) :: st) (Wd mu la ro et) := R_gfR d_MTo_going_60 ff_9_44 hq
theorem r_MTo_going_63 {l0 l2 : Value} {x : Int32} : Rr X d MTo_going 63 [l0, .int x, l2] st h = Rr X d MTo_going 64 [l0, .int x, l2] (.int x :: st) h := Rr_nx d_MTo_going_63 rfl
theorem r_MTo_going_64 {l0 l1 : Value} {x : Int32} : Rr X d MTo_going 64 [l0, l1, .int x] st h = Rr X d MTo_going 65 [l0, l1, .int x] (.int x :: st) h := Rr_nx d_MTo_going_64 rfl
theorem fc_9_163 : fC 9 163 = some (0, 4, 2, MGo_at) := rfl
theorem r_MTo_going_65 {y0 : Int32} {y1 : Int32} {a : Nat} (hO : qO a 4 = true) (hc : ckS st = true) : Rr X (d + 1) MTo_going 65 L (.int y1 :: .int y0 :: .ref a :: st) (Wd mu la ro et) = (Rr X d MGo_at 0 [.ref a, .int y0, .int y1] [] (Wd mu la ro et)).bind fun q => Rr X (d + 1) MTo_going 68 L (psh q.1 st) q.2 := R_iv (av := [.int y1, .int y0]) d_MTo_going_65 fc_9_163 hO (ckS_le hc) rfl (Nat.le_of_ble_eq_true rfl) (Nat.le_of_ble_eq_true rfl)
theorem r_MTo_going_68 {x : Int32} : Rr X d MTo_going 68 L [.int x] h = some (some (.int x), h) := R_ir d_MTo_going_68 rfl
theorem d_MTo_back_0 : decode MTo_back.2.2.1 0 = .ok (.iload_n 1, 1) := lkT_ok tk_MTo_back rfl
theorem d_MTo_back_1 : decode MTo_back.2.2.1 1 = .ok (.iconst (-1), 1) := lkT_ok tk_MTo_back rfl
theorem d_MTo_back_2 : decode MTo_back.2.2.1 2 = .ok (.if_icmp .ge 5, 3) := lkT_ok tk_MTo_back rfl
theorem d_MTo_back_5 : decode MTo_back.2.2.1 5 = .ok (.iconst (-1), 1) := lkT_ok tk_MTo_back rfl
theorem d_MTo_back_6 : decode MTo_back.2.2.1 6 = .ok (.ireturn, 1) := lkT_ok tk_MTo_back rfl
theorem d_MTo_back_7 : decode MTo_back.2.2.1 7 = .ok (.aload_n 0, 1) := lkT_ok tk_MTo_back rfl
theorem d_MTo_back_8 : decode MTo_back.2.2.1 8 = .ok (.getfield 44, 3) := lkT_ok tk_MTo_back rfl
theorem d_MTo_back_11 : decode MTo_back.2.2.1 11 = .ok (.invokevirtual 156, 3) := lkT_ok tk_MTo_back rfl
theorem d_MTo_back_14 : decode MTo_back.2.2.1 14 = .ok (.ifCond .ne 6, 3) := lkT_ok tk_MTo_back rfl
theorem d_MTo_back_17 : decode MTo_back.2.2.1 17 = .ok (.bipush (-5), 2) := lkT_ok tk_MTo_back rfl
theorem d_MTo_back_19 : decode MTo_back.2.2.1 19 = .ok (.ireturn, 1) := lkT_ok tk_MTo_back rfl
theorem d_MTo_back_20 : decode MTo_back.2.2.1 20 = .ok (.iload_n 1, 1) := lkT_ok tk_MTo_back rfl
theorem d_MTo_back_21 : decode MTo_back.2.2.1 21 = .ok (.iconst (-1), 1) := lkT_ok tk_MTo_back rfl
theorem d_MTo_back_22 : decode MTo_back.2.2.1 22 = .ok (.if_icmp .ne 13, 3) := lkT_ok tk_MTo_back rfl
theorem d_MTo_back_25 : decode MTo_back.2.2.1 25 = .ok (.aload_n 0, 1) := lkT_ok tk_MTo_back rfl
theorem d_MTo_back_26 : decode MTo_back.2.2.1 26 = .ok (.getfield 44, 3) := lkT_ok tk_MTo_back rfl
theorem d_MTo_back_29 : decode MTo_back.2.2.1 29 = .ok (.getfield 165, 3) := lkT_ok tk_MTo_back rfl
theorem d_MTo_back_32 : decode MTo_back.2.2.1 32 = .ok (.goto 11, 3) := lkT_ok tk_MTo_back rfl
theorem d_MTo_back_35 : decode MTo_back.2.2.1 35 = .ok (.aload_n 0, 1) := lkT_ok tk_MTo_back rfl
theorem d_MTo_back_36 : decode MTo_back.2.2.1 36 = .ok (.getfield 44, 3) := lkT_ok tk_MTo_back rfl
theorem d_MTo_back_39 : decode MTo_back.2.2.1 39 = .ok (.iload_n 1, 1) := lkT_ok tk_MTo_back rfl
theorem d_MTo_back_40 : decode MTo_back.2.2.1 40 = .ok (.invokevirtual 168, 3) := lkT_ok tk_MTo_back rfl
theorem d_MTo_back_43 : decode MTo_back.2.2.1 43 = .ok (.ireturn, 1) := lkT_ok tk_MTo_back rfl
theorem r_MTo_back_0 {l0 : Value} {x : Int32} : Rr X d MTo_back 0 [l0, .int x] st h = Rr X d MTo_back 1 [l0, .int x] (.int x :: st) h := Rr_nx d_MTo_back_0 rfl
theorem r_MTo_back_1 : Rr X d MTo_back 1 L st h = Rr X d MTo_back 2 L (.int (-1) :: st) h := Rr_nx d_MTo_back_1 rfl
theorem r_MTo_back_2 {x y : Int32} : Rr X d MTo_back 2 L (.int y :: .int x :: st) h = if y ≤ x then Rr X d MTo_back 7 L st h else Rr X d MTo_back 5 L st h := R_ic_ge d_MTo_back_2 (by decide)
theorem r_MTo_back_5 : Rr X d MTo_back 5 L st h = Rr X d MTo_back 6 L (.int (-1) :: st) h := Rr_nx d_MTo_back_5 rfl
theorem r_MTo_back_6 {x : Int32} : Rr X d MTo_back 6 L [.int x] h = some (some (.int x), h) := R_ir d_MTo_back_6 rfl
theorem r_MTo_back_7 {l1 : Value} {x : Nat} : Rr X d MTo_back 7 [.ref x, l1] st h = Rr X d MTo_back 8 [.ref x, l1] (.ref x :: st) h := Rr_nx d_MTo_back_7 rfl
theorem r_MTo_back_8 {a : Nat} (hq : (qR a 9 5).isSome = true) : Rr X d MTo_back 8 L (.ref a :: st) (Wd mu la ro et) = Rr X d MTo_back 11 L (.ref (qRd a 9 5) :: st) (Wd mu la ro et) := R_gfR d_MTo_back_8 ff_9_44 hq
theorem r_MTo_back_11 {a : Nat} (hO : qO a 4 = true) (hc : ckS st = true) : Rr X (d + 1) MTo_back 11 L (.ref a :: st) (Wd mu la ro et) = (Rr X d MGo_isThere 0 [.ref a] [] (Wd mu la ro et)).bind fun q => Rr X (d + 1) MTo_back 14 L (psh q.1 st) q.2 := R_iv (av := []) d_MTo_back_11 fc_9_156 hO (ckS_le hc) rfl (Nat.le_of_ble_eq_true rfl) (Nat.le_of_ble_eq_true rfl)
theorem r_MTo_back_14 {x : Int32} : Rr X d MTo_back 14 L (.int x :: st) h = if ¬ x = 0 then Rr X d MTo_back 20 L st h else Rr X d MTo_back 17 L st h := R_if_ne d_MTo_back_14 (by decide)
theorem r_MTo_back_17 : Rr X d MTo_back 17 L st h = Rr X d MTo_back 19 L (.int (-5) :: st) h := Rr_nx d_MTo_back_17 rfl
theorem r_MTo_back_19 {x : Int32} : Rr X d MTo_back 19 L [.int x] h = some (some (.int x), h) := R_ir d_MTo_back_19 rfl
theorem r_MTo_back_20 {l0 : Value} {x : Int32} : Rr X d MTo_back 20 [l0, .int x] st h = Rr X d MTo_back 21 [l0, .int x] (.int x :: st) h := Rr_nx d_MTo_back_20 rfl
theorem r_MTo_back_21 : Rr X d MTo_back 21 L st h = Rr X d MTo_back 22 L (.int (-1) :: st) h := Rr_nx d_MTo_back_21 rfl
theorem r_MTo_back_22 {x y : Int32} : Rr X d MTo_back 22 L (.int y :: .int x :: st) h = if ¬ x = y then Rr X d MTo_back 35 L st h else Rr X d MTo_back 25 L st h := R_ic_ne d_MTo_back_22 (by decide)
theorem r_MTo_back_25 {l1 : Value} {x : Nat} : Rr X d MTo_back 25 [.ref x, l1] st h = Rr X d MTo_back 26 [.ref x, l1] (.ref x :: st) h := Rr_nx d_MTo_back_25 rfl
theorem r_MTo_back_26 {a : Nat} (hq : (qR a 9 5).isSome = true) : Rr X d MTo_back 26 L (.ref a :: st) (Wd mu la ro et) = Rr X d MTo_back 29 L (.ref (qRd a 9 5) :: st) (Wd mu la ro et) := R_gfR d_MTo_back_26 ff_9_44 hq
theorem ff_9_165 : fF 9 165 = some (4, 4, 0, 0) := rfl
theorem r_MTo_back_29 {a : Nat} (hq : qI a 4 4 = true) : Rr X d MTo_back 29 L (.ref a :: st) (Wd mu la ro et) = Rr X d MTo_back 32 L (.int (mu a 4) :: st) (Wd mu la ro et) := R_gfI d_MTo_back_29 ff_9_165 hq
theorem r_MTo_back_32 : Rr X d MTo_back 32 L st h = Rr X d MTo_back 43 L st h := R_goto d_MTo_back_32 (by decide)
theorem r_MTo_back_35 {l1 : Value} {x : Nat} : Rr X d MTo_back 35 [.ref x, l1] st h = Rr X d MTo_back 36 [.ref x, l1] (.ref x :: st) h := Rr_nx d_MTo_back_35 rfl
theorem r_MTo_back_36 {a : Nat} (hq : (qR a 9 5).isSome = true) : Rr X d MTo_back 36 L (.ref a :: st) (Wd mu la ro et) = Rr X d MTo_back 39 L (.ref (qRd a 9 5) :: st) (Wd mu la ro et) := R_gfR d_MTo_back_36 ff_9_44 hq
theorem r_MTo_back_39 {l0 : Value} {x : Int32} : Rr X d MTo_back 39 [l0, .int x] st h = Rr X d MTo_back 40 [l0, .int x] (.int x :: st) h := Rr_nx d_MTo_back_39 rfl
theorem fc_9_168 : fC 9 168 = some (0, 4, 1, MGo_backTick) := rfl
theorem r_MTo_back_40 {y0 : Int32} {a : Nat} (hO : qO a 4 = true) (hc : ckS st = true) : Rr X (d + 1) MTo_back 40 L (.int y0 :: .ref a :: st) (Wd mu la ro et) = (Rr X d MGo_backTick 0 [.ref a, .int y0, mkU, mkU, mkU, mkU] [] (Wd mu la ro et)).bind fun q => Rr X (d + 1) MTo_back 43 L (psh q.1 st) q.2 := R_iv (av := [.int y0]) d_MTo_back_40 fc_9_168 hO (ckS_le hc) rfl (Nat.le_of_ble_eq_true rfl) (Nat.le_of_ble_eq_true rfl)
theorem r_MTo_back_43 {x : Int32} : Rr X d MTo_back 43 L [.int x] h = some (some (.int x), h) := R_ir d_MTo_back_43 rfl
theorem d_MTo_told_0 : decode MTo_told.2.2.1 0 = .ok (.aload_n 0, 1) := lkT_ok tk_MTo_told rfl
theorem d_MTo_told_1 : decode MTo_told.2.2.1 1 = .ok (.getfield 44, 3) := lkT_ok tk_MTo_told rfl
theorem d_MTo_told_4 : decode MTo_told.2.2.1 4 = .ok (.invokevirtual 156, 3) := lkT_ok tk_MTo_told rfl
theorem d_MTo_told_7 : decode MTo_told.2.2.1 7 = .ok (.ifCond .eq 12, 3) := lkT_ok tk_MTo_told rfl
theorem d_MTo_told_10 : decode MTo_told.2.2.1 10 = .ok (.iload_n 1, 1) := lkT_ok tk_MTo_told rfl
theorem d_MTo_told_11 : decode MTo_told.2.2.1 11 = .ok (.iconst 0, 1) := lkT_ok tk_MTo_told rfl
theorem d_MTo_told_12 : decode MTo_told.2.2.1 12 = .ok (.iconst 4, 1) := lkT_ok tk_MTo_told rfl
theorem d_MTo_told_13 : decode MTo_told.2.2.1 13 = .ok (.invokestatic 72, 3) := lkT_ok tk_MTo_told rfl
theorem d_MTo_told_16 : decode MTo_told.2.2.1 16 = .ok (.ifCond .ne 8, 3) := lkT_ok tk_MTo_told rfl
theorem d_MTo_told_19 : decode MTo_told.2.2.1 19 = .ok (.ldc 104, 2) := lkT_ok tk_MTo_told rfl
theorem d_MTo_told_21 : decode MTo_told.2.2.1 21 = .ok (.goto 11, 3) := lkT_ok tk_MTo_told rfl
theorem d_MTo_told_24 : decode MTo_told.2.2.1 24 = .ok (.aload_n 0, 1) := lkT_ok tk_MTo_told rfl
theorem d_MTo_told_25 : decode MTo_told.2.2.1 25 = .ok (.getfield 44, 3) := lkT_ok tk_MTo_told rfl
theorem d_MTo_told_28 : decode MTo_told.2.2.1 28 = .ok (.iload_n 1, 1) := lkT_ok tk_MTo_told rfl
theorem d_MTo_told_29 : decode MTo_told.2.2.1 29 = .ok (.invokevirtual 171, 3) := lkT_ok tk_MTo_told rfl
theorem d_MTo_told_32 : decode MTo_told.2.2.1 32 = .ok (.ireturn, 1) := lkT_ok tk_MTo_told rfl
theorem r_MTo_told_0 {l1 : Value} {x : Nat} : Rr X d MTo_told 0 [.ref x, l1] st h = Rr X d MTo_told 1 [.ref x, l1] (.ref x :: st) h := Rr_nx d_MTo_told_0 rfl
theorem r_MTo_told_1 {a : Nat} (hq : (qR a 9 5).isSome = true) : Rr X d MTo_told 1 L (.ref a :: st) (Wd mu la ro et) = Rr X d MTo_told 4 L (.ref (qRd a 9 5) :: st) (Wd mu la ro et) := R_gfR d_MTo_told_1 ff_9_44 hq
theorem r_MTo_told_4 {a : Nat} (hO : qO a 4 = true) (hc : ckS st = true) : Rr X (d + 1) MTo_told 4 L (.ref a :: st) (Wd mu la ro et) = (Rr X d MGo_isThere 0 [.ref a] [] (Wd mu la ro et)).bind fun q => Rr X (d + 1) MTo_told 7 L (psh q.1 st) q.2 := R_iv (av := []) d_MTo_told_4 fc_9_156 hO (ckS_le hc) rfl (Nat.le_of_ble_eq_true rfl) (Nat.le_of_ble_eq_true rfl)
theorem r_MTo_told_7 {x : Int32} : Rr X d MTo_told 7 L (.int x :: st) h = if x = 0 then Rr X d MTo_told 19 L st h else Rr X d MTo_told 10 L st h := R_if_eq d_MTo_told_7 (by decide)
theorem r_MTo_told_10 {l0 : Value} {x : Int32} : Rr X d MTo_told 10 [l0, .int x] st h = Rr X d MTo_told 11 [l0, .int x] (.int x :: st) h := Rr_nx d_MTo_told_10 rfl
theorem r_MTo_told_11 : Rr X d MTo_told 11 L st h = Rr X d MTo_told 12 L (.int (0) :: st) h := Rr_nx d_MTo_told_11 rfl
theorem r_MTo_told_12 : Rr X d MTo_told 12 L st h = Rr X d MTo_told 13 L (.int (4) :: st) h := Rr_nx d_MTo_told_12 rfl
theorem r_MTo_told_13 {y0 : Int32} {y1 : Int32} {y2 : Int32} (hc : ckS st = true) : Rr X (d + 1) MTo_told 13 L (.int y2 :: .int y1 :: .int y0 :: st) h = (Rr X d MTo_isWithin 0 [.int y0, .int y1, .int y2] [] h).bind fun q => Rr X (d + 1) MTo_told 16 L (psh q.1 st) q.2 := R_is (av := [.int y2, .int y1, .int y0]) d_MTo_told_13 (Or.inl fc_9_72) (ckS_le hc) rfl (Nat.le_of_ble_eq_true rfl) (Nat.le_of_ble_eq_true rfl)
theorem r_MTo_told_16 {x : Int32} : Rr X d MTo_told 16 L (.int x :: st) h = if ¬ x = 0 then Rr X d MTo_told 24 L st h else Rr X d MTo_told 19 L st h := R_if_ne d_MTo_told_16 (by decide)
theorem r_MTo_told_19 : Rr X d MTo_told 19 L st h = Rr X d MTo_told 21 L (.int (-2000000000) :: st) h := Rr_nx d_MTo_told_19 rfl
theorem r_MTo_told_21 : Rr X d MTo_told 21 L st h = Rr X d MTo_told 32 L st h := R_goto d_MTo_told_21 (by decide)
theorem r_MTo_told_24 {l1 : Value} {x : Nat} : Rr X d MTo_told 24 [.ref x, l1] st h = Rr X d MTo_told 25 [.ref x, l1] (.ref x :: st) h := Rr_nx d_MTo_told_24 rfl
theorem r_MTo_told_25 {a : Nat} (hq : (qR a 9 5).isSome = true) : Rr X d MTo_told 25 L (.ref a :: st) (Wd mu la ro et) = Rr X d MTo_told 28 L (.ref (qRd a 9 5) :: st) (Wd mu la ro et) := R_gfR d_MTo_told_25 ff_9_44 hq
theorem r_MTo_told_28 {l0 : Value} {x : Int32} : Rr X d MTo_told 28 [l0, .int x] st h = Rr X d MTo_told 29 [l0, .int x] (.int x :: st) h := Rr_nx d_MTo_told_28 rfl
theorem fc_9_171 : fC 9 171 = some (0, 4, 1, MGo_summary) := rfl
theorem r_MTo_told_29 {y0 : Int32} {a : Nat} (hO : qO a 4 = true) (hc : ckS st = true) : Rr X (d + 1) MTo_told 29 L (.int y0 :: .ref a :: st) (Wd mu la ro et) = (Rr X d MGo_summary 0 [.ref a, .int y0] [] (Wd mu la ro et)).bind fun q => Rr X (d + 1) MTo_told 32 L (psh q.1 st) q.2 := R_iv (av := [.int y0]) d_MTo_told_29 fc_9_171 hO (ckS_le hc) rfl (Nat.le_of_ble_eq_true rfl) (Nat.le_of_ble_eq_true rfl)
theorem r_MTo_told_32 {x : Int32} : Rr X d MTo_told 32 L [.int x] h = some (some (.int x), h) := R_ir d_MTo_told_32 rfl
theorem d_MGo_backTick_0 : decode MGo_backTick.2.2.1 0 = .ok (.iconst (-1), 1) := lkT_ok tk_MGo_backTick rfl
theorem d_MGo_backTick_1 : decode MGo_backTick.2.2.1 1 = .ok (.istore_n 2, 1) := lkT_ok tk_MGo_backTick rfl
theorem d_MGo_backTick_2 : decode MGo_backTick.2.2.1 2 = .ok (.iconst 0, 1) := lkT_ok tk_MGo_backTick rfl
theorem d_MGo_backTick_3 : decode MGo_backTick.2.2.1 3 = .ok (.istore_n 3, 1) := lkT_ok tk_MGo_backTick rfl
theorem d_MGo_backTick_4 : decode MGo_backTick.2.2.1 4 = .ok (.iconst 0, 1) := lkT_ok tk_MGo_backTick rfl
theorem d_MGo_backTick_5 : decode MGo_backTick.2.2.1 5 = .ok (.istore 4, 2) := lkT_ok tk_MGo_backTick rfl
theorem d_MGo_backTick_7 : decode MGo_backTick.2.2.1 7 = .ok (.iload 4, 2) := lkT_ok tk_MGo_backTick rfl
theorem d_MGo_backTick_9 : decode MGo_backTick.2.2.1 9 = .ok (.aload_n 0, 1) := lkT_ok tk_MGo_backTick rfl
theorem d_MGo_backTick_10 : decode MGo_backTick.2.2.1 10 = .ok (.getfield 21, 3) := lkT_ok tk_MGo_backTick rfl
theorem d_MGo_backTick_13 : decode MGo_backTick.2.2.1 13 = .ok (.if_icmp .gt 64, 3) := lkT_ok tk_MGo_backTick rfl
theorem d_MGo_backTick_16 : decode MGo_backTick.2.2.1 16 = .ok (.iload 4, 2) := lkT_ok tk_MGo_backTick rfl
theorem d_MGo_backTick_18 : decode MGo_backTick.2.2.1 18 = .ok (.sipush 400, 3) := lkT_ok tk_MGo_backTick rfl
theorem d_MGo_backTick_21 : decode MGo_backTick.2.2.1 21 = .ok (.if_icmp .gt 56, 3) := lkT_ok tk_MGo_backTick rfl
theorem d_MGo_backTick_24 : decode MGo_backTick.2.2.1 24 = .ok (.aload_n 0, 1) := lkT_ok tk_MGo_backTick rfl
theorem d_MGo_backTick_25 : decode MGo_backTick.2.2.1 25 = .ok (.getfield 9, 3) := lkT_ok tk_MGo_backTick rfl
theorem d_MGo_backTick_28 : decode MGo_backTick.2.2.1 28 = .ok (.iload 4, 2) := lkT_ok tk_MGo_backTick rfl
theorem d_MGo_backTick_30 : decode MGo_backTick.2.2.1 30 = .ok (.iaload, 1) := lkT_ok tk_MGo_backTick rfl
theorem d_MGo_backTick_31 : decode MGo_backTick.2.2.1 31 = .ok (.invokestatic 64, 3) := lkT_ok tk_MGo_backTick rfl
theorem d_MGo_backTick_34 : decode MGo_backTick.2.2.1 34 = .ok (.istore 5, 2) := lkT_ok tk_MGo_backTick rfl
theorem d_MGo_backTick_36 : decode MGo_backTick.2.2.1 36 = .ok (.iload 5, 2) := lkT_ok tk_MGo_backTick rfl
theorem d_MGo_backTick_38 : decode MGo_backTick.2.2.1 38 = .ok (.ifCond .eq 21, 3) := lkT_ok tk_MGo_backTick rfl
theorem d_MGo_backTick_41 : decode MGo_backTick.2.2.1 41 = .ok (.iload 5, 2) := lkT_ok tk_MGo_backTick rfl
theorem d_MGo_backTick_43 : decode MGo_backTick.2.2.1 43 = .ok (.iload_n 3, 1) := lkT_ok tk_MGo_backTick rfl
theorem d_MGo_backTick_44 : decode MGo_backTick.2.2.1 44 = .ok (.ineg, 1) := lkT_ok tk_MGo_backTick rfl
theorem d_MGo_backTick_45 : decode MGo_backTick.2.2.1 45 = .ok (.if_icmp .ne 14, 3) := lkT_ok tk_MGo_backTick rfl
theorem d_MGo_backTick_48 : decode MGo_backTick.2.2.1 48 = .ok (.iinc 2 1, 3) := lkT_ok tk_MGo_backTick rfl
theorem d_MGo_backTick_51 : decode MGo_backTick.2.2.1 51 = .ok (.iload_n 2, 1) := lkT_ok tk_MGo_backTick rfl
theorem d_MGo_backTick_52 : decode MGo_backTick.2.2.1 52 = .ok (.iload_n 1, 1) := lkT_ok tk_MGo_backTick rfl
theorem d_MGo_backTick_53 : decode MGo_backTick.2.2.1 53 = .ok (.if_icmp .ne 6, 3) := lkT_ok tk_MGo_backTick rfl
theorem d_MGo_backTick_56 : decode MGo_backTick.2.2.1 56 = .ok (.iload 4, 2) := lkT_ok tk_MGo_backTick rfl
theorem d_MGo_backTick_58 : decode MGo_backTick.2.2.1 58 = .ok (.ireturn, 1) := lkT_ok tk_MGo_backTick rfl
theorem d_MGo_backTick_59 : decode MGo_backTick.2.2.1 59 = .ok (.iload 5, 2) := lkT_ok tk_MGo_backTick rfl
theorem d_MGo_backTick_61 : decode MGo_backTick.2.2.1 61 = .ok (.ifCond .eq 8, 3) := lkT_ok tk_MGo_backTick rfl
theorem d_MGo_backTick_64 : decode MGo_backTick.2.2.1 64 = .ok (.iload 5, 2) := lkT_ok tk_MGo_backTick rfl
theorem d_MGo_backTick_66 : decode MGo_backTick.2.2.1 66 = .ok (.goto 4, 3) := lkT_ok tk_MGo_backTick rfl
theorem d_MGo_backTick_69 : decode MGo_backTick.2.2.1 69 = .ok (.iload_n 3, 1) := lkT_ok tk_MGo_backTick rfl
theorem d_MGo_backTick_70 : decode MGo_backTick.2.2.1 70 = .ok (.istore_n 3, 1) := lkT_ok tk_MGo_backTick rfl
theorem d_MGo_backTick_71 : decode MGo_backTick.2.2.1 71 = .ok (.iinc 4 1, 3) := lkT_ok tk_MGo_backTick rfl
theorem d_MGo_backTick_74 : decode MGo_backTick.2.2.1 74 = .ok (.goto (-67), 3) := lkT_ok tk_MGo_backTick rfl
theorem d_MGo_backTick_77 : decode MGo_backTick.2.2.1 77 = .ok (.iconst (-1), 1) := lkT_ok tk_MGo_backTick rfl
theorem d_MGo_backTick_78 : decode MGo_backTick.2.2.1 78 = .ok (.ireturn, 1) := lkT_ok tk_MGo_backTick rfl
theorem r_MGo_backTick_0 : Rr X d MGo_backTick 0 L st h = Rr X d MGo_backTick 1 L (.int (-1) :: st) h := Rr_nx d_MGo_backTick_0 rfl
theorem r_MGo_backTick_1 {l0 l1 l2 l3 l4 l5 : Value} {x : Int32} : Rr X d MGo_backTick 1 [l0, l1, l2, l3, l4, l5] (.int x :: st) h = Rr X d MGo_backTick 2 (sL [l0, l1, l2, l3, l4, l5] 2 (.int x)) st h := Rr_nx d_MGo_backTick_1 rfl
theorem r_MGo_backTick_2 : Rr X d MGo_backTick 2 L st h = Rr X d MGo_backTick 3 L (.int (0) :: st) h := Rr_nx d_MGo_backTick_2 rfl
theorem r_MGo_backTick_3 {l0 l1 l2 l3 l4 l5 : Value} {x : Int32} : Rr X d MGo_backTick 3 [l0, l1, l2, l3, l4, l5] (.int x :: st) h = Rr X d MGo_backTick 4 (sL [l0, l1, l2, l3, l4, l5] 3 (.int x)) st h := Rr_nx d_MGo_backTick_3 rfl
theorem r_MGo_backTick_4 : Rr X d MGo_backTick 4 L st h = Rr X d MGo_backTick 5 L (.int (0) :: st) h := Rr_nx d_MGo_backTick_4 rfl
theorem r_MGo_backTick_5 {l0 l1 l2 l3 l4 l5 : Value} {x : Int32} : Rr X d MGo_backTick 5 [l0, l1, l2, l3, l4, l5] (.int x :: st) h = Rr X d MGo_backTick 7 (sL [l0, l1, l2, l3, l4, l5] 4 (.int x)) st h := Rr_nx d_MGo_backTick_5 rfl
theorem r_MGo_backTick_7 {l0 l1 l2 l3 l5 : Value} {x : Int32} : Rr X d MGo_backTick 7 [l0, l1, l2, l3, .int x, l5] st h = Rr X d MGo_backTick 9 [l0, l1, l2, l3, .int x, l5] (.int x :: st) h := Rr_nx d_MGo_backTick_7 rfl
theorem r_MGo_backTick_9 {l1 l2 l3 l4 l5 : Value} {x : Nat} : Rr X d MGo_backTick 9 [.ref x, l1, l2, l3, l4, l5] st h = Rr X d MGo_backTick 10 [.ref x, l1, l2, l3, l4, l5] (.ref x :: st) h := Rr_nx d_MGo_backTick_9 rfl
theorem r_MGo_backTick_10 {a : Nat} (hq : qI a 4 3 = true) : Rr X d MGo_backTick 10 L (.ref a :: st) (Wd mu la ro et) = Rr X d MGo_backTick 13 L (.int (mu a 3) :: st) (Wd mu la ro et) := R_gfI d_MGo_backTick_10 ff_4_21 hq
theorem r_MGo_backTick_13 {x y : Int32} : Rr X d MGo_backTick 13 L (.int y :: .int x :: st) h = if y < x then Rr X d MGo_backTick 77 L st h else Rr X d MGo_backTick 16 L st h := R_ic_gt d_MGo_backTick_13 (by decide)
theorem r_MGo_backTick_16 {l0 l1 l2 l3 l5 : Value} {x : Int32} : Rr X d MGo_backTick 16 [l0, l1, l2, l3, .int x, l5] st h = Rr X d MGo_backTick 18 [l0, l1, l2, l3, .int x, l5] (.int x :: st) h := Rr_nx d_MGo_backTick_16 rfl
theorem r_MGo_backTick_18 : Rr X d MGo_backTick 18 L st h = Rr X d MGo_backTick 21 L (.int (400) :: st) h := Rr_nx d_MGo_backTick_18 rfl
theorem r_MGo_backTick_21 {x y : Int32} : Rr X d MGo_backTick 21 L (.int y :: .int x :: st) h = if y < x then Rr X d MGo_backTick 77 L st h else Rr X d MGo_backTick 24 L st h := R_ic_gt d_MGo_backTick_21 (by decide)
theorem r_MGo_backTick_24 {l1 l2 l3 l4 l5 : Value} {x : Nat} : Rr X d MGo_backTick 24 [.ref x, l1, l2, l3, l4, l5] st h = Rr X d MGo_backTick 25 [.ref x, l1, l2, l3, l4, l5] (.ref x :: st) h := Rr_nx d_MGo_backTick_24 rfl
theorem r_MGo_backTick_25 {a : Nat} (hq : (qR a 4 0).isSome = true) : Rr X d MGo_backTick 25 L (.ref a :: st) (Wd mu la ro et) = Rr X d MGo_backTick 28 L (.ref (qRd a 4 0) :: st) (Wd mu la ro et) := R_gfR d_MGo_backTick_25 ff_4_9 hq
theorem r_MGo_backTick_28 {l0 l1 l2 l3 l5 : Value} {x : Int32} : Rr X d MGo_backTick 28 [l0, l1, l2, l3, .int x, l5] st h = Rr X d MGo_backTick 30 [l0, l1, l2, l3, .int x, l5] (.int x :: st) h := Rr_nx d_MGo_backTick_28 rfl
theorem r_MGo_backTick_30 {a : Nat} {j : Int32} (hq : (qA a 0).isSome = true) : Rr X d MGo_backTick 30 L (.int j :: .ref a :: st) (Wd mu la ro et) = if j < 0 ∨ qAd a 0 ≤ j.toNatClampNeg then none else Rr X d MGo_backTick 31 L (.int (mu a j.toNatClampNeg) :: st) (Wd mu la ro et) := R_ialW d_MGo_backTick_30 hq
theorem fc_4_64 : fC 4 64 = some (1, 0, 1, MIn_signum) := rfl
theorem r_MGo_backTick_31 {y0 : Int32} (hc : ckS st = true) : Rr X (d + 1) MGo_backTick 31 L (.int y0 :: st) h = (Rr X d MIn_signum 0 [.int y0] [] h).bind fun q => Rr X (d + 1) MGo_backTick 34 L (psh q.1 st) q.2 := R_is (av := [.int y0]) d_MGo_backTick_31 (Or.inl fc_4_64) (ckS_le hc) rfl (Nat.le_of_ble_eq_true rfl) (Nat.le_of_ble_eq_true rfl)
theorem r_MGo_backTick_34 {l0 l1 l2 l3 l4 l5 : Value} {x : Int32} : Rr X d MGo_backTick 34 [l0, l1, l2, l3, l4, l5] (.int x :: st) h = Rr X d MGo_backTick 36 (sL [l0, l1, l2, l3, l4, l5] 5 (.int x)) st h := Rr_nx d_MGo_backTick_34 rfl
theorem r_MGo_backTick_36 {l0 l1 l2 l3 l4 : Value} {x : Int32} : Rr X d MGo_backTick 36 [l0, l1, l2, l3, l4, .int x] st h = Rr X d MGo_backTick 38 [l0, l1, l2, l3, l4, .int x] (.int x :: st) h := Rr_nx d_MGo_backTick_36 rfl
theorem r_MGo_backTick_38 {x : Int32} : Rr X d MGo_backTick 38 L (.int x :: st) h = if x = 0 then Rr X d MGo_backTick 59 L st h else Rr X d MGo_backTick 41 L st h := R_if_eq d_MGo_backTick_38 (by decide)
theorem r_MGo_backTick_41 {l0 l1 l2 l3 l4 : Value} {x : Int32} : Rr X d MGo_backTick 41 [l0, l1, l2, l3, l4, .int x] st h = Rr X d MGo_backTick 43 [l0, l1, l2, l3, l4, .int x] (.int x :: st) h := Rr_nx d_MGo_backTick_41 rfl
theorem r_MGo_backTick_43 {l0 l1 l2 l4 l5 : Value} {x : Int32} : Rr X d MGo_backTick 43 [l0, l1, l2, .int x, l4, l5] st h = Rr X d MGo_backTick 44 [l0, l1, l2, .int x, l4, l5] (.int x :: st) h := Rr_nx d_MGo_backTick_43 rfl
theorem r_MGo_backTick_44 {x : Int32} : Rr X d MGo_backTick 44 L (.int x :: st) h = Rr X d MGo_backTick 45 L (.int (-x) :: st) h := Rr_nx d_MGo_backTick_44 rfl
theorem r_MGo_backTick_45 {x y : Int32} : Rr X d MGo_backTick 45 L (.int y :: .int x :: st) h = if ¬ x = y then Rr X d MGo_backTick 59 L st h else Rr X d MGo_backTick 48 L st h := R_ic_ne d_MGo_backTick_45 (by decide)
theorem r_MGo_backTick_48 {l0 l1 l3 l4 l5 : Value} {x : Int32} : Rr X d MGo_backTick 48 [l0, l1, .int x, l3, l4, l5] st h = Rr X d MGo_backTick 51 (sL [l0, l1, .int x, l3, l4, l5] 2 (.int (x + (1)))) st h := Rr_nx d_MGo_backTick_48 rfl
theorem r_MGo_backTick_51 {l0 l1 l3 l4 l5 : Value} {x : Int32} : Rr X d MGo_backTick 51 [l0, l1, .int x, l3, l4, l5] st h = Rr X d MGo_backTick 52 [l0, l1, .int x, l3, l4, l5] (.int x :: st) h := Rr_nx d_MGo_backTick_51 rfl
theorem r_MGo_backTick_52 {l0 l2 l3 l4 l5 : Value} {x : Int32} : Rr X d MGo_backTick 52 [l0, .int x, l2, l3, l4, l5] st h = Rr X d MGo_backTick 53 [l0, .int x, l2, l3, l4, l5] (.int x :: st) h := Rr_nx d_MGo_backTick_52 rfl
theorem r_MGo_backTick_53 {x y : Int32} : Rr X d MGo_backTick 53 L (.int y :: .int x :: st) h = if ¬ x = y then Rr X d MGo_backTick 59 L st h else Rr X d MGo_backTick 56 L st h := R_ic_ne d_MGo_backTick_53 (by decide)
theorem r_MGo_backTick_56 {l0 l1 l2 l3 l5 : Value} {x : Int32} : Rr X d MGo_backTick 56 [l0, l1, l2, l3, .int x, l5] st h = Rr X d MGo_backTick 58 [l0, l1, l2, l3, .int x, l5] (.int x :: st) h := Rr_nx d_MGo_backTick_56 rfl
theorem r_MGo_backTick_58 {x : Int32} : Rr X d MGo_backTick 58 L [.int x] h = some (some (.int x), h) := R_ir d_MGo_backTick_58 rfl
theorem r_MGo_backTick_59 {l0 l1 l2 l3 l4 : Value} {x : Int32} : Rr X d MGo_backTick 59 [l0, l1, l2, l3, l4, .int x] st h = Rr X d MGo_backTick 61 [l0, l1, l2, l3, l4, .int x] (.int x :: st) h := Rr_nx d_MGo_backTick_59 rfl
theorem r_MGo_backTick_61 {x : Int32} : Rr X d MGo_backTick 61 L (.int x :: st) h = if x = 0 then Rr X d MGo_backTick 69 L st h else Rr X d MGo_backTick 64 L st h := R_if_eq d_MGo_backTick_61 (by decide)
theorem r_MGo_backTick_64 {l0 l1 l2 l3 l4 : Value} {x : Int32} : Rr X d MGo_backTick 64 [l0, l1, l2, l3, l4, .int x] st h = Rr X d MGo_backTick 66 [l0, l1, l2, l3, l4, .int x] (.int x :: st) h := Rr_nx d_MGo_backTick_64 rfl
theorem r_MGo_backTick_66 : Rr X d MGo_backTick 66 L st h = Rr X d MGo_backTick 70 L st h := R_goto d_MGo_backTick_66 (by decide)
theorem r_MGo_backTick_69 {l0 l1 l2 l4 l5 : Value} {x : Int32} : Rr X d MGo_backTick 69 [l0, l1, l2, .int x, l4, l5] st h = Rr X d MGo_backTick 70 [l0, l1, l2, .int x, l4, l5] (.int x :: st) h := Rr_nx d_MGo_backTick_69 rfl
theorem r_MGo_backTick_70 {l0 l1 l2 l3 l4 l5 : Value} {x : Int32} : Rr X d MGo_backTick 70 [l0, l1, l2, l3, l4, l5] (.int x :: st) h = Rr X d MGo_backTick 71 (sL [l0, l1, l2, l3, l4, l5] 3 (.int x)) st h := Rr_nx d_MGo_backTick_70 rfl
theorem r_MGo_backTick_71 {l0 l1 l2 l3 l5 : Value} {x : Int32} : Rr X d MGo_backTick 71 [l0, l1, l2, l3, .int x, l5] st h = Rr X d MGo_backTick 74 (sL [l0, l1, l2, l3, .int x, l5] 4 (.int (x + (1)))) st h := Rr_nx d_MGo_backTick_71 rfl
theorem r_MGo_backTick_74 : Rr X d MGo_backTick 74 L st h = Rr X d MGo_backTick 7 L st h := R_goto d_MGo_backTick_74 (by decide)
theorem r_MGo_backTick_77 : Rr X d MGo_backTick 77 L st h = Rr X d MGo_backTick 78 L (.int (-1) :: st) h := Rr_nx d_MGo_backTick_77 rfl
theorem r_MGo_backTick_78 {x : Int32} : Rr X d MGo_backTick 78 L [.int x] h = some (some (.int x), h) := R_ir d_MGo_backTick_78 rfl
theorem d_MGo_ended_0 : decode MGo_ended.2.2.1 0 = .ok (.iconst 0, 1) := lkT_ok tk_MGo_ended rfl
theorem d_MGo_ended_1 : decode MGo_ended.2.2.1 1 = .ok (.istore_n 1, 1) := lkT_ok tk_MGo_ended rfl
theorem d_MGo_ended_2 : decode MGo_ended.2.2.1 2 = .ok (.iload_n 1, 1) := lkT_ok tk_MGo_ended rfl
theorem d_MGo_ended_3 : decode MGo_ended.2.2.1 3 = .ok (.aload_n 0, 1) := lkT_ok tk_MGo_ended rfl
theorem d_MGo_ended_4 : decode MGo_ended.2.2.1 4 = .ok (.getfield 21, 3) := lkT_ok tk_MGo_ended rfl
theorem d_MGo_ended_7 : decode MGo_ended.2.2.1 7 = .ok (.if_icmp .gt 45, 3) := lkT_ok tk_MGo_ended rfl
theorem d_MGo_ended_10 : decode MGo_ended.2.2.1 10 = .ok (.iload_n 1, 1) := lkT_ok tk_MGo_ended rfl
theorem d_MGo_ended_11 : decode MGo_ended.2.2.1 11 = .ok (.sipush 400, 3) := lkT_ok tk_MGo_ended rfl
theorem d_MGo_ended_14 : decode MGo_ended.2.2.1 14 = .ok (.if_icmp .gt 38, 3) := lkT_ok tk_MGo_ended rfl
theorem d_MGo_ended_17 : decode MGo_ended.2.2.1 17 = .ok (.aload_n 0, 1) := lkT_ok tk_MGo_ended rfl
theorem d_MGo_ended_18 : decode MGo_ended.2.2.1 18 = .ok (.getfield 9, 3) := lkT_ok tk_MGo_ended rfl
theorem d_MGo_ended_21 : decode MGo_ended.2.2.1 21 = .ok (.iload_n 1, 1) := lkT_ok tk_MGo_ended rfl
theorem d_MGo_ended_22 : decode MGo_ended.2.2.1 22 = .ok (.iaload, 1) := lkT_ok tk_MGo_ended rfl
theorem d_MGo_ended_23 : decode MGo_ended.2.2.1 23 = .ok (.ifCond .ne 23, 3) := lkT_ok tk_MGo_ended rfl
theorem d_MGo_ended_26 : decode MGo_ended.2.2.1 26 = .ok (.aload_n 0, 1) := lkT_ok tk_MGo_ended rfl
theorem d_MGo_ended_27 : decode MGo_ended.2.2.1 27 = .ok (.getfield 15, 3) := lkT_ok tk_MGo_ended rfl
theorem d_MGo_ended_30 : decode MGo_ended.2.2.1 30 = .ok (.iload_n 1, 1) := lkT_ok tk_MGo_ended rfl
theorem d_MGo_ended_31 : decode MGo_ended.2.2.1 31 = .ok (.iaload, 1) := lkT_ok tk_MGo_ended rfl
theorem d_MGo_ended_32 : decode MGo_ended.2.2.1 32 = .ok (.ifCond .ne 14, 3) := lkT_ok tk_MGo_ended rfl
theorem d_MGo_ended_35 : decode MGo_ended.2.2.1 35 = .ok (.aload_n 0, 1) := lkT_ok tk_MGo_ended rfl
theorem d_MGo_ended_36 : decode MGo_ended.2.2.1 36 = .ok (.getfield 18, 3) := lkT_ok tk_MGo_ended rfl
theorem d_MGo_ended_39 : decode MGo_ended.2.2.1 39 = .ok (.iload_n 1, 1) := lkT_ok tk_MGo_ended rfl
theorem d_MGo_ended_40 : decode MGo_ended.2.2.1 40 = .ok (.iaload, 1) := lkT_ok tk_MGo_ended rfl
theorem d_MGo_ended_41 : decode MGo_ended.2.2.1 41 = .ok (.ifCond .ne 5, 3) := lkT_ok tk_MGo_ended rfl
theorem d_MGo_ended_44 : decode MGo_ended.2.2.1 44 = .ok (.iload_n 1, 1) := lkT_ok tk_MGo_ended rfl
theorem d_MGo_ended_45 : decode MGo_ended.2.2.1 45 = .ok (.ireturn, 1) := lkT_ok tk_MGo_ended rfl
theorem d_MGo_ended_46 : decode MGo_ended.2.2.1 46 = .ok (.iinc 1 1, 3) := lkT_ok tk_MGo_ended rfl
theorem d_MGo_ended_49 : decode MGo_ended.2.2.1 49 = .ok (.goto (-47), 3) := lkT_ok tk_MGo_ended rfl
theorem d_MGo_ended_52 : decode MGo_ended.2.2.1 52 = .ok (.bipush (-2), 2) := lkT_ok tk_MGo_ended rfl
theorem d_MGo_ended_54 : decode MGo_ended.2.2.1 54 = .ok (.ireturn, 1) := lkT_ok tk_MGo_ended rfl
theorem r_MGo_ended_0 : Rr X d MGo_ended 0 L st h = Rr X d MGo_ended 1 L (.int (0) :: st) h := Rr_nx d_MGo_ended_0 rfl
theorem r_MGo_ended_1 {l0 l1 : Value} {x : Int32} : Rr X d MGo_ended 1 [l0, l1] (.int x :: st) h = Rr X d MGo_ended 2 (sL [l0, l1] 1 (.int x)) st h := Rr_nx d_MGo_ended_1 rfl
theorem r_MGo_ended_2 {l0 : Value} {x : Int32} : Rr X d MGo_ended 2 [l0, .int x] st h = Rr X d MGo_ended 3 [l0, .int x] (.int x :: st) h := Rr_nx d_MGo_ended_2 rfl
theorem r_MGo_ended_3 {l1 : Value} {x : Nat} : Rr X d MGo_ended 3 [.ref x, l1] st h = Rr X d MGo_ended 4 [.ref x, l1] (.ref x :: st) h := Rr_nx d_MGo_ended_3 rfl
theorem r_MGo_ended_4 {a : Nat} (hq : qI a 4 3 = true) : Rr X d MGo_ended 4 L (.ref a :: st) (Wd mu la ro et) = Rr X d MGo_ended 7 L (.int (mu a 3) :: st) (Wd mu la ro et) := R_gfI d_MGo_ended_4 ff_4_21 hq
theorem r_MGo_ended_7 {x y : Int32} : Rr X d MGo_ended 7 L (.int y :: .int x :: st) h = if y < x then Rr X d MGo_ended 52 L st h else Rr X d MGo_ended 10 L st h := R_ic_gt d_MGo_ended_7 (by decide)
theorem r_MGo_ended_10 {l0 : Value} {x : Int32} : Rr X d MGo_ended 10 [l0, .int x] st h = Rr X d MGo_ended 11 [l0, .int x] (.int x :: st) h := Rr_nx d_MGo_ended_10 rfl
theorem r_MGo_ended_11 : Rr X d MGo_ended 11 L st h = Rr X d MGo_ended 14 L (.int (400) :: st) h := Rr_nx d_MGo_ended_11 rfl
theorem r_MGo_ended_14 {x y : Int32} : Rr X d MGo_ended 14 L (.int y :: .int x :: st) h = if y < x then Rr X d MGo_ended 52 L st h else Rr X d MGo_ended 17 L st h := R_ic_gt d_MGo_ended_14 (by decide)
theorem r_MGo_ended_17 {l1 : Value} {x : Nat} : Rr X d MGo_ended 17 [.ref x, l1] st h = Rr X d MGo_ended 18 [.ref x, l1] (.ref x :: st) h := Rr_nx d_MGo_ended_17 rfl
theorem r_MGo_ended_18 {a : Nat} (hq : (qR a 4 0).isSome = true) : Rr X d MGo_ended 18 L (.ref a :: st) (Wd mu la ro et) = Rr X d MGo_ended 21 L (.ref (qRd a 4 0) :: st) (Wd mu la ro et) := R_gfR d_MGo_ended_18 ff_4_9 hq
theorem r_MGo_ended_21 {l0 : Value} {x : Int32} : Rr X d MGo_ended 21 [l0, .int x] st h = Rr X d MGo_ended 22 [l0, .int x] (.int x :: st) h := Rr_nx d_MGo_ended_21 rfl
theorem r_MGo_ended_22 {a : Nat} {j : Int32} (hq : (qA a 0).isSome = true) : Rr X d MGo_ended 22 L (.int j :: .ref a :: st) (Wd mu la ro et) = if j < 0 ∨ qAd a 0 ≤ j.toNatClampNeg then none else Rr X d MGo_ended 23 L (.int (mu a j.toNatClampNeg) :: st) (Wd mu la ro et) := R_ialW d_MGo_ended_22 hq
theorem r_MGo_ended_23 {x : Int32} : Rr X d MGo_ended 23 L (.int x :: st) h = if ¬ x = 0 then Rr X d MGo_ended 46 L st h else Rr X d MGo_ended 26 L st h := R_if_ne d_MGo_ended_23 (by decide)
theorem r_MGo_ended_26 {l1 : Value} {x : Nat} : Rr X d MGo_ended 26 [.ref x, l1] st h = Rr X d MGo_ended 27 [.ref x, l1] (.ref x :: st) h := Rr_nx d_MGo_ended_26 rfl
theorem r_MGo_ended_27 {a : Nat} (hq : (qR a 4 1).isSome = true) : Rr X d MGo_ended 27 L (.ref a :: st) (Wd mu la ro et) = Rr X d MGo_ended 30 L (.ref (qRd a 4 1) :: st) (Wd mu la ro et) := R_gfR d_MGo_ended_27 ff_4_15 hq
theorem r_MGo_ended_30 {l0 : Value} {x : Int32} : Rr X d MGo_ended 30 [l0, .int x] st h = Rr X d MGo_ended 31 [l0, .int x] (.int x :: st) h := Rr_nx d_MGo_ended_30 rfl
theorem r_MGo_ended_31 {a : Nat} {j : Int32} (hq : (qA a 0).isSome = true) : Rr X d MGo_ended 31 L (.int j :: .ref a :: st) (Wd mu la ro et) = if j < 0 ∨ qAd a 0 ≤ j.toNatClampNeg then none else Rr X d MGo_ended 32 L (.int (mu a j.toNatClampNeg) :: st) (Wd mu la ro et) := R_ialW d_MGo_ended_31 hq
theorem r_MGo_ended_32 {x : Int32} : Rr X d MGo_ended 32 L (.int x :: st) h = if ¬ x = 0 then Rr X d MGo_ended 46 L st h else Rr X d MGo_ended 35 L st h := R_if_ne d_MGo_ended_32 (by decide)
theorem r_MGo_ended_35 {l1 : Value} {x : Nat} : Rr X d MGo_ended 35 [.ref x, l1] st h = Rr X d MGo_ended 36 [.ref x, l1] (.ref x :: st) h := Rr_nx d_MGo_ended_35 rfl
theorem r_MGo_ended_36 {a : Nat} (hq : (qR a 4 2).isSome = true) : Rr X d MGo_ended 36 L (.ref a :: st) (Wd mu la ro et) = Rr X d MGo_ended 39 L (.ref (qRd a 4 2) :: st) (Wd mu la ro et) := R_gfR d_MGo_ended_36 ff_4_18 hq
theorem r_MGo_ended_39 {l0 : Value} {x : Int32} : Rr X d MGo_ended 39 [l0, .int x] st h = Rr X d MGo_ended 40 [l0, .int x] (.int x :: st) h := Rr_nx d_MGo_ended_39 rfl
theorem r_MGo_ended_40 {a : Nat} {j : Int32} (hq : (qA a 0).isSome = true) : Rr X d MGo_ended 40 L (.int j :: .ref a :: st) (Wd mu la ro et) = if j < 0 ∨ qAd a 0 ≤ j.toNatClampNeg then none else Rr X d MGo_ended 41 L (.int (mu a j.toNatClampNeg) :: st) (Wd mu la ro et) := R_ialW d_MGo_ended_40 hq
theorem r_MGo_ended_41 {x : Int32} : Rr X d MGo_ended 41 L (.int x :: st) h = if ¬ x = 0 then Rr X d MGo_ended 46 L st h else Rr X d MGo_ended 44 L st h := R_if_ne d_MGo_ended_41 (by decide)
theorem r_MGo_ended_44 {l0 : Value} {x : Int32} : Rr X d MGo_ended 44 [l0, .int x] st h = Rr X d MGo_ended 45 [l0, .int x] (.int x :: st) h := Rr_nx d_MGo_ended_44 rfl
theorem r_MGo_ended_45 {x : Int32} : Rr X d MGo_ended 45 L [.int x] h = some (some (.int x), h) := R_ir d_MGo_ended_45 rfl
theorem r_MGo_ended_46 {l0 : Value} {x : Int32} : Rr X d MGo_ended 46 [l0, .int x] st h = Rr X d MGo_ended 49 (sL [l0, .int x] 1 (.int (x + (1)))) st h := Rr_nx d_MGo_ended_46 rfl
theorem r_MGo_ended_49 : Rr X d MGo_ended 49 L st h = Rr X d MGo_ended 2 L st h := R_goto d_MGo_ended_49 (by decide)
theorem r_MGo_ended_52 : Rr X d MGo_ended 52 L st h = Rr X d MGo_ended 54 L (.int (-2) :: st) h := Rr_nx d_MGo_ended_52 rfl
theorem r_MGo_ended_54 {x : Int32} : Rr X d MGo_ended 54 L [.int x] h = some (some (.int x), h) := R_ir d_MGo_ended_54 rfl
theorem d_MGo_summary_0 : decode MGo_summary.2.2.1 0 = .ok (.iload_n 1, 1) := lkT_ok tk_MGo_summary rfl
theorem d_MGo_summary_1 : decode MGo_summary.2.2.1 1 = .ok (.tableswitch 60 0 4 #[35, 40, 45, 50, 55], 35) := lkT_ok tk_MGo_summary rfl
theorem d_MGo_summary_36 : decode MGo_summary.2.2.1 36 = .ok (.aload_n 0, 1) := lkT_ok tk_MGo_summary rfl
theorem d_MGo_summary_37 : decode MGo_summary.2.2.1 37 = .ok (.invokevirtual 70, 3) := lkT_ok tk_MGo_summary rfl
theorem d_MGo_summary_40 : decode MGo_summary.2.2.1 40 = .ok (.ireturn, 1) := lkT_ok tk_MGo_summary rfl
theorem d_MGo_summary_41 : decode MGo_summary.2.2.1 41 = .ok (.aload_n 0, 1) := lkT_ok tk_MGo_summary rfl
theorem d_MGo_summary_42 : decode MGo_summary.2.2.1 42 = .ok (.getfield 41, 3) := lkT_ok tk_MGo_summary rfl
theorem d_MGo_summary_45 : decode MGo_summary.2.2.1 45 = .ok (.ireturn, 1) := lkT_ok tk_MGo_summary rfl
theorem d_MGo_summary_46 : decode MGo_summary.2.2.1 46 = .ok (.aload_n 0, 1) := lkT_ok tk_MGo_summary rfl
theorem d_MGo_summary_47 : decode MGo_summary.2.2.1 47 = .ok (.getfield 45, 3) := lkT_ok tk_MGo_summary rfl
theorem d_MGo_summary_50 : decode MGo_summary.2.2.1 50 = .ok (.ireturn, 1) := lkT_ok tk_MGo_summary rfl
theorem d_MGo_summary_51 : decode MGo_summary.2.2.1 51 = .ok (.aload_n 0, 1) := lkT_ok tk_MGo_summary rfl
theorem d_MGo_summary_52 : decode MGo_summary.2.2.1 52 = .ok (.getfield 49, 3) := lkT_ok tk_MGo_summary rfl
theorem d_MGo_summary_55 : decode MGo_summary.2.2.1 55 = .ok (.ireturn, 1) := lkT_ok tk_MGo_summary rfl
theorem d_MGo_summary_56 : decode MGo_summary.2.2.1 56 = .ok (.aload_n 0, 1) := lkT_ok tk_MGo_summary rfl
theorem d_MGo_summary_57 : decode MGo_summary.2.2.1 57 = .ok (.getfield 53, 3) := lkT_ok tk_MGo_summary rfl
theorem d_MGo_summary_60 : decode MGo_summary.2.2.1 60 = .ok (.ireturn, 1) := lkT_ok tk_MGo_summary rfl
theorem d_MGo_summary_61 : decode MGo_summary.2.2.1 61 = .ok (.ldc 63, 2) := lkT_ok tk_MGo_summary rfl
theorem d_MGo_summary_63 : decode MGo_summary.2.2.1 63 = .ok (.ireturn, 1) := lkT_ok tk_MGo_summary rfl
theorem r_MGo_summary_0 {l0 : Value} {x : Int32} : Rr X d MGo_summary 0 [l0, .int x] st h = Rr X d MGo_summary 1 [l0, .int x] (.int x :: st) h := Rr_nx d_MGo_summary_0 rfl
theorem r_MGo_summary_1_0 : Rr X d MGo_summary 1 L (.int (0) :: st) h = Rr X d MGo_summary 36 L st h := R_tab (off := 35) d_MGo_summary_1 (by decide) (by decide) (by decide)
theorem r_MGo_summary_1_1 : Rr X d MGo_summary 1 L (.int (1) :: st) h = Rr X d MGo_summary 41 L st h := R_tab (off := 40) d_MGo_summary_1 (by decide) (by decide) (by decide)
theorem r_MGo_summary_1_2 : Rr X d MGo_summary 1 L (.int (2) :: st) h = Rr X d MGo_summary 46 L st h := R_tab (off := 45) d_MGo_summary_1 (by decide) (by decide) (by decide)
theorem r_MGo_summary_1_3 : Rr X d MGo_summary 1 L (.int (3) :: st) h = Rr X d MGo_summary 51 L st h := R_tab (off := 50) d_MGo_summary_1 (by decide) (by decide) (by decide)
theorem r_MGo_summary_1_4 : Rr X d MGo_summary 1 L (.int (4) :: st) h = Rr X d MGo_summary 56 L st h := R_tab (off := 55) d_MGo_summary_1 (by decide) (by decide) (by decide)
theorem r_MGo_summary_1D {x : Int32} (hx : x.toInt < 0 ∨ 4 < x.toInt) : Rr X d MGo_summary 1 L (.int x :: st) h = Rr X d MGo_summary 61 L st h := R_tabD d_MGo_summary_1 hx (by decide)
theorem r_MGo_summary_36 {l1 : Value} {x : Nat} : Rr X d MGo_summary 36 [.ref x, l1] st h = Rr X d MGo_summary 37 [.ref x, l1] (.ref x :: st) h := Rr_nx d_MGo_summary_36 rfl
theorem fc_4_70 : fC 4 70 = some (0, 4, 0, MGo_ended) := rfl
theorem r_MGo_summary_37 {a : Nat} (hO : qO a 4 = true) (hc : ckS st = true) : Rr X (d + 1) MGo_summary 37 L (.ref a :: st) (Wd mu la ro et) = (Rr X d MGo_ended 0 [.ref a, mkU] [] (Wd mu la ro et)).bind fun q => Rr X (d + 1) MGo_summary 40 L (psh q.1 st) q.2 := R_iv (av := []) d_MGo_summary_37 fc_4_70 hO (ckS_le hc) rfl (Nat.le_of_ble_eq_true rfl) (Nat.le_of_ble_eq_true rfl)
theorem r_MGo_summary_40 {x : Int32} : Rr X d MGo_summary 40 L [.int x] h = some (some (.int x), h) := R_ir d_MGo_summary_40 rfl
theorem r_MGo_summary_41 {l1 : Value} {x : Nat} : Rr X d MGo_summary 41 [.ref x, l1] st h = Rr X d MGo_summary 42 [.ref x, l1] (.ref x :: st) h := Rr_nx d_MGo_summary_41 rfl
theorem r_MGo_summary_42 {a : Nat} (hq : qI a 4 5 = true) : Rr X d MGo_summary 42 L (.ref a :: st) (Wd mu la ro et) = Rr X d MGo_summary 45 L (.int (mu a 5) :: st) (Wd mu la ro et) := R_gfI d_MGo_summary_42 ff_4_41 hq
theorem r_MGo_summary_45 {x : Int32} : Rr X d MGo_summary 45 L [.int x] h = some (some (.int x), h) := R_ir d_MGo_summary_45 rfl
theorem r_MGo_summary_46 {l1 : Value} {x : Nat} : Rr X d MGo_summary 46 [.ref x, l1] st h = Rr X d MGo_summary 47 [.ref x, l1] (.ref x :: st) h := Rr_nx d_MGo_summary_46 rfl
theorem r_MGo_summary_47 {a : Nat} (hq : qI a 4 6 = true) : Rr X d MGo_summary 47 L (.ref a :: st) (Wd mu la ro et) = Rr X d MGo_summary 50 L (.int (mu a 6) :: st) (Wd mu la ro et) := R_gfI d_MGo_summary_47 ff_4_45 hq
theorem r_MGo_summary_50 {x : Int32} : Rr X d MGo_summary 50 L [.int x] h = some (some (.int x), h) := R_ir d_MGo_summary_50 rfl
theorem r_MGo_summary_51 {l1 : Value} {x : Nat} : Rr X d MGo_summary 51 [.ref x, l1] st h = Rr X d MGo_summary 52 [.ref x, l1] (.ref x :: st) h := Rr_nx d_MGo_summary_51 rfl
theorem r_MGo_summary_52 {a : Nat} (hq : qI a 4 7 = true) : Rr X d MGo_summary 52 L (.ref a :: st) (Wd mu la ro et) = Rr X d MGo_summary 55 L (.int (mu a 7) :: st) (Wd mu la ro et) := R_gfI d_MGo_summary_52 ff_4_49 hq
theorem r_MGo_summary_55 {x : Int32} : Rr X d MGo_summary 55 L [.int x] h = some (some (.int x), h) := R_ir d_MGo_summary_55 rfl
theorem r_MGo_summary_56 {l1 : Value} {x : Nat} : Rr X d MGo_summary 56 [.ref x, l1] st h = Rr X d MGo_summary 57 [.ref x, l1] (.ref x :: st) h := Rr_nx d_MGo_summary_56 rfl
theorem r_MGo_summary_57 {a : Nat} (hq : qI a 4 8 = true) : Rr X d MGo_summary 57 L (.ref a :: st) (Wd mu la ro et) = Rr X d MGo_summary 60 L (.int (mu a 8) :: st) (Wd mu la ro et) := R_gfI d_MGo_summary_57 ff_4_53 hq
theorem r_MGo_summary_60 {x : Int32} : Rr X d MGo_summary 60 L [.int x] h = some (some (.int x), h) := R_ir d_MGo_summary_60 rfl
theorem r_MGo_summary_61 : Rr X d MGo_summary 61 L st h = Rr X d MGo_summary 63 L (.int (-2000000000) :: st) h := Rr_nx d_MGo_summary_61 rfl
theorem r_MGo_summary_63 {x : Int32} : Rr X d MGo_summary 63 L [.int x] h = some (some (.int x), h) := R_ir d_MGo_summary_63 rfl
theorem d_MGo_at_0 : decode MGo_at.2.2.1 0 = .ok (.iload_n 1, 1) := lkT_ok tk_MGo_at rfl
theorem d_MGo_at_1 : decode MGo_at.2.2.1 1 = .ok (.ifCond .lt 10, 3) := lkT_ok tk_MGo_at rfl
theorem d_MGo_at_4 : decode MGo_at.2.2.1 4 = .ok (.iload_n 1, 1) := lkT_ok tk_MGo_at rfl
theorem d_MGo_at_5 : decode MGo_at.2.2.1 5 = .ok (.sipush 400, 3) := lkT_ok tk_MGo_at rfl
theorem d_MGo_at_8 : decode MGo_at.2.2.1 8 = .ok (.if_icmp .le 6, 3) := lkT_ok tk_MGo_at rfl
theorem d_MGo_at_11 : decode MGo_at.2.2.1 11 = .ok (.ldc 63, 2) := lkT_ok tk_MGo_at rfl
theorem d_MGo_at_13 : decode MGo_at.2.2.1 13 = .ok (.ireturn, 1) := lkT_ok tk_MGo_at rfl
theorem d_MGo_at_14 : decode MGo_at.2.2.1 14 = .ok (.iload_n 2, 1) := lkT_ok tk_MGo_at rfl
theorem d_MGo_at_15 : decode MGo_at.2.2.1 15 = .ok (.ifCond .ne 12, 3) := lkT_ok tk_MGo_at rfl
theorem d_MGo_at_18 : decode MGo_at.2.2.1 18 = .ok (.aload_n 0, 1) := lkT_ok tk_MGo_at rfl
theorem d_MGo_at_19 : decode MGo_at.2.2.1 19 = .ok (.getfield 9, 3) := lkT_ok tk_MGo_at rfl
theorem d_MGo_at_22 : decode MGo_at.2.2.1 22 = .ok (.iload_n 1, 1) := lkT_ok tk_MGo_at rfl
theorem d_MGo_at_23 : decode MGo_at.2.2.1 23 = .ok (.iaload, 1) := lkT_ok tk_MGo_at rfl
theorem d_MGo_at_24 : decode MGo_at.2.2.1 24 = .ok (.goto 23, 3) := lkT_ok tk_MGo_at rfl
theorem d_MGo_at_27 : decode MGo_at.2.2.1 27 = .ok (.iload_n 2, 1) := lkT_ok tk_MGo_at rfl
theorem d_MGo_at_28 : decode MGo_at.2.2.1 28 = .ok (.iconst 1, 1) := lkT_ok tk_MGo_at rfl
theorem d_MGo_at_29 : decode MGo_at.2.2.1 29 = .ok (.if_icmp .ne 12, 3) := lkT_ok tk_MGo_at rfl
theorem d_MGo_at_32 : decode MGo_at.2.2.1 32 = .ok (.aload_n 0, 1) := lkT_ok tk_MGo_at rfl
theorem d_MGo_at_33 : decode MGo_at.2.2.1 33 = .ok (.getfield 15, 3) := lkT_ok tk_MGo_at rfl
theorem d_MGo_at_36 : decode MGo_at.2.2.1 36 = .ok (.iload_n 1, 1) := lkT_ok tk_MGo_at rfl
theorem d_MGo_at_37 : decode MGo_at.2.2.1 37 = .ok (.iaload, 1) := lkT_ok tk_MGo_at rfl
theorem d_MGo_at_38 : decode MGo_at.2.2.1 38 = .ok (.goto 9, 3) := lkT_ok tk_MGo_at rfl
theorem d_MGo_at_41 : decode MGo_at.2.2.1 41 = .ok (.aload_n 0, 1) := lkT_ok tk_MGo_at rfl
theorem d_MGo_at_42 : decode MGo_at.2.2.1 42 = .ok (.getfield 18, 3) := lkT_ok tk_MGo_at rfl
theorem d_MGo_at_45 : decode MGo_at.2.2.1 45 = .ok (.iload_n 1, 1) := lkT_ok tk_MGo_at rfl
theorem d_MGo_at_46 : decode MGo_at.2.2.1 46 = .ok (.iaload, 1) := lkT_ok tk_MGo_at rfl
theorem d_MGo_at_47 : decode MGo_at.2.2.1 47 = .ok (.ireturn, 1) := lkT_ok tk_MGo_at rfl
theorem r_MGo_at_0 {l0 l2 : Value} {x : Int32} : Rr X d MGo_at 0 [l0, .int x, l2] st h = Rr X d MGo_at 1 [l0, .int x, l2] (.int x :: st) h := Rr_nx d_MGo_at_0 rfl
theorem r_MGo_at_1 {x : Int32} : Rr X d MGo_at 1 L (.int x :: st) h = if x < 0 then Rr X d MGo_at 11 L st h else Rr X d MGo_at 4 L st h := R_if_lt d_MGo_at_1 (by decide)
theorem r_MGo_at_4 {l0 l2 : Value} {x : Int32} : Rr X d MGo_at 4 [l0, .int x, l2] st h = Rr X d MGo_at 5 [l0, .int x, l2] (.int x :: st) h := Rr_nx d_MGo_at_4 rfl
theorem r_MGo_at_5 : Rr X d MGo_at 5 L st h = Rr X d MGo_at 8 L (.int (400) :: st) h := Rr_nx d_MGo_at_5 rfl
theorem r_MGo_at_8 {x y : Int32} : Rr X d MGo_at 8 L (.int y :: .int x :: st) h = if x ≤ y then Rr X d MGo_at 14 L st h else Rr X d MGo_at 11 L st h := R_ic_le d_MGo_at_8 (by decide)
theorem r_MGo_at_11 : Rr X d MGo_at 11 L st h = Rr X d MGo_at 13 L (.int (-2000000000) :: st) h := Rr_nx d_MGo_at_11 rfl
theorem r_MGo_at_13 {x : Int32} : Rr X d MGo_at 13 L [.int x] h = some (some (.int x), h) := R_ir d_MGo_at_13 rfl
theorem r_MGo_at_14 {l0 l1 : Value} {x : Int32} : Rr X d MGo_at 14 [l0, l1, .int x] st h = Rr X d MGo_at 15 [l0, l1, .int x] (.int x :: st) h := Rr_nx d_MGo_at_14 rfl
theorem r_MGo_at_15 {x : Int32} : Rr X d MGo_at 15 L (.int x :: st) h = if ¬ x = 0 then Rr X d MGo_at 27 L st h else Rr X d MGo_at 18 L st h := R_if_ne d_MGo_at_15 (by decide)
theorem r_MGo_at_18 {l1 l2 : Value} {x : Nat} : Rr X d MGo_at 18 [.ref x, l1, l2] st h = Rr X d MGo_at 19 [.ref x, l1, l2] (.ref x :: st) h := Rr_nx d_MGo_at_18 rfl
theorem r_MGo_at_19 {a : Nat} (hq : (qR a 4 0).isSome = true) : Rr X d MGo_at 19 L (.ref a :: st) (Wd mu la ro et) = Rr X d MGo_at 22 L (.ref (qRd a 4 0) :: st) (Wd mu la ro et) := R_gfR d_MGo_at_19 ff_4_9 hq
theorem r_MGo_at_22 {l0 l2 : Value} {x : Int32} : Rr X d MGo_at 22 [l0, .int x, l2] st h = Rr X d MGo_at 23 [l0, .int x, l2] (.int x :: st) h := Rr_nx d_MGo_at_22 rfl
theorem r_MGo_at_23 {a : Nat} {j : Int32} (hq : (qA a 0).isSome = true) : Rr X d MGo_at 23 L (.int j :: .ref a :: st) (Wd mu la ro et) = if j < 0 ∨ qAd a 0 ≤ j.toNatClampNeg then none else Rr X d MGo_at 24 L (.int (mu a j.toNatClampNeg) :: st) (Wd mu la ro et) := R_ialW d_MGo_at_23 hq
theorem r_MGo_at_24 : Rr X d MGo_at 24 L st h = Rr X d MGo_at 47 L st h := R_goto d_MGo_at_24 (by decide)
theorem r_MGo_at_27 {l0 l1 : Value} {x : Int32} : Rr X d MGo_at 27 [l0, l1, .int x] st h = Rr X d MGo_at 28 [l0, l1, .int x] (.int x :: st) h := Rr_nx d_MGo_at_27 rfl
theorem r_MGo_at_28 : Rr X d MGo_at 28 L st h = Rr X d MGo_at 29 L (.int (1) :: st) h := Rr_nx d_MGo_at_28 rfl
theorem r_MGo_at_29 {x y : Int32} : Rr X d MGo_at 29 L (.int y :: .int x :: st) h = if ¬ x = y then Rr X d MGo_at 41 L st h else Rr X d MGo_at 32 L st h := R_ic_ne d_MGo_at_29 (by decide)
theorem r_MGo_at_32 {l1 l2 : Value} {x : Nat} : Rr X d MGo_at 32 [.ref x, l1, l2] st h = Rr X d MGo_at 33 [.ref x, l1, l2] (.ref x :: st) h := Rr_nx d_MGo_at_32 rfl
theorem r_MGo_at_33 {a : Nat} (hq : (qR a 4 1).isSome = true) : Rr X d MGo_at 33 L (.ref a :: st) (Wd mu la ro et) = Rr X d MGo_at 36 L (.ref (qRd a 4 1) :: st) (Wd mu la ro et) := R_gfR d_MGo_at_33 ff_4_15 hq
theorem r_MGo_at_36 {l0 l2 : Value} {x : Int32} : Rr X d MGo_at 36 [l0, .int x, l2] st h = Rr X d MGo_at 37 [l0, .int x, l2] (.int x :: st) h := Rr_nx d_MGo_at_36 rfl
theorem r_MGo_at_37 {a : Nat} {j : Int32} (hq : (qA a 0).isSome = true) : Rr X d MGo_at 37 L (.int j :: .ref a :: st) (Wd mu la ro et) = if j < 0 ∨ qAd a 0 ≤ j.toNatClampNeg then none else Rr X d MGo_at 38 L (.int (mu a j.toNatClampNeg) :: st) (Wd mu la ro et) := R_ialW d_MGo_at_37 hq
theorem r_MGo_at_38 : Rr X d MGo_at 38 L st h = Rr X d MGo_at 47 L st h := R_goto d_MGo_at_38 (by decide)
theorem r_MGo_at_41 {l1 l2 : Value} {x : Nat} : Rr X d MGo_at 41 [.ref x, l1, l2] st h = Rr X d MGo_at 42 [.ref x, l1, l2] (.ref x :: st) h := Rr_nx d_MGo_at_41 rfl
theorem r_MGo_at_42 {a : Nat} (hq : (qR a 4 2).isSome = true) : Rr X d MGo_at 42 L (.ref a :: st) (Wd mu la ro et) = Rr X d MGo_at 45 L (.ref (qRd a 4 2) :: st) (Wd mu la ro et) := R_gfR d_MGo_at_42 ff_4_18 hq
theorem r_MGo_at_45 {l0 l2 : Value} {x : Int32} : Rr X d MGo_at 45 [l0, .int x, l2] st h = Rr X d MGo_at 46 [l0, .int x, l2] (.int x :: st) h := Rr_nx d_MGo_at_45 rfl
theorem r_MGo_at_46 {a : Nat} {j : Int32} (hq : (qA a 0).isSome = true) : Rr X d MGo_at 46 L (.int j :: .ref a :: st) (Wd mu la ro et) = if j < 0 ∨ qAd a 0 ≤ j.toNatClampNeg then none else Rr X d MGo_at 47 L (.int (mu a j.toNatClampNeg) :: st) (Wd mu la ro et) := R_ialW d_MGo_at_46 hq
theorem r_MGo_at_47 {x : Int32} : Rr X d MGo_at 47 L [.int x] h = some (some (.int x), h) := R_ir d_MGo_at_47 rfl
theorem d_MGo_isThere_0 : decode MGo_isThere.2.2.1 0 = .ok (.aload_n 0, 1) := lkT_ok tk_MGo_isThere rfl
theorem d_MGo_isThere_1 : decode MGo_isThere.2.2.1 1 = .ok (.getfield 21, 3) := lkT_ok tk_MGo_isThere rfl
theorem d_MGo_isThere_4 : decode MGo_isThere.2.2.1 4 = .ok (.ifCond .lt 7, 3) := lkT_ok tk_MGo_isThere rfl
theorem d_MGo_isThere_7 : decode MGo_isThere.2.2.1 7 = .ok (.iconst 1, 1) := lkT_ok tk_MGo_isThere rfl
theorem d_MGo_isThere_8 : decode MGo_isThere.2.2.1 8 = .ok (.goto 4, 3) := lkT_ok tk_MGo_isThere rfl
theorem d_MGo_isThere_11 : decode MGo_isThere.2.2.1 11 = .ok (.iconst 0, 1) := lkT_ok tk_MGo_isThere rfl
theorem d_MGo_isThere_12 : decode MGo_isThere.2.2.1 12 = .ok (.ireturn, 1) := lkT_ok tk_MGo_isThere rfl
theorem r_MGo_isThere_0 {x : Nat} : Rr X d MGo_isThere 0 [.ref x] st h = Rr X d MGo_isThere 1 [.ref x] (.ref x :: st) h := Rr_nx d_MGo_isThere_0 rfl
theorem r_MGo_isThere_1 {a : Nat} (hq : qI a 4 3 = true) : Rr X d MGo_isThere 1 L (.ref a :: st) (Wd mu la ro et) = Rr X d MGo_isThere 4 L (.int (mu a 3) :: st) (Wd mu la ro et) := R_gfI d_MGo_isThere_1 ff_4_21 hq
theorem r_MGo_isThere_4 {x : Int32} : Rr X d MGo_isThere 4 L (.int x :: st) h = if x < 0 then Rr X d MGo_isThere 11 L st h else Rr X d MGo_isThere 7 L st h := R_if_lt d_MGo_isThere_4 (by decide)
theorem r_MGo_isThere_7 : Rr X d MGo_isThere 7 L st h = Rr X d MGo_isThere 8 L (.int (1) :: st) h := Rr_nx d_MGo_isThere_7 rfl
theorem r_MGo_isThere_8 : Rr X d MGo_isThere 8 L st h = Rr X d MGo_isThere 12 L st h := R_goto d_MGo_isThere_8 (by decide)
theorem r_MGo_isThere_11 : Rr X d MGo_isThere 11 L st h = Rr X d MGo_isThere 12 L (.int (0) :: st) h := Rr_nx d_MGo_isThere_11 rfl
theorem r_MGo_isThere_12 {x : Int32} : Rr X d MGo_isThere 12 L [.int x] h = if x = 0 ∨ x = 1 then some (some (.int x), h) else none := R_zr d_MGo_isThere_12 rfl
theorem d_MRm_even_0 : decode MRm_even.2.2.1 0 = .ok (.aload_n 0, 1) := lkT_ok tk_MRm_even rfl
theorem d_MRm_even_1 : decode MRm_even.2.2.1 1 = .ok (.iload_n 1, 1) := lkT_ok tk_MRm_even rfl
theorem d_MRm_even_2 : decode MRm_even.2.2.1 2 = .ok (.invokevirtual 173, 3) := lkT_ok tk_MRm_even rfl
theorem d_MRm_even_5 : decode MRm_even.2.2.1 5 = .ok (.ifCond .eq 22, 3) := lkT_ok tk_MRm_even rfl
theorem d_MRm_even_8 : decode MRm_even.2.2.1 8 = .ok (.iload_n 2, 1) := lkT_ok tk_MRm_even rfl
theorem d_MRm_even_9 : decode MRm_even.2.2.1 9 = .ok (.iload_n 3, 1) := lkT_ok tk_MRm_even rfl
theorem d_MRm_even_10 : decode MRm_even.2.2.1 10 = .ok (.invokestatic 290, 3) := lkT_ok tk_MRm_even rfl
theorem d_MRm_even_13 : decode MRm_even.2.2.1 13 = .ok (.ifCond .eq 14, 3) := lkT_ok tk_MRm_even rfl
theorem d_MRm_even_16 : decode MRm_even.2.2.1 16 = .ok (.iload 4, 2) := lkT_ok tk_MRm_even rfl
theorem d_MRm_even_18 : decode MRm_even.2.2.1 18 = .ok (.iconst 0, 1) := lkT_ok tk_MRm_even rfl
theorem d_MRm_even_19 : decode MRm_even.2.2.1 19 = .ok (.bipush 99, 2) := lkT_ok tk_MRm_even rfl
theorem d_MRm_even_21 : decode MRm_even.2.2.1 21 = .ok (.invokestatic 107, 3) := lkT_ok tk_MRm_even rfl
theorem d_MRm_even_24 : decode MRm_even.2.2.1 24 = .ok (.ifCond .ne 5, 3) := lkT_ok tk_MRm_even rfl
theorem d_MRm_even_27 : decode MRm_even.2.2.1 27 = .ok (.iconst (-1), 1) := lkT_ok tk_MRm_even rfl
theorem d_MRm_even_28 : decode MRm_even.2.2.1 28 = .ok (.ireturn, 1) := lkT_ok tk_MRm_even rfl
theorem d_MRm_even_29 : decode MRm_even.2.2.1 29 = .ok (.aload_n 0, 1) := lkT_ok tk_MRm_even rfl
theorem d_MRm_even_30 : decode MRm_even.2.2.1 30 = .ok (.iload_n 1, 1) := lkT_ok tk_MRm_even rfl
theorem d_MRm_even_31 : decode MRm_even.2.2.1 31 = .ok (.aload_n 0, 1) := lkT_ok tk_MRm_even rfl
theorem d_MRm_even_32 : decode MRm_even.2.2.1 32 = .ok (.iload_n 1, 1) := lkT_ok tk_MRm_even rfl
theorem d_MRm_even_33 : decode MRm_even.2.2.1 33 = .ok (.invokevirtual 177, 3) := lkT_ok tk_MRm_even rfl
theorem d_MRm_even_36 : decode MRm_even.2.2.1 36 = .ok (.iconst (-1), 1) := lkT_ok tk_MRm_even rfl
theorem d_MRm_even_37 : decode MRm_even.2.2.1 37 = .ok (.iload 4, 2) := lkT_ok tk_MRm_even rfl
theorem d_MRm_even_39 : decode MRm_even.2.2.1 39 = .ok (.isub, 1) := lkT_ok tk_MRm_even rfl
theorem d_MRm_even_40 : decode MRm_even.2.2.1 40 = .ok (.iload_n 2, 1) := lkT_ok tk_MRm_even rfl
theorem d_MRm_even_41 : decode MRm_even.2.2.1 41 = .ok (.iload_n 3, 1) := lkT_ok tk_MRm_even rfl
theorem d_MRm_even_42 : decode MRm_even.2.2.1 42 = .ok (.invokevirtual 325, 3) := lkT_ok tk_MRm_even rfl
theorem d_MRm_even_45 : decode MRm_even.2.2.1 45 = .ok (.aload_n 0, 1) := lkT_ok tk_MRm_even rfl
theorem d_MRm_even_46 : decode MRm_even.2.2.1 46 = .ok (.getfield 316, 3) := lkT_ok tk_MRm_even rfl
theorem d_MRm_even_49 : decode MRm_even.2.2.1 49 = .ok (.ireturn, 1) := lkT_ok tk_MRm_even rfl
theorem r_MRm_even_0 {l1 l2 l3 l4 : Value} {x : Nat} : Rr X d MRm_even 0 [.ref x, l1, l2, l3, l4] st h = Rr X d MRm_even 1 [.ref x, l1, l2, l3, l4] (.ref x :: st) h := Rr_nx d_MRm_even_0 rfl
theorem r_MRm_even_1 {l0 l2 l3 l4 : Value} {x : Int32} : Rr X d MRm_even 1 [l0, .int x, l2, l3, l4] st h = Rr X d MRm_even 2 [l0, .int x, l2, l3, l4] (.int x :: st) h := Rr_nx d_MRm_even_1 rfl
theorem r_MRm_even_2 {y0 : Int32} {a : Nat} (hO : qO a 10 = true) (hc : ckS st = true) : Rr X (d + 1) MRm_even 2 L (.int y0 :: .ref a :: st) (Wd mu la ro et) = (Rr X d MRm_isStone 0 [.ref a, .int y0] [] (Wd mu la ro et)).bind fun q => Rr X (d + 1) MRm_even 5 L (psh q.1 st) q.2 := R_iv (av := [.int y0]) d_MRm_even_2 fc_10_173 hO (ckS_le hc) rfl (Nat.le_of_ble_eq_true rfl) (Nat.le_of_ble_eq_true rfl)
theorem r_MRm_even_5 {x : Int32} : Rr X d MRm_even 5 L (.int x :: st) h = if x = 0 then Rr X d MRm_even 27 L st h else Rr X d MRm_even 8 L st h := R_if_eq d_MRm_even_5 (by decide)
theorem r_MRm_even_8 {l0 l1 l3 l4 : Value} {x : Int32} : Rr X d MRm_even 8 [l0, l1, .int x, l3, l4] st h = Rr X d MRm_even 9 [l0, l1, .int x, l3, l4] (.int x :: st) h := Rr_nx d_MRm_even_8 rfl
theorem r_MRm_even_9 {l0 l1 l2 l4 : Value} {x : Int32} : Rr X d MRm_even 9 [l0, l1, l2, .int x, l4] st h = Rr X d MRm_even 10 [l0, l1, l2, .int x, l4] (.int x :: st) h := Rr_nx d_MRm_even_9 rfl
theorem r_MRm_even_10 {y0 : Int32} {y1 : Int32} (hc : ckS st = true) : Rr X (d + 1) MRm_even 10 L (.int y1 :: .int y0 :: st) h = (Rr X d MRm_isStart 0 [.int y0, .int y1] [] h).bind fun q => Rr X (d + 1) MRm_even 13 L (psh q.1 st) q.2 := R_is (av := [.int y1, .int y0]) d_MRm_even_10 (Or.inl fc_10_290) (ckS_le hc) rfl (Nat.le_of_ble_eq_true rfl) (Nat.le_of_ble_eq_true rfl)
theorem r_MRm_even_13 {x : Int32} : Rr X d MRm_even 13 L (.int x :: st) h = if x = 0 then Rr X d MRm_even 27 L st h else Rr X d MRm_even 16 L st h := R_if_eq d_MRm_even_13 (by decide)
theorem r_MRm_even_16 {l0 l1 l2 l3 : Value} {x : Int32} : Rr X d MRm_even 16 [l0, l1, l2, l3, .int x] st h = Rr X d MRm_even 18 [l0, l1, l2, l3, .int x] (.int x :: st) h := Rr_nx d_MRm_even_16 rfl
theorem r_MRm_even_18 : Rr X d MRm_even 18 L st h = Rr X d MRm_even 19 L (.int (0) :: st) h := Rr_nx d_MRm_even_18 rfl
theorem r_MRm_even_19 : Rr X d MRm_even 19 L st h = Rr X d MRm_even 21 L (.int (99) :: st) h := Rr_nx d_MRm_even_19 rfl
theorem r_MRm_even_21 {y0 : Int32} {y1 : Int32} {y2 : Int32} (hc : ckS st = true) : Rr X (d + 1) MRm_even 21 L (.int y2 :: .int y1 :: .int y0 :: st) h = (Rr X d MRm_in 0 [.int y0, .int y1, .int y2] [] h).bind fun q => Rr X (d + 1) MRm_even 24 L (psh q.1 st) q.2 := R_is (av := [.int y2, .int y1, .int y0]) d_MRm_even_21 (Or.inl fc_10_107) (ckS_le hc) rfl (Nat.le_of_ble_eq_true rfl) (Nat.le_of_ble_eq_true rfl)
theorem r_MRm_even_24 {x : Int32} : Rr X d MRm_even 24 L (.int x :: st) h = if ¬ x = 0 then Rr X d MRm_even 29 L st h else Rr X d MRm_even 27 L st h := R_if_ne d_MRm_even_24 (by decide)
theorem r_MRm_even_27 : Rr X d MRm_even 27 L st h = Rr X d MRm_even 28 L (.int (-1) :: st) h := Rr_nx d_MRm_even_27 rfl
theorem r_MRm_even_28 {x : Int32} : Rr X d MRm_even 28 L [.int x] h = some (some (.int x), h) := R_ir d_MRm_even_28 rfl
theorem r_MRm_even_29 {l1 l2 l3 l4 : Value} {x : Nat} : Rr X d MRm_even 29 [.ref x, l1, l2, l3, l4] st h = Rr X d MRm_even 30 [.ref x, l1, l2, l3, l4] (.ref x :: st) h := Rr_nx d_MRm_even_29 rfl
theorem r_MRm_even_30 {l0 l2 l3 l4 : Value} {x : Int32} : Rr X d MRm_even 30 [l0, .int x, l2, l3, l4] st h = Rr X d MRm_even 31 [l0, .int x, l2, l3, l4] (.int x :: st) h := Rr_nx d_MRm_even_30 rfl
theorem r_MRm_even_31 {l1 l2 l3 l4 : Value} {x : Nat} : Rr X d MRm_even 31 [.ref x, l1, l2, l3, l4] st h = Rr X d MRm_even 32 [.ref x, l1, l2, l3, l4] (.ref x :: st) h := Rr_nx d_MRm_even_31 rfl
theorem r_MRm_even_32 {l0 l2 l3 l4 : Value} {x : Int32} : Rr X d MRm_even 32 [l0, .int x, l2, l3, l4] st h = Rr X d MRm_even 33 [l0, .int x, l2, l3, l4] (.int x :: st) h := Rr_nx d_MRm_even_32 rfl
theorem r_MRm_even_33 {y0 : Int32} {a : Nat} (hO : qO a 10 = true) (hc : ckS st = true) : Rr X (d + 1) MRm_even 33 L (.int y0 :: .ref a :: st) (Wd mu la ro et) = (Rr X d MRm_keenOf 0 [.ref a, .int y0] [] (Wd mu la ro et)).bind fun q => Rr X (d + 1) MRm_even 36 L (psh q.1 st) q.2 := R_iv (av := [.int y0]) d_MRm_even_33 fc_10_177 hO (ckS_le hc) rfl (Nat.le_of_ble_eq_true rfl) (Nat.le_of_ble_eq_true rfl)
theorem r_MRm_even_36 : Rr X d MRm_even 36 L st h = Rr X d MRm_even 37 L (.int (-1) :: st) h := Rr_nx d_MRm_even_36 rfl
theorem r_MRm_even_37 {l0 l1 l2 l3 : Value} {x : Int32} : Rr X d MRm_even 37 [l0, l1, l2, l3, .int x] st h = Rr X d MRm_even 39 [l0, l1, l2, l3, .int x] (.int x :: st) h := Rr_nx d_MRm_even_37 rfl
theorem r_MRm_even_39 {x y : Int32} : Rr X d MRm_even 39 L (.int y :: .int x :: st) h = Rr X d MRm_even 40 L (.int (x - y) :: st) h := Rr_nx d_MRm_even_39 rfl
theorem r_MRm_even_40 {l0 l1 l3 l4 : Value} {x : Int32} : Rr X d MRm_even 40 [l0, l1, .int x, l3, l4] st h = Rr X d MRm_even 41 [l0, l1, .int x, l3, l4] (.int x :: st) h := Rr_nx d_MRm_even_40 rfl
theorem r_MRm_even_41 {l0 l1 l2 l4 : Value} {x : Int32} : Rr X d MRm_even 41 [l0, l1, l2, .int x, l4] st h = Rr X d MRm_even 42 [l0, l1, l2, .int x, l4] (.int x :: st) h := Rr_nx d_MRm_even_41 rfl
theorem fc_10_325 : fC 10 325 = some (0, 10, 5, MRm_goThrough) := rfl
theorem r_MRm_even_42 {y0 : Int32} {y1 : Int32} {y2 : Int32} {y3 : Int32} {y4 : Int32} {a : Nat} (hO : qO a 10 = true) (hc : ckS st = true) : Rr X (d + 1) MRm_even 42 L (.int y4 :: .int y3 :: .int y2 :: .int y1 :: .int y0 :: .ref a :: st) (Wd mu la ro et) = (Rr X d MRm_goThrough 0 [.ref a, .int y0, .int y1, .int y2, .int y3, .int y4, mkU] [] (Wd mu la ro et)).bind fun q => Rr X (d + 1) MRm_even 45 L (psh q.1 st) q.2 := R_iv (av := [.int y4, .int y3, .int y2, .int y1, .int y0]) d_MRm_even_42 fc_10_325 hO (ckS_le hc) rfl (Nat.le_of_ble_eq_true rfl) (Nat.le_of_ble_eq_true rfl)
theorem r_MRm_even_45 {l1 l2 l3 l4 : Value} {x : Nat} : Rr X d MRm_even 45 [.ref x, l1, l2, l3, l4] st h = Rr X d MRm_even 46 [.ref x, l1, l2, l3, l4] (.ref x :: st) h := Rr_nx d_MRm_even_45 rfl
theorem r_MRm_even_46 {a : Nat} (hq : qI a 10 44 = true) : Rr X d MRm_even 46 L (.ref a :: st) (Wd mu la ro et) = Rr X d MRm_even 49 L (.int (mu a 44) :: st) (Wd mu la ro et) := R_gfI d_MRm_even_46 ff_10_316 hq
theorem r_MRm_even_49 {x : Int32} : Rr X d MRm_even 49 L [.int x] h = some (some (.int x), h) := R_ir d_MRm_even_49 rfl
theorem d_MRm_seen_0 : decode MRm_seen.2.2.1 0 = .ok (.aload_n 0, 1) := lkT_ok tk_MRm_seen rfl
theorem d_MRm_seen_1 : decode MRm_seen.2.2.1 1 = .ok (.iload_n 1, 1) := lkT_ok tk_MRm_seen rfl
theorem d_MRm_seen_2 : decode MRm_seen.2.2.1 2 = .ok (.invokevirtual 287, 3) := lkT_ok tk_MRm_seen rfl
theorem d_MRm_seen_5 : decode MRm_seen.2.2.1 5 = .ok (.ifCond .eq 11, 3) := lkT_ok tk_MRm_seen rfl
theorem d_MRm_seen_8 : decode MRm_seen.2.2.1 8 = .ok (.iload_n 2, 1) := lkT_ok tk_MRm_seen rfl
theorem d_MRm_seen_9 : decode MRm_seen.2.2.1 9 = .ok (.iload_n 3, 1) := lkT_ok tk_MRm_seen rfl
theorem d_MRm_seen_10 : decode MRm_seen.2.2.1 10 = .ok (.invokestatic 290, 3) := lkT_ok tk_MRm_seen rfl
theorem d_MRm_seen_13 : decode MRm_seen.2.2.1 13 = .ok (.ifCond .ne 5, 3) := lkT_ok tk_MRm_seen rfl
theorem d_MRm_seen_16 : decode MRm_seen.2.2.1 16 = .ok (.iconst (-1), 1) := lkT_ok tk_MRm_seen rfl
theorem d_MRm_seen_17 : decode MRm_seen.2.2.1 17 = .ok (.ireturn, 1) := lkT_ok tk_MRm_seen rfl
theorem d_MRm_seen_18 : decode MRm_seen.2.2.1 18 = .ok (.iconst 1, 1) := lkT_ok tk_MRm_seen rfl
theorem d_MRm_seen_19 : decode MRm_seen.2.2.1 19 = .ok (.istore 4, 2) := lkT_ok tk_MRm_seen rfl
theorem d_MRm_seen_21 : decode MRm_seen.2.2.1 21 = .ok (.iload 4, 2) := lkT_ok tk_MRm_seen rfl
theorem d_MRm_seen_23 : decode MRm_seen.2.2.1 23 = .ok (.bipush 9, 2) := lkT_ok tk_MRm_seen rfl
theorem d_MRm_seen_25 : decode MRm_seen.2.2.1 25 = .ok (.if_icmp .gt 35, 3) := lkT_ok tk_MRm_seen rfl
theorem d_MRm_seen_28 : decode MRm_seen.2.2.1 28 = .ok (.aload_n 0, 1) := lkT_ok tk_MRm_seen rfl
theorem d_MRm_seen_29 : decode MRm_seen.2.2.1 29 = .ok (.iload_n 1, 1) := lkT_ok tk_MRm_seen rfl
theorem d_MRm_seen_30 : decode MRm_seen.2.2.1 30 = .ok (.bipush 10, 2) := lkT_ok tk_MRm_seen rfl
theorem d_MRm_seen_32 : decode MRm_seen.2.2.1 32 = .ok (.idiv, 1) := lkT_ok tk_MRm_seen rfl
theorem d_MRm_seen_33 : decode MRm_seen.2.2.1 33 = .ok (.iload 4, 2) := lkT_ok tk_MRm_seen rfl
theorem d_MRm_seen_35 : decode MRm_seen.2.2.1 35 = .ok (.iload_n 1, 1) := lkT_ok tk_MRm_seen rfl
theorem d_MRm_seen_36 : decode MRm_seen.2.2.1 36 = .ok (.bipush 10, 2) := lkT_ok tk_MRm_seen rfl
theorem d_MRm_seen_38 : decode MRm_seen.2.2.1 38 = .ok (.irem, 1) := lkT_ok tk_MRm_seen rfl
theorem d_MRm_seen_39 : decode MRm_seen.2.2.1 39 = .ok (.iload_n 2, 1) := lkT_ok tk_MRm_seen rfl
theorem d_MRm_seen_40 : decode MRm_seen.2.2.1 40 = .ok (.iload_n 3, 1) := lkT_ok tk_MRm_seen rfl
theorem d_MRm_seen_41 : decode MRm_seen.2.2.1 41 = .ok (.invokevirtual 325, 3) := lkT_ok tk_MRm_seen rfl
theorem d_MRm_seen_44 : decode MRm_seen.2.2.1 44 = .ok (.aload_n 0, 1) := lkT_ok tk_MRm_seen rfl
theorem d_MRm_seen_45 : decode MRm_seen.2.2.1 45 = .ok (.getfield 316, 3) := lkT_ok tk_MRm_seen rfl
theorem d_MRm_seen_48 : decode MRm_seen.2.2.1 48 = .ok (.ifCond .le 6, 3) := lkT_ok tk_MRm_seen rfl
theorem d_MRm_seen_51 : decode MRm_seen.2.2.1 51 = .ok (.iload 4, 2) := lkT_ok tk_MRm_seen rfl
theorem d_MRm_seen_53 : decode MRm_seen.2.2.1 53 = .ok (.ireturn, 1) := lkT_ok tk_MRm_seen rfl
theorem d_MRm_seen_54 : decode MRm_seen.2.2.1 54 = .ok (.iinc 4 1, 3) := lkT_ok tk_MRm_seen rfl
theorem d_MRm_seen_57 : decode MRm_seen.2.2.1 57 = .ok (.goto (-36), 3) := lkT_ok tk_MRm_seen rfl
theorem d_MRm_seen_60 : decode MRm_seen.2.2.1 60 = .ok (.bipush (-2), 2) := lkT_ok tk_MRm_seen rfl
theorem d_MRm_seen_62 : decode MRm_seen.2.2.1 62 = .ok (.ireturn, 1) := lkT_ok tk_MRm_seen rfl
theorem r_MRm_seen_0 {l1 l2 l3 l4 : Value} {x : Nat} : Rr X d MRm_seen 0 [.ref x, l1, l2, l3, l4] st h = Rr X d MRm_seen 1 [.ref x, l1, l2, l3, l4] (.ref x :: st) h := Rr_nx d_MRm_seen_0 rfl
theorem r_MRm_seen_1 {l0 l2 l3 l4 : Value} {x : Int32} : Rr X d MRm_seen 1 [l0, .int x, l2, l3, l4] st h = Rr X d MRm_seen 2 [l0, .int x, l2, l3, l4] (.int x :: st) h := Rr_nx d_MRm_seen_1 rfl
theorem r_MRm_seen_2 {y0 : Int32} {a : Nat} (hO : qO a 10 = true) (hc : ckS st = true) : Rr X (d + 1) MRm_seen 2 L (.int y0 :: .ref a :: st) (Wd mu la ro et) = (Rr X d MRm_isGoing 0 [.ref a, .int y0] [] (Wd mu la ro et)).bind fun q => Rr X (d + 1) MRm_seen 5 L (psh q.1 st) q.2 := R_iv (av := [.int y0]) d_MRm_seen_2 fc_10_287 hO (ckS_le hc) rfl (Nat.le_of_ble_eq_true rfl) (Nat.le_of_ble_eq_true rfl)
theorem r_MRm_seen_5 {x : Int32} : Rr X d MRm_seen 5 L (.int x :: st) h = if x = 0 then Rr X d MRm_seen 16 L st h else Rr X d MRm_seen 8 L st h := R_if_eq d_MRm_seen_5 (by decide)
theorem r_MRm_seen_8 {l0 l1 l3 l4 : Value} {x : Int32} : Rr X d MRm_seen 8 [l0, l1, .int x, l3, l4] st h = Rr X d MRm_seen 9 [l0, l1, .int x, l3, l4] (.int x :: st) h := Rr_nx d_MRm_seen_8 rfl
theorem r_MRm_seen_9 {l0 l1 l2 l4 : Value} {x : Int32} : Rr X d MRm_seen 9 [l0, l1, l2, .int x, l4] st h = Rr X d MRm_seen 10 [l0, l1, l2, .int x, l4] (.int x :: st) h := Rr_nx d_MRm_seen_9 rfl
theorem r_MRm_seen_10 {y0 : Int32} {y1 : Int32} (hc : ckS st = true) : Rr X (d + 1) MRm_seen 10 L (.int y1 :: .int y0 :: st) h = (Rr X d MRm_isStart 0 [.int y0, .int y1] [] h).bind fun q => Rr X (d + 1) MRm_seen 13 L (psh q.1 st) q.2 := R_is (av := [.int y1, .int y0]) d_MRm_seen_10 (Or.inl fc_10_290) (ckS_le hc) rfl (Nat.le_of_ble_eq_true rfl) (Nat.le_of_ble_eq_true rfl)
theorem r_MRm_seen_13 {x : Int32} : Rr X d MRm_seen 13 L (.int x :: st) h = if ¬ x = 0 then Rr X d MRm_seen 18 L st h else Rr X d MRm_seen 16 L st h := R_if_ne d_MRm_seen_13 (by decide)
theorem r_MRm_seen_16 : Rr X d MRm_seen 16 L st h = Rr X d MRm_seen 17 L (.int (-1) :: st) h := Rr_nx d_MRm_seen_16 rfl
theorem r_MRm_seen_17 {x : Int32} : Rr X d MRm_seen 17 L [.int x] h = some (some (.int x), h) := R_ir d_MRm_seen_17 rfl
theorem r_MRm_seen_18 : Rr X d MRm_seen 18 L st h = Rr X d MRm_seen 19 L (.int (1) :: st) h := Rr_nx d_MRm_seen_18 rfl
theorem r_MRm_seen_19 {l0 l1 l2 l3 l4 : Value} {x : Int32} : Rr X d MRm_seen 19 [l0, l1, l2, l3, l4] (.int x :: st) h = Rr X d MRm_seen 21 (sL [l0, l1, l2, l3, l4] 4 (.int x)) st h := Rr_nx d_MRm_seen_19 rfl
theorem r_MRm_seen_21 {l0 l1 l2 l3 : Value} {x : Int32} : Rr X d MRm_seen 21 [l0, l1, l2, l3, .int x] st h = Rr X d MRm_seen 23 [l0, l1, l2, l3, .int x] (.int x :: st) h := Rr_nx d_MRm_seen_21 rfl
theorem r_MRm_seen_23 : Rr X d MRm_seen 23 L st h = Rr X d MRm_seen 25 L (.int (9) :: st) h := Rr_nx d_MRm_seen_23 rfl
theorem r_MRm_seen_25 {x y : Int32} : Rr X d MRm_seen 25 L (.int y :: .int x :: st) h = if y < x then Rr X d MRm_seen 60 L st h else Rr X d MRm_seen 28 L st h := R_ic_gt d_MRm_seen_25 (by decide)
theorem r_MRm_seen_28 {l1 l2 l3 l4 : Value} {x : Nat} : Rr X d MRm_seen 28 [.ref x, l1, l2, l3, l4] st h = Rr X d MRm_seen 29 [.ref x, l1, l2, l3, l4] (.ref x :: st) h := Rr_nx d_MRm_seen_28 rfl
theorem r_MRm_seen_29 {l0 l2 l3 l4 : Value} {x : Int32} : Rr X d MRm_seen 29 [l0, .int x, l2, l3, l4] st h = Rr X d MRm_seen 30 [l0, .int x, l2, l3, l4] (.int x :: st) h := Rr_nx d_MRm_seen_29 rfl
theorem r_MRm_seen_30 : Rr X d MRm_seen 30 L st h = Rr X d MRm_seen 32 L (.int (10) :: st) h := Rr_nx d_MRm_seen_30 rfl
theorem r_MRm_seen_32 {x y : Int32} : Rr X d MRm_seen 32 L (.int y :: .int x :: st) h = if y = 0 then none else Rr X d MRm_seen 33 L (.int (x / y) :: st) h := R_dv d_MRm_seen_32
theorem r_MRm_seen_33 {l0 l1 l2 l3 : Value} {x : Int32} : Rr X d MRm_seen 33 [l0, l1, l2, l3, .int x] st h = Rr X d MRm_seen 35 [l0, l1, l2, l3, .int x] (.int x :: st) h := Rr_nx d_MRm_seen_33 rfl
theorem r_MRm_seen_35 {l0 l2 l3 l4 : Value} {x : Int32} : Rr X d MRm_seen 35 [l0, .int x, l2, l3, l4] st h = Rr X d MRm_seen 36 [l0, .int x, l2, l3, l4] (.int x :: st) h := Rr_nx d_MRm_seen_35 rfl
theorem r_MRm_seen_36 : Rr X d MRm_seen 36 L st h = Rr X d MRm_seen 38 L (.int (10) :: st) h := Rr_nx d_MRm_seen_36 rfl
theorem r_MRm_seen_38 {x y : Int32} : Rr X d MRm_seen 38 L (.int y :: .int x :: st) h = if y = 0 then none else Rr X d MRm_seen 39 L (.int (x - x / y * y) :: st) h := R_rm d_MRm_seen_38
theorem r_MRm_seen_39 {l0 l1 l3 l4 : Value} {x : Int32} : Rr X d MRm_seen 39 [l0, l1, .int x, l3, l4] st h = Rr X d MRm_seen 40 [l0, l1, .int x, l3, l4] (.int x :: st) h := Rr_nx d_MRm_seen_39 rfl
theorem r_MRm_seen_40 {l0 l1 l2 l4 : Value} {x : Int32} : Rr X d MRm_seen 40 [l0, l1, l2, .int x, l4] st h = Rr X d MRm_seen 41 [l0, l1, l2, .int x, l4] (.int x :: st) h := Rr_nx d_MRm_seen_40 rfl
theorem r_MRm_seen_41 {y0 : Int32} {y1 : Int32} {y2 : Int32} {y3 : Int32} {y4 : Int32} {a : Nat} (hO : qO a 10 = true) (hc : ckS st = true) : Rr X (d + 1) MRm_seen 41 L (.int y4 :: .int y3 :: .int y2 :: .int y1 :: .int y0 :: .ref a :: st) (Wd mu la ro et) = (Rr X d MRm_goThrough 0 [.ref a, .int y0, .int y1, .int y2, .int y3, .int y4, mkU] [] (Wd mu la ro et)).bind fun q => Rr X (d + 1) MRm_seen 44 L (psh q.1 st) q.2 := R_iv (av := [.int y4, .int y3, .int y2, .int y1, .int y0]) d_MRm_seen_41 fc_10_325 hO (ckS_le hc) rfl (Nat.le_of_ble_eq_true rfl) (Nat.le_of_ble_eq_true rfl)
theorem r_MRm_seen_44 {l1 l2 l3 l4 : Value} {x : Nat} : Rr X d MRm_seen 44 [.ref x, l1, l2, l3, l4] st h = Rr X d MRm_seen 45 [.ref x, l1, l2, l3, l4] (.ref x :: st) h := Rr_nx d_MRm_seen_44 rfl
theorem r_MRm_seen_45 {a : Nat} (hq : qI a 10 44 = true) : Rr X d MRm_seen 45 L (.ref a :: st) (Wd mu la ro et) = Rr X d MRm_seen 48 L (.int (mu a 44) :: st) (Wd mu la ro et) := R_gfI d_MRm_seen_45 ff_10_316 hq
theorem r_MRm_seen_48 {x : Int32} : Rr X d MRm_seen 48 L (.int x :: st) h = if x ≤ 0 then Rr X d MRm_seen 54 L st h else Rr X d MRm_seen 51 L st h := R_if_le d_MRm_seen_48 (by decide)
theorem r_MRm_seen_51 {l0 l1 l2 l3 : Value} {x : Int32} : Rr X d MRm_seen 51 [l0, l1, l2, l3, .int x] st h = Rr X d MRm_seen 53 [l0, l1, l2, l3, .int x] (.int x :: st) h := Rr_nx d_MRm_seen_51 rfl
theorem r_MRm_seen_53 {x : Int32} : Rr X d MRm_seen 53 L [.int x] h = some (some (.int x), h) := R_ir d_MRm_seen_53 rfl
theorem r_MRm_seen_54 {l0 l1 l2 l3 : Value} {x : Int32} : Rr X d MRm_seen 54 [l0, l1, l2, l3, .int x] st h = Rr X d MRm_seen 57 (sL [l0, l1, l2, l3, .int x] 4 (.int (x + (1)))) st h := Rr_nx d_MRm_seen_54 rfl
theorem r_MRm_seen_57 : Rr X d MRm_seen 57 L st h = Rr X d MRm_seen 21 L st h := R_goto d_MRm_seen_57 (by decide)
theorem r_MRm_seen_60 : Rr X d MRm_seen 60 L st h = Rr X d MRm_seen 62 L (.int (-2) :: st) h := Rr_nx d_MRm_seen_60 rfl
theorem r_MRm_seen_62 {x : Int32} : Rr X d MRm_seen 62 L [.int x] h = some (some (.int x), h) := R_ir d_MRm_seen_62 rfl
theorem d_MRm_soonest_0 : decode MRm_soonest.2.2.1 0 = .ok (.iload_n 1, 1) := lkT_ok tk_MRm_soonest rfl
theorem d_MRm_soonest_1 : decode MRm_soonest.2.2.1 1 = .ok (.bipush 9, 2) := lkT_ok tk_MRm_soonest rfl
theorem d_MRm_soonest_3 : decode MRm_soonest.2.2.1 3 = .ok (.if_icmp .eq 11, 3) := lkT_ok tk_MRm_soonest rfl
theorem d_MRm_soonest_6 : decode MRm_soonest.2.2.1 6 = .ok (.aload_n 0, 1) := lkT_ok tk_MRm_soonest rfl
theorem d_MRm_soonest_7 : decode MRm_soonest.2.2.1 7 = .ok (.iload_n 1, 1) := lkT_ok tk_MRm_soonest rfl
theorem d_MRm_soonest_8 : decode MRm_soonest.2.2.1 8 = .ok (.invokevirtual 257, 3) := lkT_ok tk_MRm_soonest rfl
theorem d_MRm_soonest_11 : decode MRm_soonest.2.2.1 11 = .ok (.ifCond .eq 21, 3) := lkT_ok tk_MRm_soonest rfl
theorem d_MRm_soonest_14 : decode MRm_soonest.2.2.1 14 = .ok (.iload_n 2, 1) := lkT_ok tk_MRm_soonest rfl
theorem d_MRm_soonest_15 : decode MRm_soonest.2.2.1 15 = .ok (.iload_n 3, 1) := lkT_ok tk_MRm_soonest rfl
theorem d_MRm_soonest_16 : decode MRm_soonest.2.2.1 16 = .ok (.invokestatic 290, 3) := lkT_ok tk_MRm_soonest rfl
theorem d_MRm_soonest_19 : decode MRm_soonest.2.2.1 19 = .ok (.ifCond .eq 13, 3) := lkT_ok tk_MRm_soonest rfl
theorem d_MRm_soonest_22 : decode MRm_soonest.2.2.1 22 = .ok (.iload 4, 2) := lkT_ok tk_MRm_soonest rfl
theorem d_MRm_soonest_24 : decode MRm_soonest.2.2.1 24 = .ok (.iconst 0, 1) := lkT_ok tk_MRm_soonest rfl
theorem d_MRm_soonest_25 : decode MRm_soonest.2.2.1 25 = .ok (.iconst 1, 1) := lkT_ok tk_MRm_soonest rfl
theorem d_MRm_soonest_26 : decode MRm_soonest.2.2.1 26 = .ok (.invokestatic 107, 3) := lkT_ok tk_MRm_soonest rfl
theorem d_MRm_soonest_29 : decode MRm_soonest.2.2.1 29 = .ok (.ifCond .ne 5, 3) := lkT_ok tk_MRm_soonest rfl
theorem d_MRm_soonest_32 : decode MRm_soonest.2.2.1 32 = .ok (.iconst (-1), 1) := lkT_ok tk_MRm_soonest rfl
theorem d_MRm_soonest_33 : decode MRm_soonest.2.2.1 33 = .ok (.ireturn, 1) := lkT_ok tk_MRm_soonest rfl
theorem d_MRm_soonest_34 : decode MRm_soonest.2.2.1 34 = .ok (.bipush (-2), 2) := lkT_ok tk_MRm_soonest rfl
theorem d_MRm_soonest_36 : decode MRm_soonest.2.2.1 36 = .ok (.istore 5, 2) := lkT_ok tk_MRm_soonest rfl
theorem d_MRm_soonest_38 : decode MRm_soonest.2.2.1 38 = .ok (.iconst 0, 1) := lkT_ok tk_MRm_soonest rfl
theorem d_MRm_soonest_39 : decode MRm_soonest.2.2.1 39 = .ok (.istore 6, 2) := lkT_ok tk_MRm_soonest rfl
theorem d_MRm_soonest_41 : decode MRm_soonest.2.2.1 41 = .ok (.iconst 0, 1) := lkT_ok tk_MRm_soonest rfl
theorem d_MRm_soonest_42 : decode MRm_soonest.2.2.1 42 = .ok (.istore 7, 2) := lkT_ok tk_MRm_soonest rfl
theorem d_MRm_soonest_44 : decode MRm_soonest.2.2.1 44 = .ok (.iload 7, 2) := lkT_ok tk_MRm_soonest rfl
theorem d_MRm_soonest_46 : decode MRm_soonest.2.2.1 46 = .ok (.aload_n 0, 1) := lkT_ok tk_MRm_soonest rfl
theorem d_MRm_soonest_47 : decode MRm_soonest.2.2.1 47 = .ok (.getfield 114, 3) := lkT_ok tk_MRm_soonest rfl
theorem d_MRm_soonest_50 : decode MRm_soonest.2.2.1 50 = .ok (.if_icmp .ge 58, 3) := lkT_ok tk_MRm_soonest rfl
theorem d_MRm_soonest_53 : decode MRm_soonest.2.2.1 53 = .ok (.aload_n 0, 1) := lkT_ok tk_MRm_soonest rfl
theorem d_MRm_soonest_54 : decode MRm_soonest.2.2.1 54 = .ok (.iload 7, 2) := lkT_ok tk_MRm_soonest rfl
theorem d_MRm_soonest_56 : decode MRm_soonest.2.2.1 56 = .ok (.aload_n 0, 1) := lkT_ok tk_MRm_soonest rfl
theorem d_MRm_soonest_57 : decode MRm_soonest.2.2.1 57 = .ok (.iload 7, 2) := lkT_ok tk_MRm_soonest rfl
theorem d_MRm_soonest_59 : decode MRm_soonest.2.2.1 59 = .ok (.invokevirtual 177, 3) := lkT_ok tk_MRm_soonest rfl
theorem d_MRm_soonest_62 : decode MRm_soonest.2.2.1 62 = .ok (.iload_n 1, 1) := lkT_ok tk_MRm_soonest rfl
theorem d_MRm_soonest_63 : decode MRm_soonest.2.2.1 63 = .ok (.iload_n 2, 1) := lkT_ok tk_MRm_soonest rfl
theorem d_MRm_soonest_64 : decode MRm_soonest.2.2.1 64 = .ok (.iload_n 3, 1) := lkT_ok tk_MRm_soonest rfl
theorem d_MRm_soonest_65 : decode MRm_soonest.2.2.1 65 = .ok (.invokevirtual 325, 3) := lkT_ok tk_MRm_soonest rfl
theorem d_MRm_soonest_68 : decode MRm_soonest.2.2.1 68 = .ok (.aload_n 0, 1) := lkT_ok tk_MRm_soonest rfl
theorem d_MRm_soonest_69 : decode MRm_soonest.2.2.1 69 = .ok (.getfield 316, 3) := lkT_ok tk_MRm_soonest rfl
theorem d_MRm_soonest_72 : decode MRm_soonest.2.2.1 72 = .ok (.ifCond .eq 30, 3) := lkT_ok tk_MRm_soonest rfl
theorem d_MRm_soonest_75 : decode MRm_soonest.2.2.1 75 = .ok (.iload 5, 2) := lkT_ok tk_MRm_soonest rfl
theorem d_MRm_soonest_77 : decode MRm_soonest.2.2.1 77 = .ok (.ifCond .lt 15, 3) := lkT_ok tk_MRm_soonest rfl
theorem d_MRm_soonest_80 : decode MRm_soonest.2.2.1 80 = .ok (.aload_n 0, 1) := lkT_ok tk_MRm_soonest rfl
theorem d_MRm_soonest_81 : decode MRm_soonest.2.2.1 81 = .ok (.getfield 319, 3) := lkT_ok tk_MRm_soonest rfl
theorem d_MRm_soonest_84 : decode MRm_soonest.2.2.1 84 = .ok (.iload 6, 2) := lkT_ok tk_MRm_soonest rfl
theorem d_MRm_soonest_86 : decode MRm_soonest.2.2.1 86 = .ok (.if_icmp .lt 6, 3) := lkT_ok tk_MRm_soonest rfl
theorem d_MRm_soonest_89 : decode MRm_soonest.2.2.1 89 = .ok (.goto 13, 3) := lkT_ok tk_MRm_soonest rfl
theorem d_MRm_soonest_92 : decode MRm_soonest.2.2.1 92 = .ok (.iload 7, 2) := lkT_ok tk_MRm_soonest rfl
theorem d_MRm_soonest_94 : decode MRm_soonest.2.2.1 94 = .ok (.istore 5, 2) := lkT_ok tk_MRm_soonest rfl
theorem d_MRm_soonest_96 : decode MRm_soonest.2.2.1 96 = .ok (.aload_n 0, 1) := lkT_ok tk_MRm_soonest rfl
theorem d_MRm_soonest_97 : decode MRm_soonest.2.2.1 97 = .ok (.getfield 319, 3) := lkT_ok tk_MRm_soonest rfl
theorem d_MRm_soonest_100 : decode MRm_soonest.2.2.1 100 = .ok (.istore 6, 2) := lkT_ok tk_MRm_soonest rfl
theorem d_MRm_soonest_102 : decode MRm_soonest.2.2.1 102 = .ok (.iinc 7 1, 3) := lkT_ok tk_MRm_soonest rfl
theorem d_MRm_soonest_105 : decode MRm_soonest.2.2.1 105 = .ok (.goto (-61), 3) := lkT_ok tk_MRm_soonest rfl
theorem d_MRm_soonest_108 : decode MRm_soonest.2.2.1 108 = .ok (.iload 5, 2) := lkT_ok tk_MRm_soonest rfl
theorem d_MRm_soonest_110 : decode MRm_soonest.2.2.1 110 = .ok (.ifCond .lt 8, 3) := lkT_ok tk_MRm_soonest rfl
theorem d_MRm_soonest_113 : decode MRm_soonest.2.2.1 113 = .ok (.iload 4, 2) := lkT_ok tk_MRm_soonest rfl
theorem d_MRm_soonest_115 : decode MRm_soonest.2.2.1 115 = .ok (.ifCond .ne 8, 3) := lkT_ok tk_MRm_soonest rfl
theorem d_MRm_soonest_118 : decode MRm_soonest.2.2.1 118 = .ok (.iload 5, 2) := lkT_ok tk_MRm_soonest rfl
theorem d_MRm_soonest_120 : decode MRm_soonest.2.2.1 120 = .ok (.goto 5, 3) := lkT_ok tk_MRm_soonest rfl
theorem d_MRm_soonest_123 : decode MRm_soonest.2.2.1 123 = .ok (.iload 6, 2) := lkT_ok tk_MRm_soonest rfl
theorem d_MRm_soonest_125 : decode MRm_soonest.2.2.1 125 = .ok (.ireturn, 1) := lkT_ok tk_MRm_soonest rfl
theorem r_MRm_soonest_0 {l0 l2 l3 l4 l5 l6 l7 : Value} {x : Int32} : Rr X d MRm_soonest 0 [l0, .int x, l2, l3, l4, l5, l6, l7] st h = Rr X d MRm_soonest 1 [l0, .int x, l2, l3, l4, l5, l6, l7] (.int x :: st) h := Rr_nx d_MRm_soonest_0 rfl
theorem r_MRm_soonest_1 : Rr X d MRm_soonest 1 L st h = Rr X d MRm_soonest 3 L (.int (9) :: st) h := Rr_nx d_MRm_soonest_1 rfl
theorem r_MRm_soonest_3 {x y : Int32} : Rr X d MRm_soonest 3 L (.int y :: .int x :: st) h = if x = y then Rr X d MRm_soonest 14 L st h else Rr X d MRm_soonest 6 L st h := R_ic_eq d_MRm_soonest_3 (by decide)
theorem r_MRm_soonest_6 {l1 l2 l3 l4 l5 l6 l7 : Value} {x : Nat} : Rr X d MRm_soonest 6 [.ref x, l1, l2, l3, l4, l5, l6, l7] st h = Rr X d MRm_soonest 7 [.ref x, l1, l2, l3, l4, l5, l6, l7] (.ref x :: st) h := Rr_nx d_MRm_soonest_6 rfl
theorem r_MRm_soonest_7 {l0 l2 l3 l4 l5 l6 l7 : Value} {x : Int32} : Rr X d MRm_soonest 7 [l0, .int x, l2, l3, l4, l5, l6, l7] st h = Rr X d MRm_soonest 8 [l0, .int x, l2, l3, l4, l5, l6, l7] (.int x :: st) h := Rr_nx d_MRm_soonest_7 rfl
theorem r_MRm_soonest_8 {y0 : Int32} {a : Nat} (hO : qO a 10 = true) (hc : ckS st = true) : Rr X (d + 1) MRm_soonest 8 L (.int y0 :: .ref a :: st) (Wd mu la ro et) = (Rr X d MRm_isFloor 0 [.ref a, .int y0] [] (Wd mu la ro et)).bind fun q => Rr X (d + 1) MRm_soonest 11 L (psh q.1 st) q.2 := R_iv (av := [.int y0]) d_MRm_soonest_8 fc_10_257 hO (ckS_le hc) rfl (Nat.le_of_ble_eq_true rfl) (Nat.le_of_ble_eq_true rfl)
theorem r_MRm_soonest_11 {x : Int32} : Rr X d MRm_soonest 11 L (.int x :: st) h = if x = 0 then Rr X d MRm_soonest 32 L st h else Rr X d MRm_soonest 14 L st h := R_if_eq d_MRm_soonest_11 (by decide)
theorem r_MRm_soonest_14 {l0 l1 l3 l4 l5 l6 l7 : Value} {x : Int32} : Rr X d MRm_soonest 14 [l0, l1, .int x, l3, l4, l5, l6, l7] st h = Rr X d MRm_soonest 15 [l0, l1, .int x, l3, l4, l5, l6, l7] (.int x :: st) h := Rr_nx d_MRm_soonest_14 rfl
theorem r_MRm_soonest_15 {l0 l1 l2 l4 l5 l6 l7 : Value} {x : Int32} : Rr X d MRm_soonest 15 [l0, l1, l2, .int x, l4, l5, l6, l7] st h = Rr X d MRm_soonest 16 [l0, l1, l2, .int x, l4, l5, l6, l7] (.int x :: st) h := Rr_nx d_MRm_soonest_15 rfl
theorem r_MRm_soonest_16 {y0 : Int32} {y1 : Int32} (hc : ckS st = true) : Rr X (d + 1) MRm_soonest 16 L (.int y1 :: .int y0 :: st) h = (Rr X d MRm_isStart 0 [.int y0, .int y1] [] h).bind fun q => Rr X (d + 1) MRm_soonest 19 L (psh q.1 st) q.2 := R_is (av := [.int y1, .int y0]) d_MRm_soonest_16 (Or.inl fc_10_290) (ckS_le hc) rfl (Nat.le_of_ble_eq_true rfl) (Nat.le_of_ble_eq_true rfl)
theorem r_MRm_soonest_19 {x : Int32} : Rr X d MRm_soonest 19 L (.int x :: st) h = if x = 0 then Rr X d MRm_soonest 32 L st h else Rr X d MRm_soonest 22 L st h := R_if_eq d_MRm_soonest_19 (by decide)
theorem r_MRm_soonest_22 {l0 l1 l2 l3 l5 l6 l7 : Value} {x : Int32} : Rr X d MRm_soonest 22 [l0, l1, l2, l3, .int x, l5, l6, l7] st h = Rr X d MRm_soonest 24 [l0, l1, l2, l3, .int x, l5, l6, l7] (.int x :: st) h := Rr_nx d_MRm_soonest_22 rfl
theorem r_MRm_soonest_24 : Rr X d MRm_soonest 24 L st h = Rr X d MRm_soonest 25 L (.int (0) :: st) h := Rr_nx d_MRm_soonest_24 rfl
theorem r_MRm_soonest_25 : Rr X d MRm_soonest 25 L st h = Rr X d MRm_soonest 26 L (.int (1) :: st) h := Rr_nx d_MRm_soonest_25 rfl
theorem r_MRm_soonest_26 {y0 : Int32} {y1 : Int32} {y2 : Int32} (hc : ckS st = true) : Rr X (d + 1) MRm_soonest 26 L (.int y2 :: .int y1 :: .int y0 :: st) h = (Rr X d MRm_in 0 [.int y0, .int y1, .int y2] [] h).bind fun q => Rr X (d + 1) MRm_soonest 29 L (psh q.1 st) q.2 := R_is (av := [.int y2, .int y1, .int y0]) d_MRm_soonest_26 (Or.inl fc_10_107) (ckS_le hc) rfl (Nat.le_of_ble_eq_true rfl) (Nat.le_of_ble_eq_true rfl)
theorem r_MRm_soonest_29 {x : Int32} : Rr X d MRm_soonest 29 L (.int x :: st) h = if ¬ x = 0 then Rr X d MRm_soonest 34 L st h else Rr X d MRm_soonest 32 L st h := R_if_ne d_MRm_soonest_29 (by decide)
theorem r_MRm_soonest_32 : Rr X d MRm_soonest 32 L st h = Rr X d MRm_soonest 33 L (.int (-1) :: st) h := Rr_nx d_MRm_soonest_32 rfl
theorem r_MRm_soonest_33 {x : Int32} : Rr X d MRm_soonest 33 L [.int x] h = some (some (.int x), h) := R_ir d_MRm_soonest_33 rfl
theorem r_MRm_soonest_34 : Rr X d MRm_soonest 34 L st h = Rr X d MRm_soonest 36 L (.int (-2) :: st) h := Rr_nx d_MRm_soonest_34 rfl
theorem r_MRm_soonest_36 {l0 l1 l2 l3 l4 l5 l6 l7 : Value} {x : Int32} : Rr X d MRm_soonest 36 [l0, l1, l2, l3, l4, l5, l6, l7] (.int x :: st) h = Rr X d MRm_soonest 38 (sL [l0, l1, l2, l3, l4, l5, l6, l7] 5 (.int x)) st h := Rr_nx d_MRm_soonest_36 rfl
theorem r_MRm_soonest_38 : Rr X d MRm_soonest 38 L st h = Rr X d MRm_soonest 39 L (.int (0) :: st) h := Rr_nx d_MRm_soonest_38 rfl
theorem r_MRm_soonest_39 {l0 l1 l2 l3 l4 l5 l6 l7 : Value} {x : Int32} : Rr X d MRm_soonest 39 [l0, l1, l2, l3, l4, l5, l6, l7] (.int x :: st) h = Rr X d MRm_soonest 41 (sL [l0, l1, l2, l3, l4, l5, l6, l7] 6 (.int x)) st h := Rr_nx d_MRm_soonest_39 rfl
theorem r_MRm_soonest_41 : Rr X d MRm_soonest 41 L st h = Rr X d MRm_soonest 42 L (.int (0) :: st) h := Rr_nx d_MRm_soonest_41 rfl
theorem r_MRm_soonest_42 {l0 l1 l2 l3 l4 l5 l6 l7 : Value} {x : Int32} : Rr X d MRm_soonest 42 [l0, l1, l2, l3, l4, l5, l6, l7] (.int x :: st) h = Rr X d MRm_soonest 44 (sL [l0, l1, l2, l3, l4, l5, l6, l7] 7 (.int x)) st h := Rr_nx d_MRm_soonest_42 rfl
theorem r_MRm_soonest_44 {l0 l1 l2 l3 l4 l5 l6 : Value} {x : Int32} : Rr X d MRm_soonest 44 [l0, l1, l2, l3, l4, l5, l6, .int x] st h = Rr X d MRm_soonest 46 [l0, l1, l2, l3, l4, l5, l6, .int x] (.int x :: st) h := Rr_nx d_MRm_soonest_44 rfl
theorem r_MRm_soonest_46 {l1 l2 l3 l4 l5 l6 l7 : Value} {x : Nat} : Rr X d MRm_soonest 46 [.ref x, l1, l2, l3, l4, l5, l6, l7] st h = Rr X d MRm_soonest 47 [.ref x, l1, l2, l3, l4, l5, l6, l7] (.ref x :: st) h := Rr_nx d_MRm_soonest_46 rfl
theorem r_MRm_soonest_47 {a : Nat} (hq : qI a 10 3 = true) : Rr X d MRm_soonest 47 L (.ref a :: st) (Wd mu la ro et) = Rr X d MRm_soonest 50 L (.int (mu a 3) :: st) (Wd mu la ro et) := R_gfI d_MRm_soonest_47 ff_10_114 hq
theorem r_MRm_soonest_50 {x y : Int32} : Rr X d MRm_soonest 50 L (.int y :: .int x :: st) h = if y ≤ x then Rr X d MRm_soonest 108 L st h else Rr X d MRm_soonest 53 L st h := R_ic_ge d_MRm_soonest_50 (by decide)
theorem r_MRm_soonest_53 {l1 l2 l3 l4 l5 l6 l7 : Value} {x : Nat} : Rr X d MRm_soonest 53 [.ref x, l1, l2, l3, l4, l5, l6, l7] st h = Rr X d MRm_soonest 54 [.ref x, l1, l2, l3, l4, l5, l6, l7] (.ref x :: st) h := Rr_nx d_MRm_soonest_53 rfl
theorem r_MRm_soonest_54 {l0 l1 l2 l3 l4 l5 l6 : Value} {x : Int32} : Rr X d MRm_soonest 54 [l0, l1, l2, l3, l4, l5, l6, .int x] st h = Rr X d MRm_soonest 56 [l0, l1, l2, l3, l4, l5, l6, .int x] (.int x :: st) h := Rr_nx d_MRm_soonest_54 rfl
theorem r_MRm_soonest_56 {l1 l2 l3 l4 l5 l6 l7 : Value} {x : Nat} : Rr X d MRm_soonest 56 [.ref x, l1, l2, l3, l4, l5, l6, l7] st h = Rr X d MRm_soonest 57 [.ref x, l1, l2, l3, l4, l5, l6, l7] (.ref x :: st) h := Rr_nx d_MRm_soonest_56 rfl
theorem r_MRm_soonest_57 {l0 l1 l2 l3 l4 l5 l6 : Value} {x : Int32} : Rr X d MRm_soonest 57 [l0, l1, l2, l3, l4, l5, l6, .int x] st h = Rr X d MRm_soonest 59 [l0, l1, l2, l3, l4, l5, l6, .int x] (.int x :: st) h := Rr_nx d_MRm_soonest_57 rfl
theorem r_MRm_soonest_59 {y0 : Int32} {a : Nat} (hO : qO a 10 = true) (hc : ckS st = true) : Rr X (d + 1) MRm_soonest 59 L (.int y0 :: .ref a :: st) (Wd mu la ro et) = (Rr X d MRm_keenOf 0 [.ref a, .int y0] [] (Wd mu la ro et)).bind fun q => Rr X (d + 1) MRm_soonest 62 L (psh q.1 st) q.2 := R_iv (av := [.int y0]) d_MRm_soonest_59 fc_10_177 hO (ckS_le hc) rfl (Nat.le_of_ble_eq_true rfl) (Nat.le_of_ble_eq_true rfl)
theorem r_MRm_soonest_62 {l0 l2 l3 l4 l5 l6 l7 : Value} {x : Int32} : Rr X d MRm_soonest 62 [l0, .int x, l2, l3, l4, l5, l6, l7] st h = Rr X d MRm_soonest 63 [l0, .int x, l2, l3, l4, l5, l6, l7] (.int x :: st) h := Rr_nx d_MRm_soonest_62 rfl
theorem r_MRm_soonest_63 {l0 l1 l3 l4 l5 l6 l7 : Value} {x : Int32} : Rr X d MRm_soonest 63 [l0, l1, .int x, l3, l4, l5, l6, l7] st h = Rr X d MRm_soonest 64 [l0, l1, .int x, l3, l4, l5, l6, l7] (.int x :: st) h := Rr_nx d_MRm_soonest_63 rfl
theorem r_MRm_soonest_64 {l0 l1 l2 l4 l5 l6 l7 : Value} {x : Int32} : Rr X d MRm_soonest 64 [l0, l1, l2, .int x, l4, l5, l6, l7] st h = Rr X d MRm_soonest 65 [l0, l1, l2, .int x, l4, l5, l6, l7] (.int x :: st) h := Rr_nx d_MRm_soonest_64 rfl
theorem r_MRm_soonest_65 {y0 : Int32} {y1 : Int32} {y2 : Int32} {y3 : Int32} {y4 : Int32} {a : Nat} (hO : qO a 10 = true) (hc : ckS st = true) : Rr X (d + 1) MRm_soonest 65 L (.int y4 :: .int y3 :: .int y2 :: .int y1 :: .int y0 :: .ref a :: st) (Wd mu la ro et) = (Rr X d MRm_goThrough 0 [.ref a, .int y0, .int y1, .int y2, .int y3, .int y4, mkU] [] (Wd mu la ro et)).bind fun q => Rr X (d + 1) MRm_soonest 68 L (psh q.1 st) q.2 := R_iv (av := [.int y4, .int y3, .int y2, .int y1, .int y0]) d_MRm_soonest_65 fc_10_325 hO (ckS_le hc) rfl (Nat.le_of_ble_eq_true rfl) (Nat.le_of_ble_eq_true rfl)
theorem r_MRm_soonest_68 {l1 l2 l3 l4 l5 l6 l7 : Value} {x : Nat} : Rr X d MRm_soonest 68 [.ref x, l1, l2, l3, l4, l5, l6, l7] st h = Rr X d MRm_soonest 69 [.ref x, l1, l2, l3, l4, l5, l6, l7] (.ref x :: st) h := Rr_nx d_MRm_soonest_68 rfl
theorem r_MRm_soonest_69 {a : Nat} (hq : qI a 10 44 = true) : Rr X d MRm_soonest 69 L (.ref a :: st) (Wd mu la ro et) = Rr X d MRm_soonest 72 L (.int (mu a 44) :: st) (Wd mu la ro et) := R_gfI d_MRm_soonest_69 ff_10_316 hq
theorem r_MRm_soonest_72 {x : Int32} : Rr X d MRm_soonest 72 L (.int x :: st) h = if x = 0 then Rr X d MRm_soonest 102 L st h else Rr X d MRm_soonest 75 L st h := R_if_eq d_MRm_soonest_72 (by decide)
theorem r_MRm_soonest_75 {l0 l1 l2 l3 l4 l6 l7 : Value} {x : Int32} : Rr X d MRm_soonest 75 [l0, l1, l2, l3, l4, .int x, l6, l7] st h = Rr X d MRm_soonest 77 [l0, l1, l2, l3, l4, .int x, l6, l7] (.int x :: st) h := Rr_nx d_MRm_soonest_75 rfl
theorem r_MRm_soonest_77 {x : Int32} : Rr X d MRm_soonest 77 L (.int x :: st) h = if x < 0 then Rr X d MRm_soonest 92 L st h else Rr X d MRm_soonest 80 L st h := R_if_lt d_MRm_soonest_77 (by decide)
theorem r_MRm_soonest_80 {l1 l2 l3 l4 l5 l6 l7 : Value} {x : Nat} : Rr X d MRm_soonest 80 [.ref x, l1, l2, l3, l4, l5, l6, l7] st h = Rr X d MRm_soonest 81 [.ref x, l1, l2, l3, l4, l5, l6, l7] (.ref x :: st) h := Rr_nx d_MRm_soonest_80 rfl
theorem r_MRm_soonest_81 {a : Nat} (hq : qI a 10 45 = true) : Rr X d MRm_soonest 81 L (.ref a :: st) (Wd mu la ro et) = Rr X d MRm_soonest 84 L (.int (mu a 45) :: st) (Wd mu la ro et) := R_gfI d_MRm_soonest_81 ff_10_319 hq
theorem r_MRm_soonest_84 {l0 l1 l2 l3 l4 l5 l7 : Value} {x : Int32} : Rr X d MRm_soonest 84 [l0, l1, l2, l3, l4, l5, .int x, l7] st h = Rr X d MRm_soonest 86 [l0, l1, l2, l3, l4, l5, .int x, l7] (.int x :: st) h := Rr_nx d_MRm_soonest_84 rfl
theorem r_MRm_soonest_86 {x y : Int32} : Rr X d MRm_soonest 86 L (.int y :: .int x :: st) h = if x < y then Rr X d MRm_soonest 92 L st h else Rr X d MRm_soonest 89 L st h := R_ic_lt d_MRm_soonest_86 (by decide)
theorem r_MRm_soonest_89 : Rr X d MRm_soonest 89 L st h = Rr X d MRm_soonest 102 L st h := R_goto d_MRm_soonest_89 (by decide)
theorem r_MRm_soonest_92 {l0 l1 l2 l3 l4 l5 l6 : Value} {x : Int32} : Rr X d MRm_soonest 92 [l0, l1, l2, l3, l4, l5, l6, .int x] st h = Rr X d MRm_soonest 94 [l0, l1, l2, l3, l4, l5, l6, .int x] (.int x :: st) h := Rr_nx d_MRm_soonest_92 rfl
theorem r_MRm_soonest_94 {l0 l1 l2 l3 l4 l5 l6 l7 : Value} {x : Int32} : Rr X d MRm_soonest 94 [l0, l1, l2, l3, l4, l5, l6, l7] (.int x :: st) h = Rr X d MRm_soonest 96 (sL [l0, l1, l2, l3, l4, l5, l6, l7] 5 (.int x)) st h := Rr_nx d_MRm_soonest_94 rfl
theorem r_MRm_soonest_96 {l1 l2 l3 l4 l5 l6 l7 : Value} {x : Nat} : Rr X d MRm_soonest 96 [.ref x, l1, l2, l3, l4, l5, l6, l7] st h = Rr X d MRm_soonest 97 [.ref x, l1, l2, l3, l4, l5, l6, l7] (.ref x :: st) h := Rr_nx d_MRm_soonest_96 rfl
theorem r_MRm_soonest_97 {a : Nat} (hq : qI a 10 45 = true) : Rr X d MRm_soonest 97 L (.ref a :: st) (Wd mu la ro et) = Rr X d MRm_soonest 100 L (.int (mu a 45) :: st) (Wd mu la ro et) := R_gfI d_MRm_soonest_97 ff_10_319 hq
theorem r_MRm_soonest_100 {l0 l1 l2 l3 l4 l5 l6 l7 : Value} {x : Int32} : Rr X d MRm_soonest 100 [l0, l1, l2, l3, l4, l5, l6, l7] (.int x :: st) h = Rr X d MRm_soonest 102 (sL [l0, l1, l2, l3, l4, l5, l6, l7] 6 (.int x)) st h := Rr_nx d_MRm_soonest_100 rfl
theorem r_MRm_soonest_102 {l0 l1 l2 l3 l4 l5 l6 : Value} {x : Int32} : Rr X d MRm_soonest 102 [l0, l1, l2, l3, l4, l5, l6, .int x] st h = Rr X d MRm_soonest 105 (sL [l0, l1, l2, l3, l4, l5, l6, .int x] 7 (.int (x + (1)))) st h := Rr_nx d_MRm_soonest_102 rfl
theorem r_MRm_soonest_105 : Rr X d MRm_soonest 105 L st h = Rr X d MRm_soonest 44 L st h := R_goto d_MRm_soonest_105 (by decide)
theorem r_MRm_soonest_108 {l0 l1 l2 l3 l4 l6 l7 : Value} {x : Int32} : Rr X d MRm_soonest 108 [l0, l1, l2, l3, l4, .int x, l6, l7] st h = Rr X d MRm_soonest 110 [l0, l1, l2, l3, l4, .int x, l6, l7] (.int x :: st) h := Rr_nx d_MRm_soonest_108 rfl
theorem r_MRm_soonest_110 {x : Int32} : Rr X d MRm_soonest 110 L (.int x :: st) h = if x < 0 then Rr X d MRm_soonest 118 L st h else Rr X d MRm_soonest 113 L st h := R_if_lt d_MRm_soonest_110 (by decide)
theorem r_MRm_soonest_113 {l0 l1 l2 l3 l5 l6 l7 : Value} {x : Int32} : Rr X d MRm_soonest 113 [l0, l1, l2, l3, .int x, l5, l6, l7] st h = Rr X d MRm_soonest 115 [l0, l1, l2, l3, .int x, l5, l6, l7] (.int x :: st) h := Rr_nx d_MRm_soonest_113 rfl
theorem r_MRm_soonest_115 {x : Int32} : Rr X d MRm_soonest 115 L (.int x :: st) h = if ¬ x = 0 then Rr X d MRm_soonest 123 L st h else Rr X d MRm_soonest 118 L st h := R_if_ne d_MRm_soonest_115 (by decide)
theorem r_MRm_soonest_118 {l0 l1 l2 l3 l4 l6 l7 : Value} {x : Int32} : Rr X d MRm_soonest 118 [l0, l1, l2, l3, l4, .int x, l6, l7] st h = Rr X d MRm_soonest 120 [l0, l1, l2, l3, l4, .int x, l6, l7] (.int x :: st) h := Rr_nx d_MRm_soonest_118 rfl
theorem r_MRm_soonest_120 : Rr X d MRm_soonest 120 L st h = Rr X d MRm_soonest 125 L st h := R_goto d_MRm_soonest_120 (by decide)
theorem r_MRm_soonest_123 {l0 l1 l2 l3 l4 l5 l7 : Value} {x : Int32} : Rr X d MRm_soonest 123 [l0, l1, l2, l3, l4, l5, .int x, l7] st h = Rr X d MRm_soonest 125 [l0, l1, l2, l3, l4, l5, .int x, l7] (.int x :: st) h := Rr_nx d_MRm_soonest_123 rfl
theorem r_MRm_soonest_125 {x : Int32} : Rr X d MRm_soonest 125 L [.int x] h = some (some (.int x), h) := R_ir d_MRm_soonest_125 rfl
theorem d_MRm_pressed_0 : decode MRm_pressed.2.2.1 0 = .ok (.aload_n 0, 1) := lkT_ok tk_MRm_pressed rfl
theorem d_MRm_pressed_1 : decode MRm_pressed.2.2.1 1 = .ok (.iload_n 1, 1) := lkT_ok tk_MRm_pressed rfl
theorem d_MRm_pressed_2 : decode MRm_pressed.2.2.1 2 = .ok (.invokevirtual 287, 3) := lkT_ok tk_MRm_pressed rfl
theorem d_MRm_pressed_5 : decode MRm_pressed.2.2.1 5 = .ok (.ifCond .eq 11, 3) := lkT_ok tk_MRm_pressed rfl
theorem d_MRm_pressed_8 : decode MRm_pressed.2.2.1 8 = .ok (.iconst 0, 1) := lkT_ok tk_MRm_pressed rfl
theorem d_MRm_pressed_9 : decode MRm_pressed.2.2.1 9 = .ok (.iload_n 2, 1) := lkT_ok tk_MRm_pressed rfl
theorem d_MRm_pressed_10 : decode MRm_pressed.2.2.1 10 = .ok (.invokestatic 290, 3) := lkT_ok tk_MRm_pressed rfl
theorem d_MRm_pressed_13 : decode MRm_pressed.2.2.1 13 = .ok (.ifCond .ne 6, 3) := lkT_ok tk_MRm_pressed rfl
theorem d_MRm_pressed_16 : decode MRm_pressed.2.2.1 16 = .ok (.ldc 176, 2) := lkT_ok tk_MRm_pressed rfl
theorem d_MRm_pressed_18 : decode MRm_pressed.2.2.1 18 = .ok (.ireturn, 1) := lkT_ok tk_MRm_pressed rfl
theorem d_MRm_pressed_19 : decode MRm_pressed.2.2.1 19 = .ok (.aload_n 0, 1) := lkT_ok tk_MRm_pressed rfl
theorem d_MRm_pressed_20 : decode MRm_pressed.2.2.1 20 = .ok (.iload_n 1, 1) := lkT_ok tk_MRm_pressed rfl
theorem d_MRm_pressed_21 : decode MRm_pressed.2.2.1 21 = .ok (.bipush 10, 2) := lkT_ok tk_MRm_pressed rfl
theorem d_MRm_pressed_23 : decode MRm_pressed.2.2.1 23 = .ok (.idiv, 1) := lkT_ok tk_MRm_pressed rfl
theorem d_MRm_pressed_24 : decode MRm_pressed.2.2.1 24 = .ok (.invokevirtual 177, 3) := lkT_ok tk_MRm_pressed rfl
theorem d_MRm_pressed_27 : decode MRm_pressed.2.2.1 27 = .ok (.istore_n 3, 1) := lkT_ok tk_MRm_pressed rfl
theorem d_MRm_pressed_28 : decode MRm_pressed.2.2.1 28 = .ok (.aload_n 0, 1) := lkT_ok tk_MRm_pressed rfl
theorem d_MRm_pressed_29 : decode MRm_pressed.2.2.1 29 = .ok (.iconst 0, 1) := lkT_ok tk_MRm_pressed rfl
theorem d_MRm_pressed_30 : decode MRm_pressed.2.2.1 30 = .ok (.iload_n 2, 1) := lkT_ok tk_MRm_pressed rfl
theorem d_MRm_pressed_31 : decode MRm_pressed.2.2.1 31 = .ok (.invokevirtual 294, 3) := lkT_ok tk_MRm_pressed rfl
theorem d_MRm_pressed_34 : decode MRm_pressed.2.2.1 34 = .ok (.iconst 0, 1) := lkT_ok tk_MRm_pressed rfl
theorem d_MRm_pressed_35 : decode MRm_pressed.2.2.1 35 = .ok (.istore 4, 2) := lkT_ok tk_MRm_pressed rfl
theorem d_MRm_pressed_37 : decode MRm_pressed.2.2.1 37 = .ok (.iconst 1, 1) := lkT_ok tk_MRm_pressed rfl
theorem d_MRm_pressed_38 : decode MRm_pressed.2.2.1 38 = .ok (.istore 5, 2) := lkT_ok tk_MRm_pressed rfl
theorem d_MRm_pressed_40 : decode MRm_pressed.2.2.1 40 = .ok (.iload 5, 2) := lkT_ok tk_MRm_pressed rfl
theorem d_MRm_pressed_42 : decode MRm_pressed.2.2.1 42 = .ok (.sipush 400, 3) := lkT_ok tk_MRm_pressed rfl
theorem d_MRm_pressed_45 : decode MRm_pressed.2.2.1 45 = .ok (.if_icmp .gt 33, 3) := lkT_ok tk_MRm_pressed rfl
theorem d_MRm_pressed_48 : decode MRm_pressed.2.2.1 48 = .ok (.aload_n 0, 1) := lkT_ok tk_MRm_pressed rfl
theorem d_MRm_pressed_49 : decode MRm_pressed.2.2.1 49 = .ok (.iload_n 1, 1) := lkT_ok tk_MRm_pressed rfl
theorem d_MRm_pressed_50 : decode MRm_pressed.2.2.1 50 = .ok (.bipush 10, 2) := lkT_ok tk_MRm_pressed rfl
theorem d_MRm_pressed_52 : decode MRm_pressed.2.2.1 52 = .ok (.idiv, 1) := lkT_ok tk_MRm_pressed rfl
theorem d_MRm_pressed_53 : decode MRm_pressed.2.2.1 53 = .ok (.iload_n 3, 1) := lkT_ok tk_MRm_pressed rfl
theorem d_MRm_pressed_54 : decode MRm_pressed.2.2.1 54 = .ok (.iload_n 1, 1) := lkT_ok tk_MRm_pressed rfl
theorem d_MRm_pressed_55 : decode MRm_pressed.2.2.1 55 = .ok (.bipush 10, 2) := lkT_ok tk_MRm_pressed rfl
theorem d_MRm_pressed_57 : decode MRm_pressed.2.2.1 57 = .ok (.irem, 1) := lkT_ok tk_MRm_pressed rfl
theorem d_MRm_pressed_58 : decode MRm_pressed.2.2.1 58 = .ok (.iload 5, 2) := lkT_ok tk_MRm_pressed rfl
theorem d_MRm_pressed_60 : decode MRm_pressed.2.2.1 60 = .ok (.invokevirtual 300, 3) := lkT_ok tk_MRm_pressed rfl
theorem d_MRm_pressed_63 : decode MRm_pressed.2.2.1 63 = .ok (.iload 4, 2) := lkT_ok tk_MRm_pressed rfl
theorem d_MRm_pressed_65 : decode MRm_pressed.2.2.1 65 = .ok (.aload_n 0, 1) := lkT_ok tk_MRm_pressed rfl
theorem d_MRm_pressed_66 : decode MRm_pressed.2.2.1 66 = .ok (.getfield 260, 3) := lkT_ok tk_MRm_pressed rfl
theorem d_MRm_pressed_69 : decode MRm_pressed.2.2.1 69 = .ok (.iadd, 1) := lkT_ok tk_MRm_pressed rfl
theorem d_MRm_pressed_70 : decode MRm_pressed.2.2.1 70 = .ok (.istore 4, 2) := lkT_ok tk_MRm_pressed rfl
theorem d_MRm_pressed_72 : decode MRm_pressed.2.2.1 72 = .ok (.iinc 5 1, 3) := lkT_ok tk_MRm_pressed rfl
theorem d_MRm_pressed_75 : decode MRm_pressed.2.2.1 75 = .ok (.goto (-35), 3) := lkT_ok tk_MRm_pressed rfl
theorem d_MRm_pressed_78 : decode MRm_pressed.2.2.1 78 = .ok (.iload 4, 2) := lkT_ok tk_MRm_pressed rfl
theorem d_MRm_pressed_80 : decode MRm_pressed.2.2.1 80 = .ok (.ireturn, 1) := lkT_ok tk_MRm_pressed rfl
theorem r_MRm_pressed_0 {l1 l2 l3 l4 l5 : Value} {x : Nat} : Rr X d MRm_pressed 0 [.ref x, l1, l2, l3, l4, l5] st h = Rr X d MRm_pressed 1 [.ref x, l1, l2, l3, l4, l5] (.ref x :: st) h := Rr_nx d_MRm_pressed_0 rfl
theorem r_MRm_pressed_1 {l0 l2 l3 l4 l5 : Value} {x : Int32} : Rr X d MRm_pressed 1 [l0, .int x, l2, l3, l4, l5] st h = Rr X d MRm_pressed 2 [l0, .int x, l2, l3, l4, l5] (.int x :: st) h := Rr_nx d_MRm_pressed_1 rfl
theorem r_MRm_pressed_2 {y0 : Int32} {a : Nat} (hO : qO a 10 = true) (hc : ckS st = true) : Rr X (d + 1) MRm_pressed 2 L (.int y0 :: .ref a :: st) (Wd mu la ro et) = (Rr X d MRm_isGoing 0 [.ref a, .int y0] [] (Wd mu la ro et)).bind fun q => Rr X (d + 1) MRm_pressed 5 L (psh q.1 st) q.2 := R_iv (av := [.int y0]) d_MRm_pressed_2 fc_10_287 hO (ckS_le hc) rfl (Nat.le_of_ble_eq_true rfl) (Nat.le_of_ble_eq_true rfl)
theorem r_MRm_pressed_5 {x : Int32} : Rr X d MRm_pressed 5 L (.int x :: st) h = if x = 0 then Rr X d MRm_pressed 16 L st h else Rr X d MRm_pressed 8 L st h := R_if_eq d_MRm_pressed_5 (by decide)
theorem r_MRm_pressed_8 : Rr X d MRm_pressed 8 L st h = Rr X d MRm_pressed 9 L (.int (0) :: st) h := Rr_nx d_MRm_pressed_8 rfl
theorem r_MRm_pressed_9 {l0 l1 l3 l4 l5 : Value} {x : Int32} : Rr X d MRm_pressed 9 [l0, l1, .int x, l3, l4, l5] st h = Rr X d MRm_pressed 10 [l0, l1, .int x, l3, l4, l5] (.int x :: st) h := Rr_nx d_MRm_pressed_9 rfl
theorem r_MRm_pressed_10 {y0 : Int32} {y1 : Int32} (hc : ckS st = true) : Rr X (d + 1) MRm_pressed 10 L (.int y1 :: .int y0 :: st) h = (Rr X d MRm_isStart 0 [.int y0, .int y1] [] h).bind fun q => Rr X (d + 1) MRm_pressed 13 L (psh q.1 st) q.2 := R_is (av := [.int y1, .int y0]) d_MRm_pressed_10 (Or.inl fc_10_290) (ckS_le hc) rfl (Nat.le_of_ble_eq_true rfl) (Nat.le_of_ble_eq_true rfl)
theorem r_MRm_pressed_13 {x : Int32} : Rr X d MRm_pressed 13 L (.int x :: st) h = if ¬ x = 0 then Rr X d MRm_pressed 19 L st h else Rr X d MRm_pressed 16 L st h := R_if_ne d_MRm_pressed_13 (by decide)
theorem r_MRm_pressed_16 : Rr X d MRm_pressed 16 L st h = Rr X d MRm_pressed 18 L (.int (-2000000000) :: st) h := Rr_nx d_MRm_pressed_16 rfl
theorem r_MRm_pressed_18 {x : Int32} : Rr X d MRm_pressed 18 L [.int x] h = some (some (.int x), h) := R_ir d_MRm_pressed_18 rfl
theorem r_MRm_pressed_19 {l1 l2 l3 l4 l5 : Value} {x : Nat} : Rr X d MRm_pressed 19 [.ref x, l1, l2, l3, l4, l5] st h = Rr X d MRm_pressed 20 [.ref x, l1, l2, l3, l4, l5] (.ref x :: st) h := Rr_nx d_MRm_pressed_19 rfl
theorem r_MRm_pressed_20 {l0 l2 l3 l4 l5 : Value} {x : Int32} : Rr X d MRm_pressed 20 [l0, .int x, l2, l3, l4, l5] st h = Rr X d MRm_pressed 21 [l0, .int x, l2, l3, l4, l5] (.int x :: st) h := Rr_nx d_MRm_pressed_20 rfl
theorem r_MRm_pressed_21 : Rr X d MRm_pressed 21 L st h = Rr X d MRm_pressed 23 L (.int (10) :: st) h := Rr_nx d_MRm_pressed_21 rfl
theorem r_MRm_pressed_23 {x y : Int32} : Rr X d MRm_pressed 23 L (.int y :: .int x :: st) h = if y = 0 then none else Rr X d MRm_pressed 24 L (.int (x / y) :: st) h := R_dv d_MRm_pressed_23
theorem r_MRm_pressed_24 {y0 : Int32} {a : Nat} (hO : qO a 10 = true) (hc : ckS st = true) : Rr X (d + 1) MRm_pressed 24 L (.int y0 :: .ref a :: st) (Wd mu la ro et) = (Rr X d MRm_keenOf 0 [.ref a, .int y0] [] (Wd mu la ro et)).bind fun q => Rr X (d + 1) MRm_pressed 27 L (psh q.1 st) q.2 := R_iv (av := [.int y0]) d_MRm_pressed_24 fc_10_177 hO (ckS_le hc) rfl (Nat.le_of_ble_eq_true rfl) (Nat.le_of_ble_eq_true rfl)
theorem r_MRm_pressed_27 {l0 l1 l2 l3 l4 l5 : Value} {x : Int32} : Rr X d MRm_pressed 27 [l0, l1, l2, l3, l4, l5] (.int x :: st) h = Rr X d MRm_pressed 28 (sL [l0, l1, l2, l3, l4, l5] 3 (.int x)) st h := Rr_nx d_MRm_pressed_27 rfl
theorem r_MRm_pressed_28 {l1 l2 l3 l4 l5 : Value} {x : Nat} : Rr X d MRm_pressed 28 [.ref x, l1, l2, l3, l4, l5] st h = Rr X d MRm_pressed 29 [.ref x, l1, l2, l3, l4, l5] (.ref x :: st) h := Rr_nx d_MRm_pressed_28 rfl
theorem r_MRm_pressed_29 : Rr X d MRm_pressed 29 L st h = Rr X d MRm_pressed 30 L (.int (0) :: st) h := Rr_nx d_MRm_pressed_29 rfl
theorem r_MRm_pressed_30 {l0 l1 l3 l4 l5 : Value} {x : Int32} : Rr X d MRm_pressed 30 [l0, l1, .int x, l3, l4, l5] st h = Rr X d MRm_pressed 31 [l0, l1, .int x, l3, l4, l5] (.int x :: st) h := Rr_nx d_MRm_pressed_30 rfl
theorem r_MRm_pressed_31 {y0 : Int32} {y1 : Int32} {a : Nat} (hO : qO a 10 = true) (hc : ckS st = true) : Rr X (d + 1) MRm_pressed 31 L (.int y1 :: .int y0 :: .ref a :: st) (Wd mu la ro et) = (Rr X d MRm_begin 0 [.ref a, .int y0, .int y1] [] (Wd mu la ro et)).bind fun q => Rr X (d + 1) MRm_pressed 34 L (psh q.1 st) q.2 := R_iv (av := [.int y1, .int y0]) d_MRm_pressed_31 fc_10_294 hO (ckS_le hc) rfl (Nat.le_of_ble_eq_true rfl) (Nat.le_of_ble_eq_true rfl)
theorem r_MRm_pressed_34 : Rr X d MRm_pressed 34 L st h = Rr X d MRm_pressed 35 L (.int (0) :: st) h := Rr_nx d_MRm_pressed_34 rfl
theorem r_MRm_pressed_35 {l0 l1 l2 l3 l4 l5 : Value} {x : Int32} : Rr X d MRm_pressed 35 [l0, l1, l2, l3, l4, l5] (.int x :: st) h = Rr X d MRm_pressed 37 (sL [l0, l1, l2, l3, l4, l5] 4 (.int x)) st h := Rr_nx d_MRm_pressed_35 rfl
theorem r_MRm_pressed_37 : Rr X d MRm_pressed 37 L st h = Rr X d MRm_pressed 38 L (.int (1) :: st) h := Rr_nx d_MRm_pressed_37 rfl
theorem r_MRm_pressed_38 {l0 l1 l2 l3 l4 l5 : Value} {x : Int32} : Rr X d MRm_pressed 38 [l0, l1, l2, l3, l4, l5] (.int x :: st) h = Rr X d MRm_pressed 40 (sL [l0, l1, l2, l3, l4, l5] 5 (.int x)) st h := Rr_nx d_MRm_pressed_38 rfl
theorem r_MRm_pressed_40 {l0 l1 l2 l3 l4 : Value} {x : Int32} : Rr X d MRm_pressed 40 [l0, l1, l2, l3, l4, .int x] st h = Rr X d MRm_pressed 42 [l0, l1, l2, l3, l4, .int x] (.int x :: st) h := Rr_nx d_MRm_pressed_40 rfl
theorem r_MRm_pressed_42 : Rr X d MRm_pressed 42 L st h = Rr X d MRm_pressed 45 L (.int (400) :: st) h := Rr_nx d_MRm_pressed_42 rfl
theorem r_MRm_pressed_45 {x y : Int32} : Rr X d MRm_pressed 45 L (.int y :: .int x :: st) h = if y < x then Rr X d MRm_pressed 78 L st h else Rr X d MRm_pressed 48 L st h := R_ic_gt d_MRm_pressed_45 (by decide)
theorem r_MRm_pressed_48 {l1 l2 l3 l4 l5 : Value} {x : Nat} : Rr X d MRm_pressed 48 [.ref x, l1, l2, l3, l4, l5] st h = Rr X d MRm_pressed 49 [.ref x, l1, l2, l3, l4, l5] (.ref x :: st) h := Rr_nx d_MRm_pressed_48 rfl
theorem r_MRm_pressed_49 {l0 l2 l3 l4 l5 : Value} {x : Int32} : Rr X d MRm_pressed 49 [l0, .int x, l2, l3, l4, l5] st h = Rr X d MRm_pressed 50 [l0, .int x, l2, l3, l4, l5] (.int x :: st) h := Rr_nx d_MRm_pressed_49 rfl
theorem r_MRm_pressed_50 : Rr X d MRm_pressed 50 L st h = Rr X d MRm_pressed 52 L (.int (10) :: st) h := Rr_nx d_MRm_pressed_50 rfl
theorem r_MRm_pressed_52 {x y : Int32} : Rr X d MRm_pressed 52 L (.int y :: .int x :: st) h = if y = 0 then none else Rr X d MRm_pressed 53 L (.int (x / y) :: st) h := R_dv d_MRm_pressed_52
theorem r_MRm_pressed_53 {l0 l1 l2 l4 l5 : Value} {x : Int32} : Rr X d MRm_pressed 53 [l0, l1, l2, .int x, l4, l5] st h = Rr X d MRm_pressed 54 [l0, l1, l2, .int x, l4, l5] (.int x :: st) h := Rr_nx d_MRm_pressed_53 rfl
theorem r_MRm_pressed_54 {l0 l2 l3 l4 l5 : Value} {x : Int32} : Rr X d MRm_pressed 54 [l0, .int x, l2, l3, l4, l5] st h = Rr X d MRm_pressed 55 [l0, .int x, l2, l3, l4, l5] (.int x :: st) h := Rr_nx d_MRm_pressed_54 rfl
theorem r_MRm_pressed_55 : Rr X d MRm_pressed 55 L st h = Rr X d MRm_pressed 57 L (.int (10) :: st) h := Rr_nx d_MRm_pressed_55 rfl
theorem r_MRm_pressed_57 {x y : Int32} : Rr X d MRm_pressed 57 L (.int y :: .int x :: st) h = if y = 0 then none else Rr X d MRm_pressed 58 L (.int (x - x / y * y) :: st) h := R_rm d_MRm_pressed_57
theorem r_MRm_pressed_58 {l0 l1 l2 l3 l4 : Value} {x : Int32} : Rr X d MRm_pressed 58 [l0, l1, l2, l3, l4, .int x] st h = Rr X d MRm_pressed 60 [l0, l1, l2, l3, l4, .int x] (.int x :: st) h := Rr_nx d_MRm_pressed_58 rfl
theorem r_MRm_pressed_60 {y0 : Int32} {y1 : Int32} {y2 : Int32} {y3 : Int32} {a : Nat} (hO : qO a 10 = true) (hc : ckS st = true) : Rr X (d + 1) MRm_pressed 60 L (.int y3 :: .int y2 :: .int y1 :: .int y0 :: .ref a :: st) (Wd mu la ro et) = (Rr X d MRm_go 0 [.ref a, .int y0, .int y1, .int y2, .int y3, mkU, mkU, mkU, mkU, mkU] [] (Wd mu la ro et)).bind fun q => Rr X (d + 1) MRm_pressed 63 L (psh q.1 st) q.2 := R_iv (av := [.int y3, .int y2, .int y1, .int y0]) d_MRm_pressed_60 fc_10_300 hO (ckS_le hc) rfl (Nat.le_of_ble_eq_true rfl) (Nat.le_of_ble_eq_true rfl)
theorem r_MRm_pressed_63 {l0 l1 l2 l3 l5 : Value} {x : Int32} : Rr X d MRm_pressed 63 [l0, l1, l2, l3, .int x, l5] st h = Rr X d MRm_pressed 65 [l0, l1, l2, l3, .int x, l5] (.int x :: st) h := Rr_nx d_MRm_pressed_63 rfl
theorem r_MRm_pressed_65 {l1 l2 l3 l4 l5 : Value} {x : Nat} : Rr X d MRm_pressed 65 [.ref x, l1, l2, l3, l4, l5] st h = Rr X d MRm_pressed 66 [.ref x, l1, l2, l3, l4, l5] (.ref x :: st) h := Rr_nx d_MRm_pressed_65 rfl
theorem r_MRm_pressed_66 {a : Nat} (hq : qI a 10 30 = true) : Rr X d MRm_pressed 66 L (.ref a :: st) (Wd mu la ro et) = Rr X d MRm_pressed 69 L (.int (mu a 30) :: st) (Wd mu la ro et) := R_gfI d_MRm_pressed_66 ff_10_260 hq
theorem r_MRm_pressed_69 {x y : Int32} : Rr X d MRm_pressed 69 L (.int y :: .int x :: st) h = Rr X d MRm_pressed 70 L (.int (x + y) :: st) h := Rr_nx d_MRm_pressed_69 rfl
theorem r_MRm_pressed_70 {l0 l1 l2 l3 l4 l5 : Value} {x : Int32} : Rr X d MRm_pressed 70 [l0, l1, l2, l3, l4, l5] (.int x :: st) h = Rr X d MRm_pressed 72 (sL [l0, l1, l2, l3, l4, l5] 4 (.int x)) st h := Rr_nx d_MRm_pressed_70 rfl
theorem r_MRm_pressed_72 {l0 l1 l2 l3 l4 : Value} {x : Int32} : Rr X d MRm_pressed 72 [l0, l1, l2, l3, l4, .int x] st h = Rr X d MRm_pressed 75 (sL [l0, l1, l2, l3, l4, .int x] 5 (.int (x + (1)))) st h := Rr_nx d_MRm_pressed_72 rfl
theorem r_MRm_pressed_75 : Rr X d MRm_pressed 75 L st h = Rr X d MRm_pressed 40 L st h := R_goto d_MRm_pressed_75 (by decide)
theorem r_MRm_pressed_78 {l0 l1 l2 l3 l5 : Value} {x : Int32} : Rr X d MRm_pressed 78 [l0, l1, l2, l3, .int x, l5] st h = Rr X d MRm_pressed 80 [l0, l1, l2, l3, .int x, l5] (.int x :: st) h := Rr_nx d_MRm_pressed_78 rfl
theorem r_MRm_pressed_80 {x : Int32} : Rr X d MRm_pressed 80 L [.int x] h = some (some (.int x), h) := R_ir d_MRm_pressed_80 rfl
theorem d_MRm_hands_0 : decode MRm_hands.2.2.1 0 = .ok (.aload_n 0, 1) := lkT_ok tk_MRm_hands rfl
theorem d_MRm_hands_1 : decode MRm_hands.2.2.1 1 = .ok (.iload_n 1, 1) := lkT_ok tk_MRm_hands rfl
theorem d_MRm_hands_2 : decode MRm_hands.2.2.1 2 = .ok (.invokevirtual 287, 3) := lkT_ok tk_MRm_hands rfl
theorem d_MRm_hands_5 : decode MRm_hands.2.2.1 5 = .ok (.ifCond .eq 13, 3) := lkT_ok tk_MRm_hands rfl
theorem d_MRm_hands_8 : decode MRm_hands.2.2.1 8 = .ok (.iload_n 3, 1) := lkT_ok tk_MRm_hands rfl
theorem d_MRm_hands_9 : decode MRm_hands.2.2.1 9 = .ok (.iconst 1, 1) := lkT_ok tk_MRm_hands rfl
theorem d_MRm_hands_10 : decode MRm_hands.2.2.1 10 = .ok (.bipush 20, 2) := lkT_ok tk_MRm_hands rfl
theorem d_MRm_hands_12 : decode MRm_hands.2.2.1 12 = .ok (.invokestatic 107, 3) := lkT_ok tk_MRm_hands rfl
theorem d_MRm_hands_15 : decode MRm_hands.2.2.1 15 = .ok (.ifCond .ne 5, 3) := lkT_ok tk_MRm_hands rfl
theorem d_MRm_hands_18 : decode MRm_hands.2.2.1 18 = .ok (.iconst (-1), 1) := lkT_ok tk_MRm_hands rfl
theorem d_MRm_hands_19 : decode MRm_hands.2.2.1 19 = .ok (.ireturn, 1) := lkT_ok tk_MRm_hands rfl
theorem d_MRm_hands_20 : decode MRm_hands.2.2.1 20 = .ok (.aload_n 0, 1) := lkT_ok tk_MRm_hands rfl
theorem d_MRm_hands_21 : decode MRm_hands.2.2.1 21 = .ok (.iload_n 2, 1) := lkT_ok tk_MRm_hands rfl
theorem d_MRm_hands_22 : decode MRm_hands.2.2.1 22 = .ok (.putfield 332, 3) := lkT_ok tk_MRm_hands rfl
theorem d_MRm_hands_25 : decode MRm_hands.2.2.1 25 = .ok (.iconst 0, 1) := lkT_ok tk_MRm_hands rfl
theorem d_MRm_hands_26 : decode MRm_hands.2.2.1 26 = .ok (.istore 4, 2) := lkT_ok tk_MRm_hands rfl
theorem d_MRm_hands_28 : decode MRm_hands.2.2.1 28 = .ok (.iconst 0, 1) := lkT_ok tk_MRm_hands rfl
theorem d_MRm_hands_29 : decode MRm_hands.2.2.1 29 = .ok (.istore 5, 2) := lkT_ok tk_MRm_hands rfl
theorem d_MRm_hands_31 : decode MRm_hands.2.2.1 31 = .ok (.iload 5, 2) := lkT_ok tk_MRm_hands rfl
theorem d_MRm_hands_33 : decode MRm_hands.2.2.1 33 = .ok (.iload_n 3, 1) := lkT_ok tk_MRm_hands rfl
theorem d_MRm_hands_34 : decode MRm_hands.2.2.1 34 = .ok (.if_icmp .ge 79, 3) := lkT_ok tk_MRm_hands rfl
theorem d_MRm_hands_37 : decode MRm_hands.2.2.1 37 = .ok (.aload_n 0, 1) := lkT_ok tk_MRm_hands rfl
theorem d_MRm_hands_38 : decode MRm_hands.2.2.1 38 = .ok (.sipush 1001, 3) := lkT_ok tk_MRm_hands rfl
theorem d_MRm_hands_41 : decode MRm_hands.2.2.1 41 = .ok (.invokevirtual 336, 3) := lkT_ok tk_MRm_hands rfl
theorem d_MRm_hands_44 : decode MRm_hands.2.2.1 44 = .ok (.sipush 500, 3) := lkT_ok tk_MRm_hands rfl
theorem d_MRm_hands_47 : decode MRm_hands.2.2.1 47 = .ok (.isub, 1) := lkT_ok tk_MRm_hands rfl
theorem d_MRm_hands_48 : decode MRm_hands.2.2.1 48 = .ok (.istore 6, 2) := lkT_ok tk_MRm_hands rfl
theorem d_MRm_hands_50 : decode MRm_hands.2.2.1 50 = .ok (.aload_n 0, 1) := lkT_ok tk_MRm_hands rfl
theorem d_MRm_hands_51 : decode MRm_hands.2.2.1 51 = .ok (.bipush 50, 2) := lkT_ok tk_MRm_hands rfl
theorem d_MRm_hands_53 : decode MRm_hands.2.2.1 53 = .ok (.invokevirtual 336, 3) := lkT_ok tk_MRm_hands rfl
theorem d_MRm_hands_56 : decode MRm_hands.2.2.1 56 = .ok (.istore 7, 2) := lkT_ok tk_MRm_hands rfl
theorem d_MRm_hands_58 : decode MRm_hands.2.2.1 58 = .ok (.aload_n 0, 1) := lkT_ok tk_MRm_hands rfl
theorem d_MRm_hands_59 : decode MRm_hands.2.2.1 59 = .ok (.bipush 50, 2) := lkT_ok tk_MRm_hands rfl
theorem d_MRm_hands_61 : decode MRm_hands.2.2.1 61 = .ok (.invokevirtual 336, 3) := lkT_ok tk_MRm_hands rfl
theorem d_MRm_hands_64 : decode MRm_hands.2.2.1 64 = .ok (.istore 8, 2) := lkT_ok tk_MRm_hands rfl
theorem d_MRm_hands_66 : decode MRm_hands.2.2.1 66 = .ok (.aload_n 0, 1) := lkT_ok tk_MRm_hands rfl
theorem d_MRm_hands_67 : decode MRm_hands.2.2.1 67 = .ok (.iload_n 1, 1) := lkT_ok tk_MRm_hands rfl
theorem d_MRm_hands_68 : decode MRm_hands.2.2.1 68 = .ok (.bipush 10, 2) := lkT_ok tk_MRm_hands rfl
theorem d_MRm_hands_70 : decode MRm_hands.2.2.1 70 = .ok (.idiv, 1) := lkT_ok tk_MRm_hands rfl
theorem d_MRm_hands_71 : decode MRm_hands.2.2.1 71 = .ok (.aload_n 0, 1) := lkT_ok tk_MRm_hands rfl
theorem d_MRm_hands_72 : decode MRm_hands.2.2.1 72 = .ok (.iload_n 1, 1) := lkT_ok tk_MRm_hands rfl
theorem d_MRm_hands_73 : decode MRm_hands.2.2.1 73 = .ok (.bipush 10, 2) := lkT_ok tk_MRm_hands rfl
theorem d_MRm_hands_75 : decode MRm_hands.2.2.1 75 = .ok (.idiv, 1) := lkT_ok tk_MRm_hands rfl
theorem d_MRm_hands_76 : decode MRm_hands.2.2.1 76 = .ok (.invokevirtual 177, 3) := lkT_ok tk_MRm_hands rfl
theorem d_MRm_hands_79 : decode MRm_hands.2.2.1 79 = .ok (.iload_n 1, 1) := lkT_ok tk_MRm_hands rfl
theorem d_MRm_hands_80 : decode MRm_hands.2.2.1 80 = .ok (.bipush 10, 2) := lkT_ok tk_MRm_hands rfl
theorem d_MRm_hands_82 : decode MRm_hands.2.2.1 82 = .ok (.irem, 1) := lkT_ok tk_MRm_hands rfl
theorem d_MRm_hands_83 : decode MRm_hands.2.2.1 83 = .ok (.iload 6, 2) := lkT_ok tk_MRm_hands rfl
theorem d_MRm_hands_85 : decode MRm_hands.2.2.1 85 = .ok (.sipush 1000, 3) := lkT_ok tk_MRm_hands rfl
theorem d_MRm_hands_88 : decode MRm_hands.2.2.1 88 = .ok (.iload 7, 2) := lkT_ok tk_MRm_hands rfl
theorem d_MRm_hands_90 : decode MRm_hands.2.2.1 90 = .ok (.imul, 1) := lkT_ok tk_MRm_hands rfl
theorem d_MRm_hands_91 : decode MRm_hands.2.2.1 91 = .ok (.iload 8, 2) := lkT_ok tk_MRm_hands rfl
theorem d_MRm_hands_93 : decode MRm_hands.2.2.1 93 = .ok (.iadd, 1) := lkT_ok tk_MRm_hands rfl
theorem d_MRm_hands_94 : decode MRm_hands.2.2.1 94 = .ok (.invokevirtual 325, 3) := lkT_ok tk_MRm_hands rfl
theorem d_MRm_hands_97 : decode MRm_hands.2.2.1 97 = .ok (.aload_n 0, 1) := lkT_ok tk_MRm_hands rfl
theorem d_MRm_hands_98 : decode MRm_hands.2.2.1 98 = .ok (.getfield 316, 3) := lkT_ok tk_MRm_hands rfl
theorem d_MRm_hands_101 : decode MRm_hands.2.2.1 101 = .ok (.ifCond .le 6, 3) := lkT_ok tk_MRm_hands rfl
theorem d_MRm_hands_104 : decode MRm_hands.2.2.1 104 = .ok (.iinc 4 1, 3) := lkT_ok tk_MRm_hands rfl
theorem d_MRm_hands_107 : decode MRm_hands.2.2.1 107 = .ok (.iinc 5 1, 3) := lkT_ok tk_MRm_hands rfl
theorem d_MRm_hands_110 : decode MRm_hands.2.2.1 110 = .ok (.goto (-79), 3) := lkT_ok tk_MRm_hands rfl
theorem d_MRm_hands_113 : decode MRm_hands.2.2.1 113 = .ok (.iload 4, 2) := lkT_ok tk_MRm_hands rfl
theorem d_MRm_hands_115 : decode MRm_hands.2.2.1 115 = .ok (.ireturn, 1) := lkT_ok tk_MRm_hands rfl
theorem r_MRm_hands_0 {l1 l2 l3 l4 l5 l6 l7 l8 : Value} {x : Nat} : Rr X d MRm_hands 0 [.ref x, l1, l2, l3, l4, l5, l6, l7, l8] st h = Rr X d MRm_hands 1 [.ref x, l1, l2, l3, l4, l5, l6, l7, l8] (.ref x :: st) h := Rr_nx d_MRm_hands_0 rfl
theorem r_MRm_hands_1 {l0 l2 l3 l4 l5 l6 l7 l8 : Value} {x : Int32} : Rr X d MRm_hands 1 [l0, .int x, l2, l3, l4, l5, l6, l7, l8] st h = Rr X d MRm_hands 2 [l0, .int x, l2, l3, l4, l5, l6, l7, l8] (.int x :: st) h := Rr_nx d_MRm_hands_1 rfl
theorem r_MRm_hands_2 {y0 : Int32} {a : Nat} (hO : qO a 10 = true) (hc : ckS st = true) : Rr X (d + 1) MRm_hands 2 L (.int y0 :: .ref a :: st) (Wd mu la ro et) = (Rr X d MRm_isGoing 0 [.ref a, .int y0] [] (Wd mu la ro et)).bind fun q => Rr X (d + 1) MRm_hands 5 L (psh q.1 st) q.2 := R_iv (av := [.int y0]) d_MRm_hands_2 fc_10_287 hO (ckS_le hc) rfl (Nat.le_of_ble_eq_true rfl) (Nat.le_of_ble_eq_true rfl)
theorem r_MRm_hands_5 {x : Int32} : Rr X d MRm_hands 5 L (.int x :: st) h = if x = 0 then Rr X d MRm_hands 18 L st h else Rr X d MRm_hands 8 L st h := R_if_eq d_MRm_hands_5 (by decide)
theorem r_MRm_hands_8 {l0 l1 l2 l4 l5 l6 l7 l8 : Value} {x : Int32} : Rr X d MRm_hands 8 [l0, l1, l2, .int x, l4, l5, l6, l7, l8] st h = Rr X d MRm_hands 9 [l0, l1, l2, .int x, l4, l5, l6, l7, l8] (.int x :: st) h := Rr_nx d_MRm_hands_8 rfl
theorem r_MRm_hands_9 : Rr X d MRm_hands 9 L st h = Rr X d MRm_hands 10 L (.int (1) :: st) h := Rr_nx d_MRm_hands_9 rfl
theorem r_MRm_hands_10 : Rr X d MRm_hands 10 L st h = Rr X d MRm_hands 12 L (.int (20) :: st) h := Rr_nx d_MRm_hands_10 rfl
theorem r_MRm_hands_12 {y0 : Int32} {y1 : Int32} {y2 : Int32} (hc : ckS st = true) : Rr X (d + 1) MRm_hands 12 L (.int y2 :: .int y1 :: .int y0 :: st) h = (Rr X d MRm_in 0 [.int y0, .int y1, .int y2] [] h).bind fun q => Rr X (d + 1) MRm_hands 15 L (psh q.1 st) q.2 := R_is (av := [.int y2, .int y1, .int y0]) d_MRm_hands_12 (Or.inl fc_10_107) (ckS_le hc) rfl (Nat.le_of_ble_eq_true rfl) (Nat.le_of_ble_eq_true rfl)
theorem r_MRm_hands_15 {x : Int32} : Rr X d MRm_hands 15 L (.int x :: st) h = if ¬ x = 0 then Rr X d MRm_hands 20 L st h else Rr X d MRm_hands 18 L st h := R_if_ne d_MRm_hands_15 (by decide)
theorem r_MRm_hands_18 : Rr X d MRm_hands 18 L st h = Rr X d MRm_hands 19 L (.int (-1) :: st) h := Rr_nx d_MRm_hands_18 rfl
theorem r_MRm_hands_19 {x : Int32} : Rr X d MRm_hands 19 L [.int x] h = some (some (.int x), h) := R_ir d_MRm_hands_19 rfl
theorem r_MRm_hands_20 {l1 l2 l3 l4 l5 l6 l7 l8 : Value} {x : Nat} : Rr X d MRm_hands 20 [.ref x, l1, l2, l3, l4, l5, l6, l7, l8] st h = Rr X d MRm_hands 21 [.ref x, l1, l2, l3, l4, l5, l6, l7, l8] (.ref x :: st) h := Rr_nx d_MRm_hands_20 rfl
theorem r_MRm_hands_21 {l0 l1 l3 l4 l5 l6 l7 l8 : Value} {x : Int32} : Rr X d MRm_hands 21 [l0, l1, .int x, l3, l4, l5, l6, l7, l8] st h = Rr X d MRm_hands 22 [l0, l1, .int x, l3, l4, l5, l6, l7, l8] (.int x :: st) h := Rr_nx d_MRm_hands_21 rfl
theorem ff_10_332 : fF 10 332 = some (10, 46, 0, 0) := rfl
theorem r_MRm_hands_22 {a : Nat} {x : Int32} (hq : qI a 10 46 = true) : Rr X d MRm_hands 22 L (.int x :: .ref a :: st) (Wd mu la ro et) = Rr X d MRm_hands 25 L st (Wd (up2 mu a 46 x) la ro et) := R_pfI d_MRm_hands_22 ff_10_332 hq
theorem r_MRm_hands_25 : Rr X d MRm_hands 25 L st h = Rr X d MRm_hands 26 L (.int (0) :: st) h := Rr_nx d_MRm_hands_25 rfl
theorem r_MRm_hands_26 {l0 l1 l2 l3 l4 l5 l6 l7 l8 : Value} {x : Int32} : Rr X d MRm_hands 26 [l0, l1, l2, l3, l4, l5, l6, l7, l8] (.int x :: st) h = Rr X d MRm_hands 28 (sL [l0, l1, l2, l3, l4, l5, l6, l7, l8] 4 (.int x)) st h := Rr_nx d_MRm_hands_26 rfl
theorem r_MRm_hands_28 : Rr X d MRm_hands 28 L st h = Rr X d MRm_hands 29 L (.int (0) :: st) h := Rr_nx d_MRm_hands_28 rfl
theorem r_MRm_hands_29 {l0 l1 l2 l3 l4 l5 l6 l7 l8 : Value} {x : Int32} : Rr X d MRm_hands 29 [l0, l1, l2, l3, l4, l5, l6, l7, l8] (.int x :: st) h = Rr X d MRm_hands 31 (sL [l0, l1, l2, l3, l4, l5, l6, l7, l8] 5 (.int x)) st h := Rr_nx d_MRm_hands_29 rfl
theorem r_MRm_hands_31 {l0 l1 l2 l3 l4 l6 l7 l8 : Value} {x : Int32} : Rr X d MRm_hands 31 [l0, l1, l2, l3, l4, .int x, l6, l7, l8] st h = Rr X d MRm_hands 33 [l0, l1, l2, l3, l4, .int x, l6, l7, l8] (.int x :: st) h := Rr_nx d_MRm_hands_31 rfl
theorem r_MRm_hands_33 {l0 l1 l2 l4 l5 l6 l7 l8 : Value} {x : Int32} : Rr X d MRm_hands 33 [l0, l1, l2, .int x, l4, l5, l6, l7, l8] st h = Rr X d MRm_hands 34 [l0, l1, l2, .int x, l4, l5, l6, l7, l8] (.int x :: st) h := Rr_nx d_MRm_hands_33 rfl
theorem r_MRm_hands_34 {x y : Int32} : Rr X d MRm_hands 34 L (.int y :: .int x :: st) h = if y ≤ x then Rr X d MRm_hands 113 L st h else Rr X d MRm_hands 37 L st h := R_ic_ge d_MRm_hands_34 (by decide)
theorem r_MRm_hands_37 {l1 l2 l3 l4 l5 l6 l7 l8 : Value} {x : Nat} : Rr X d MRm_hands 37 [.ref x, l1, l2, l3, l4, l5, l6, l7, l8] st h = Rr X d MRm_hands 38 [.ref x, l1, l2, l3, l4, l5, l6, l7, l8] (.ref x :: st) h := Rr_nx d_MRm_hands_37 rfl
theorem r_MRm_hands_38 : Rr X d MRm_hands 38 L st h = Rr X d MRm_hands 41 L (.int (1001) :: st) h := Rr_nx d_MRm_hands_38 rfl
theorem fc_10_336 : fC 10 336 = some (0, 10, 1, MRm_draw) := rfl
theorem r_MRm_hands_41 {y0 : Int32} {a : Nat} (hO : qO a 10 = true) (hc : ckS st = true) : Rr X (d + 1) MRm_hands 41 L (.int y0 :: .ref a :: st) (Wd mu la ro et) = (Rr X d MRm_draw 0 [.ref a, .int y0] [] (Wd mu la ro et)).bind fun q => Rr X (d + 1) MRm_hands 44 L (psh q.1 st) q.2 := R_iv (av := [.int y0]) d_MRm_hands_41 fc_10_336 hO (ckS_le hc) rfl (Nat.le_of_ble_eq_true rfl) (Nat.le_of_ble_eq_true rfl)
theorem r_MRm_hands_44 : Rr X d MRm_hands 44 L st h = Rr X d MRm_hands 47 L (.int (500) :: st) h := Rr_nx d_MRm_hands_44 rfl
theorem r_MRm_hands_47 {x y : Int32} : Rr X d MRm_hands 47 L (.int y :: .int x :: st) h = Rr X d MRm_hands 48 L (.int (x - y) :: st) h := Rr_nx d_MRm_hands_47 rfl
theorem r_MRm_hands_48 {l0 l1 l2 l3 l4 l5 l6 l7 l8 : Value} {x : Int32} : Rr X d MRm_hands 48 [l0, l1, l2, l3, l4, l5, l6, l7, l8] (.int x :: st) h = Rr X d MRm_hands 50 (sL [l0, l1, l2, l3, l4, l5, l6, l7, l8] 6 (.int x)) st h := Rr_nx d_MRm_hands_48 rfl
theorem r_MRm_hands_50 {l1 l2 l3 l4 l5 l6 l7 l8 : Value} {x : Nat} : Rr X d MRm_hands 50 [.ref x, l1, l2, l3, l4, l5, l6, l7, l8] st h = Rr X d MRm_hands 51 [.ref x, l1, l2, l3, l4, l5, l6, l7, l8] (.ref x :: st) h := Rr_nx d_MRm_hands_50 rfl
theorem r_MRm_hands_51 : Rr X d MRm_hands 51 L st h = Rr X d MRm_hands 53 L (.int (50) :: st) h := Rr_nx d_MRm_hands_51 rfl
theorem r_MRm_hands_53 {y0 : Int32} {a : Nat} (hO : qO a 10 = true) (hc : ckS st = true) : Rr X (d + 1) MRm_hands 53 L (.int y0 :: .ref a :: st) (Wd mu la ro et) = (Rr X d MRm_draw 0 [.ref a, .int y0] [] (Wd mu la ro et)).bind fun q => Rr X (d + 1) MRm_hands 56 L (psh q.1 st) q.2 := R_iv (av := [.int y0]) d_MRm_hands_53 fc_10_336 hO (ckS_le hc) rfl (Nat.le_of_ble_eq_true rfl) (Nat.le_of_ble_eq_true rfl)
theorem r_MRm_hands_56 {l0 l1 l2 l3 l4 l5 l6 l7 l8 : Value} {x : Int32} : Rr X d MRm_hands 56 [l0, l1, l2, l3, l4, l5, l6, l7, l8] (.int x :: st) h = Rr X d MRm_hands 58 (sL [l0, l1, l2, l3, l4, l5, l6, l7, l8] 7 (.int x)) st h := Rr_nx d_MRm_hands_56 rfl
theorem r_MRm_hands_58 {l1 l2 l3 l4 l5 l6 l7 l8 : Value} {x : Nat} : Rr X d MRm_hands 58 [.ref x, l1, l2, l3, l4, l5, l6, l7, l8] st h = Rr X d MRm_hands 59 [.ref x, l1, l2, l3, l4, l5, l6, l7, l8] (.ref x :: st) h := Rr_nx d_MRm_hands_58 rfl
theorem r_MRm_hands_59 : Rr X d MRm_hands 59 L st h = Rr X d MRm_hands 61 L (.int (50) :: st) h := Rr_nx d_MRm_hands_59 rfl
theorem r_MRm_hands_61 {y0 : Int32} {a : Nat} (hO : qO a 10 = true) (hc : ckS st = true) : Rr X (d + 1) MRm_hands 61 L (.int y0 :: .ref a :: st) (Wd mu la ro et) = (Rr X d MRm_draw 0 [.ref a, .int y0] [] (Wd mu la ro et)).bind fun q => Rr X (d + 1) MRm_hands 64 L (psh q.1 st) q.2 := R_iv (av := [.int y0]) d_MRm_hands_61 fc_10_336 hO (ckS_le hc) rfl (Nat.le_of_ble_eq_true rfl) (Nat.le_of_ble_eq_true rfl)
theorem r_MRm_hands_64 {l0 l1 l2 l3 l4 l5 l6 l7 l8 : Value} {x : Int32} : Rr X d MRm_hands 64 [l0, l1, l2, l3, l4, l5, l6, l7, l8] (.int x :: st) h = Rr X d MRm_hands 66 (sL [l0, l1, l2, l3, l4, l5, l6, l7, l8] 8 (.int x)) st h := Rr_nx d_MRm_hands_64 rfl
theorem r_MRm_hands_66 {l1 l2 l3 l4 l5 l6 l7 l8 : Value} {x : Nat} : Rr X d MRm_hands 66 [.ref x, l1, l2, l3, l4, l5, l6, l7, l8] st h = Rr X d MRm_hands 67 [.ref x, l1, l2, l3, l4, l5, l6, l7, l8] (.ref x :: st) h := Rr_nx d_MRm_hands_66 rfl
theorem r_MRm_hands_67 {l0 l2 l3 l4 l5 l6 l7 l8 : Value} {x : Int32} : Rr X d MRm_hands 67 [l0, .int x, l2, l3, l4, l5, l6, l7, l8] st h = Rr X d MRm_hands 68 [l0, .int x, l2, l3, l4, l5, l6, l7, l8] (.int x :: st) h := Rr_nx d_MRm_hands_67 rfl
theorem r_MRm_hands_68 : Rr X d MRm_hands 68 L st h = Rr X d MRm_hands 70 L (.int (10) :: st) h := Rr_nx d_MRm_hands_68 rfl
theorem r_MRm_hands_70 {x y : Int32} : Rr X d MRm_hands 70 L (.int y :: .int x :: st) h = if y = 0 then none else Rr X d MRm_hands 71 L (.int (x / y) :: st) h := R_dv d_MRm_hands_70
theorem r_MRm_hands_71 {l1 l2 l3 l4 l5 l6 l7 l8 : Value} {x : Nat} : Rr X d MRm_hands 71 [.ref x, l1, l2, l3, l4, l5, l6, l7, l8] st h = Rr X d MRm_hands 72 [.ref x, l1, l2, l3, l4, l5, l6, l7, l8] (.ref x :: st) h := Rr_nx d_MRm_hands_71 rfl
theorem r_MRm_hands_72 {l0 l2 l3 l4 l5 l6 l7 l8 : Value} {x : Int32} : Rr X d MRm_hands 72 [l0, .int x, l2, l3, l4, l5, l6, l7, l8] st h = Rr X d MRm_hands 73 [l0, .int x, l2, l3, l4, l5, l6, l7, l8] (.int x :: st) h := Rr_nx d_MRm_hands_72 rfl
theorem r_MRm_hands_73 : Rr X d MRm_hands 73 L st h = Rr X d MRm_hands 75 L (.int (10) :: st) h := Rr_nx d_MRm_hands_73 rfl
theorem r_MRm_hands_75 {x y : Int32} : Rr X d MRm_hands 75 L (.int y :: .int x :: st) h = if y = 0 then none else Rr X d MRm_hands 76 L (.int (x / y) :: st) h := R_dv d_MRm_hands_75
theorem r_MRm_hands_76 {y0 : Int32} {a : Nat} (hO : qO a 10 = true) (hc : ckS st = true) : Rr X (d + 1) MRm_hands 76 L (.int y0 :: .ref a :: st) (Wd mu la ro et) = (Rr X d MRm_keenOf 0 [.ref a, .int y0] [] (Wd mu la ro et)).bind fun q => Rr X (d + 1) MRm_hands 79 L (psh q.1 st) q.2 := R_iv (av := [.int y0]) d_MRm_hands_76 fc_10_177 hO (ckS_le hc) rfl (Nat.le_of_ble_eq_true rfl) (Nat.le_of_ble_eq_true rfl)
theorem r_MRm_hands_79 {l0 l2 l3 l4 l5 l6 l7 l8 : Value} {x : Int32} : Rr X d MRm_hands 79 [l0, .int x, l2, l3, l4, l5, l6, l7, l8] st h = Rr X d MRm_hands 80 [l0, .int x, l2, l3, l4, l5, l6, l7, l8] (.int x :: st) h := Rr_nx d_MRm_hands_79 rfl
theorem r_MRm_hands_80 : Rr X d MRm_hands 80 L st h = Rr X d MRm_hands 82 L (.int (10) :: st) h := Rr_nx d_MRm_hands_80 rfl
theorem r_MRm_hands_82 {x y : Int32} : Rr X d MRm_hands 82 L (.int y :: .int x :: st) h = if y = 0 then none else Rr X d MRm_hands 83 L (.int (x - x / y * y) :: st) h := R_rm d_MRm_hands_82
theorem r_MRm_hands_83 {l0 l1 l2 l3 l4 l5 l7 l8 : Value} {x : Int32} : Rr X d MRm_hands 83 [l0, l1, l2, l3, l4, l5, .int x, l7, l8] st h = Rr X d MRm_hands 85 [l0, l1, l2, l3, l4, l5, .int x, l7, l8] (.int x :: st) h := Rr_nx d_MRm_hands_83 rfl
theorem r_MRm_hands_85 : Rr X d MRm_hands 85 L st h = Rr X d MRm_hands 88 L (.int (1000) :: st) h := Rr_nx d_MRm_hands_85 rfl
theorem r_MRm_hands_88 {l0 l1 l2 l3 l4 l5 l6 l8 : Value} {x : Int32} : Rr X d MRm_hands 88 [l0, l1, l2, l3, l4, l5, l6, .int x, l8] st h = Rr X d MRm_hands 90 [l0, l1, l2, l3, l4, l5, l6, .int x, l8] (.int x :: st) h := Rr_nx d_MRm_hands_88 rfl
theorem r_MRm_hands_90 {x y : Int32} : Rr X d MRm_hands 90 L (.int y :: .int x :: st) h = Rr X d MRm_hands 91 L (.int (x * y) :: st) h := Rr_nx d_MRm_hands_90 rfl
theorem r_MRm_hands_91 {l0 l1 l2 l3 l4 l5 l6 l7 : Value} {x : Int32} : Rr X d MRm_hands 91 [l0, l1, l2, l3, l4, l5, l6, l7, .int x] st h = Rr X d MRm_hands 93 [l0, l1, l2, l3, l4, l5, l6, l7, .int x] (.int x :: st) h := Rr_nx d_MRm_hands_91 rfl
theorem r_MRm_hands_93 {x y : Int32} : Rr X d MRm_hands 93 L (.int y :: .int x :: st) h = Rr X d MRm_hands 94 L (.int (x + y) :: st) h := Rr_nx d_MRm_hands_93 rfl
theorem r_MRm_hands_94 {y0 : Int32} {y1 : Int32} {y2 : Int32} {y3 : Int32} {y4 : Int32} {a : Nat} (hO : qO a 10 = true) (hc : ckS st = true) : Rr X (d + 1) MRm_hands 94 L (.int y4 :: .int y3 :: .int y2 :: .int y1 :: .int y0 :: .ref a :: st) (Wd mu la ro et) = (Rr X d MRm_goThrough 0 [.ref a, .int y0, .int y1, .int y2, .int y3, .int y4, mkU] [] (Wd mu la ro et)).bind fun q => Rr X (d + 1) MRm_hands 97 L (psh q.1 st) q.2 := R_iv (av := [.int y4, .int y3, .int y2, .int y1, .int y0]) d_MRm_hands_94 fc_10_325 hO (ckS_le hc) rfl (Nat.le_of_ble_eq_true rfl) (Nat.le_of_ble_eq_true rfl)
theorem r_MRm_hands_97 {l1 l2 l3 l4 l5 l6 l7 l8 : Value} {x : Nat} : Rr X d MRm_hands 97 [.ref x, l1, l2, l3, l4, l5, l6, l7, l8] st h = Rr X d MRm_hands 98 [.ref x, l1, l2, l3, l4, l5, l6, l7, l8] (.ref x :: st) h := Rr_nx d_MRm_hands_97 rfl
theorem r_MRm_hands_98 {a : Nat} (hq : qI a 10 44 = true) : Rr X d MRm_hands 98 L (.ref a :: st) (Wd mu la ro et) = Rr X d MRm_hands 101 L (.int (mu a 44) :: st) (Wd mu la ro et) := R_gfI d_MRm_hands_98 ff_10_316 hq
theorem r_MRm_hands_101 {x : Int32} : Rr X d MRm_hands 101 L (.int x :: st) h = if x ≤ 0 then Rr X d MRm_hands 107 L st h else Rr X d MRm_hands 104 L st h := R_if_le d_MRm_hands_101 (by decide)
theorem r_MRm_hands_104 {l0 l1 l2 l3 l5 l6 l7 l8 : Value} {x : Int32} : Rr X d MRm_hands 104 [l0, l1, l2, l3, .int x, l5, l6, l7, l8] st h = Rr X d MRm_hands 107 (sL [l0, l1, l2, l3, .int x, l5, l6, l7, l8] 4 (.int (x + (1)))) st h := Rr_nx d_MRm_hands_104 rfl
theorem r_MRm_hands_107 {l0 l1 l2 l3 l4 l6 l7 l8 : Value} {x : Int32} : Rr X d MRm_hands 107 [l0, l1, l2, l3, l4, .int x, l6, l7, l8] st h = Rr X d MRm_hands 110 (sL [l0, l1, l2, l3, l4, .int x, l6, l7, l8] 5 (.int (x + (1)))) st h := Rr_nx d_MRm_hands_107 rfl
theorem r_MRm_hands_110 : Rr X d MRm_hands 110 L st h = Rr X d MRm_hands 31 L st h := R_goto d_MRm_hands_110 (by decide)
theorem r_MRm_hands_113 {l0 l1 l2 l3 l5 l6 l7 l8 : Value} {x : Int32} : Rr X d MRm_hands 113 [l0, l1, l2, l3, .int x, l5, l6, l7, l8] st h = Rr X d MRm_hands 115 [l0, l1, l2, l3, .int x, l5, l6, l7, l8] (.int x :: st) h := Rr_nx d_MRm_hands_113 rfl
theorem r_MRm_hands_115 {x : Int32} : Rr X d MRm_hands 115 L [.int x] h = some (some (.int x), h) := R_ir d_MRm_hands_115 rfl
theorem d_MRm_draw_0 : decode MRm_draw.2.2.1 0 = .ok (.aload_n 0, 1) := lkT_ok tk_MRm_draw rfl
theorem d_MRm_draw_1 : decode MRm_draw.2.2.1 1 = .ok (.aload_n 0, 1) := lkT_ok tk_MRm_draw rfl
theorem d_MRm_draw_2 : decode MRm_draw.2.2.1 2 = .ok (.getfield 332, 3) := lkT_ok tk_MRm_draw rfl
theorem d_MRm_draw_5 : decode MRm_draw.2.2.1 5 = .ok (.ldc_w 335, 3) := lkT_ok tk_MRm_draw rfl
theorem d_MRm_draw_8 : decode MRm_draw.2.2.1 8 = .ok (.imul, 1) := lkT_ok tk_MRm_draw rfl
theorem d_MRm_draw_9 : decode MRm_draw.2.2.1 9 = .ok (.sipush 12345, 3) := lkT_ok tk_MRm_draw rfl
theorem d_MRm_draw_12 : decode MRm_draw.2.2.1 12 = .ok (.iadd, 1) := lkT_ok tk_MRm_draw rfl
theorem d_MRm_draw_13 : decode MRm_draw.2.2.1 13 = .ok (.putfield 332, 3) := lkT_ok tk_MRm_draw rfl
theorem d_MRm_draw_16 : decode MRm_draw.2.2.1 16 = .ok (.aload_n 0, 1) := lkT_ok tk_MRm_draw rfl
theorem d_MRm_draw_17 : decode MRm_draw.2.2.1 17 = .ok (.getfield 332, 3) := lkT_ok tk_MRm_draw rfl
theorem d_MRm_draw_20 : decode MRm_draw.2.2.1 20 = .ok (.bipush 8, 2) := lkT_ok tk_MRm_draw rfl
theorem d_MRm_draw_22 : decode MRm_draw.2.2.1 22 = .ok (.iushr, 1) := lkT_ok tk_MRm_draw rfl
theorem d_MRm_draw_23 : decode MRm_draw.2.2.1 23 = .ok (.iload_n 1, 1) := lkT_ok tk_MRm_draw rfl
theorem d_MRm_draw_24 : decode MRm_draw.2.2.1 24 = .ok (.irem, 1) := lkT_ok tk_MRm_draw rfl
theorem d_MRm_draw_25 : decode MRm_draw.2.2.1 25 = .ok (.ireturn, 1) := lkT_ok tk_MRm_draw rfl
theorem r_MRm_draw_0 {l1 : Value} {x : Nat} : Rr X d MRm_draw 0 [.ref x, l1] st h = Rr X d MRm_draw 1 [.ref x, l1] (.ref x :: st) h := Rr_nx d_MRm_draw_0 rfl
theorem r_MRm_draw_1 {l1 : Value} {x : Nat} : Rr X d MRm_draw 1 [.ref x, l1] st h = Rr X d MRm_draw 2 [.ref x, l1] (.ref x :: st) h := Rr_nx d_MRm_draw_1 rfl
theorem r_MRm_draw_2 {a : Nat} (hq : qI a 10 46 = true) : Rr X d MRm_draw 2 L (.ref a :: st) (Wd mu la ro et) = Rr X d MRm_draw 5 L (.int (mu a 46) :: st) (Wd mu la ro et) := R_gfI d_MRm_draw_2 ff_10_332 hq
theorem r_MRm_draw_5 : Rr X d MRm_draw 5 L st h = Rr X d MRm_draw 8 L (.int (1103515245) :: st) h := Rr_nx d_MRm_draw_5 rfl
theorem r_MRm_draw_8 {x y : Int32} : Rr X d MRm_draw 8 L (.int y :: .int x :: st) h = Rr X d MRm_draw 9 L (.int (x * y) :: st) h := Rr_nx d_MRm_draw_8 rfl
theorem r_MRm_draw_9 : Rr X d MRm_draw 9 L st h = Rr X d MRm_draw 12 L (.int (12345) :: st) h := Rr_nx d_MRm_draw_9 rfl
theorem r_MRm_draw_12 {x y : Int32} : Rr X d MRm_draw 12 L (.int y :: .int x :: st) h = Rr X d MRm_draw 13 L (.int (x + y) :: st) h := Rr_nx d_MRm_draw_12 rfl
theorem r_MRm_draw_13 {a : Nat} {x : Int32} (hq : qI a 10 46 = true) : Rr X d MRm_draw 13 L (.int x :: .ref a :: st) (Wd mu la ro et) = Rr X d MRm_draw 16 L st (Wd (up2 mu a 46 x) la ro et) := R_pfI d_MRm_draw_13 ff_10_332 hq
theorem r_MRm_draw_16 {l1 : Value} {x : Nat} : Rr X d MRm_draw 16 [.ref x, l1] st h = Rr X d MRm_draw 17 [.ref x, l1] (.ref x :: st) h := Rr_nx d_MRm_draw_16 rfl
theorem r_MRm_draw_17 {a : Nat} (hq : qI a 10 46 = true) : Rr X d MRm_draw 17 L (.ref a :: st) (Wd mu la ro et) = Rr X d MRm_draw 20 L (.int (mu a 46) :: st) (Wd mu la ro et) := R_gfI d_MRm_draw_17 ff_10_332 hq
theorem r_MRm_draw_20 : Rr X d MRm_draw 20 L st h = Rr X d MRm_draw 22 L (.int (8) :: st) h := Rr_nx d_MRm_draw_20 rfl
theorem r_MRm_draw_22 {x y : Int32} : Rr X d MRm_draw 22 L (.int y :: .int x :: st) h = Rr X d MRm_draw 23 L (.int ((x.toUInt32 >>> (y.toUInt32 &&& Int32.toUInt32 31)).toInt32) :: st) h := Rr_nx d_MRm_draw_22 rfl
theorem r_MRm_draw_23 {l0 : Value} {x : Int32} : Rr X d MRm_draw 23 [l0, .int x] st h = Rr X d MRm_draw 24 [l0, .int x] (.int x :: st) h := Rr_nx d_MRm_draw_23 rfl
theorem r_MRm_draw_24 {x y : Int32} : Rr X d MRm_draw 24 L (.int y :: .int x :: st) h = if y = 0 then none else Rr X d MRm_draw 25 L (.int (x - x / y * y) :: st) h := R_rm d_MRm_draw_24
theorem r_MRm_draw_25 {x : Int32} : Rr X d MRm_draw 25 L [.int x] h = some (some (.int x), h) := R_ir d_MRm_draw_25 rfl
theorem d_MRm_back_0 : decode MRm_back.2.2.1 0 = .ok (.iload_n 1, 1) := lkT_ok tk_MRm_back rfl
theorem d_MRm_back_1 : decode MRm_back.2.2.1 1 = .ok (.iconst (-1), 1) := lkT_ok tk_MRm_back rfl
theorem d_MRm_back_2 : decode MRm_back.2.2.1 2 = .ok (.if_icmp .ge 5, 3) := lkT_ok tk_MRm_back rfl
theorem d_MRm_back_5 : decode MRm_back.2.2.1 5 = .ok (.iconst (-1), 1) := lkT_ok tk_MRm_back rfl
theorem d_MRm_back_6 : decode MRm_back.2.2.1 6 = .ok (.ireturn, 1) := lkT_ok tk_MRm_back rfl
theorem d_MRm_back_7 : decode MRm_back.2.2.1 7 = .ok (.aload_n 0, 1) := lkT_ok tk_MRm_back rfl
theorem d_MRm_back_8 : decode MRm_back.2.2.1 8 = .ok (.getfield 72, 3) := lkT_ok tk_MRm_back rfl
theorem d_MRm_back_11 : decode MRm_back.2.2.1 11 = .ok (.ifCond .ge 6, 3) := lkT_ok tk_MRm_back rfl
theorem d_MRm_back_14 : decode MRm_back.2.2.1 14 = .ok (.bipush (-5), 2) := lkT_ok tk_MRm_back rfl
theorem d_MRm_back_16 : decode MRm_back.2.2.1 16 = .ok (.ireturn, 1) := lkT_ok tk_MRm_back rfl
theorem d_MRm_back_17 : decode MRm_back.2.2.1 17 = .ok (.iconst 0, 1) := lkT_ok tk_MRm_back rfl
theorem d_MRm_back_18 : decode MRm_back.2.2.1 18 = .ok (.istore_n 2, 1) := lkT_ok tk_MRm_back rfl
theorem d_MRm_back_19 : decode MRm_back.2.2.1 19 = .ok (.iconst 0, 1) := lkT_ok tk_MRm_back rfl
theorem d_MRm_back_20 : decode MRm_back.2.2.1 20 = .ok (.istore_n 3, 1) := lkT_ok tk_MRm_back rfl
theorem d_MRm_back_21 : decode MRm_back.2.2.1 21 = .ok (.iconst 0, 1) := lkT_ok tk_MRm_back rfl
theorem d_MRm_back_22 : decode MRm_back.2.2.1 22 = .ok (.istore 4, 2) := lkT_ok tk_MRm_back rfl
theorem d_MRm_back_24 : decode MRm_back.2.2.1 24 = .ok (.iload 4, 2) := lkT_ok tk_MRm_back rfl
theorem d_MRm_back_26 : decode MRm_back.2.2.1 26 = .ok (.aload_n 0, 1) := lkT_ok tk_MRm_back rfl
theorem d_MRm_back_27 : decode MRm_back.2.2.1 27 = .ok (.getfield 72, 3) := lkT_ok tk_MRm_back rfl
theorem d_MRm_back_30 : decode MRm_back.2.2.1 30 = .ok (.if_icmp .gt 60, 3) := lkT_ok tk_MRm_back rfl
theorem d_MRm_back_33 : decode MRm_back.2.2.1 33 = .ok (.aload_n 0, 1) := lkT_ok tk_MRm_back rfl
theorem d_MRm_back_34 : decode MRm_back.2.2.1 34 = .ok (.getfield 63, 3) := lkT_ok tk_MRm_back rfl
theorem d_MRm_back_37 : decode MRm_back.2.2.1 37 = .ok (.iload 4, 2) := lkT_ok tk_MRm_back rfl
theorem d_MRm_back_39 : decode MRm_back.2.2.1 39 = .ok (.iaload, 1) := lkT_ok tk_MRm_back rfl
theorem d_MRm_back_40 : decode MRm_back.2.2.1 40 = .ok (.ifCond .ne 6, 3) := lkT_ok tk_MRm_back rfl
theorem d_MRm_back_43 : decode MRm_back.2.2.1 43 = .ok (.goto 41, 3) := lkT_ok tk_MRm_back rfl
theorem d_MRm_back_46 : decode MRm_back.2.2.1 46 = .ok (.aload_n 0, 1) := lkT_ok tk_MRm_back rfl
theorem d_MRm_back_47 : decode MRm_back.2.2.1 47 = .ok (.getfield 63, 3) := lkT_ok tk_MRm_back rfl
theorem d_MRm_back_50 : decode MRm_back.2.2.1 50 = .ok (.iload 4, 2) := lkT_ok tk_MRm_back rfl
theorem d_MRm_back_52 : decode MRm_back.2.2.1 52 = .ok (.iaload, 1) := lkT_ok tk_MRm_back rfl
theorem d_MRm_back_53 : decode MRm_back.2.2.1 53 = .ok (.ifCond .le 7, 3) := lkT_ok tk_MRm_back rfl
theorem d_MRm_back_56 : decode MRm_back.2.2.1 56 = .ok (.iconst 1, 1) := lkT_ok tk_MRm_back rfl
theorem d_MRm_back_57 : decode MRm_back.2.2.1 57 = .ok (.goto 4, 3) := lkT_ok tk_MRm_back rfl
theorem d_MRm_back_60 : decode MRm_back.2.2.1 60 = .ok (.iconst (-1), 1) := lkT_ok tk_MRm_back rfl
theorem d_MRm_back_61 : decode MRm_back.2.2.1 61 = .ok (.istore 5, 2) := lkT_ok tk_MRm_back rfl
theorem d_MRm_back_63 : decode MRm_back.2.2.1 63 = .ok (.iload 5, 2) := lkT_ok tk_MRm_back rfl
theorem d_MRm_back_65 : decode MRm_back.2.2.1 65 = .ok (.iload_n 3, 1) := lkT_ok tk_MRm_back rfl
theorem d_MRm_back_66 : decode MRm_back.2.2.1 66 = .ok (.ineg, 1) := lkT_ok tk_MRm_back rfl
theorem d_MRm_back_67 : decode MRm_back.2.2.1 67 = .ok (.if_icmp .ne 14, 3) := lkT_ok tk_MRm_back rfl
theorem d_MRm_back_70 : decode MRm_back.2.2.1 70 = .ok (.iload_n 2, 1) := lkT_ok tk_MRm_back rfl
theorem d_MRm_back_71 : decode MRm_back.2.2.1 71 = .ok (.iload_n 1, 1) := lkT_ok tk_MRm_back rfl
theorem d_MRm_back_72 : decode MRm_back.2.2.1 72 = .ok (.if_icmp .ne 6, 3) := lkT_ok tk_MRm_back rfl
theorem d_MRm_back_75 : decode MRm_back.2.2.1 75 = .ok (.iload 4, 2) := lkT_ok tk_MRm_back rfl
theorem d_MRm_back_77 : decode MRm_back.2.2.1 77 = .ok (.ireturn, 1) := lkT_ok tk_MRm_back rfl
theorem d_MRm_back_78 : decode MRm_back.2.2.1 78 = .ok (.iinc 2 1, 3) := lkT_ok tk_MRm_back rfl
theorem d_MRm_back_81 : decode MRm_back.2.2.1 81 = .ok (.iload 5, 2) := lkT_ok tk_MRm_back rfl
theorem d_MRm_back_83 : decode MRm_back.2.2.1 83 = .ok (.istore_n 3, 1) := lkT_ok tk_MRm_back rfl
theorem d_MRm_back_84 : decode MRm_back.2.2.1 84 = .ok (.iinc 4 1, 3) := lkT_ok tk_MRm_back rfl
theorem d_MRm_back_87 : decode MRm_back.2.2.1 87 = .ok (.goto (-63), 3) := lkT_ok tk_MRm_back rfl
theorem d_MRm_back_90 : decode MRm_back.2.2.1 90 = .ok (.iload_n 1, 1) := lkT_ok tk_MRm_back rfl
theorem d_MRm_back_91 : decode MRm_back.2.2.1 91 = .ok (.ifCond .ge 7, 3) := lkT_ok tk_MRm_back rfl
theorem d_MRm_back_94 : decode MRm_back.2.2.1 94 = .ok (.iload_n 2, 1) := lkT_ok tk_MRm_back rfl
theorem d_MRm_back_95 : decode MRm_back.2.2.1 95 = .ok (.goto 4, 3) := lkT_ok tk_MRm_back rfl
theorem d_MRm_back_98 : decode MRm_back.2.2.1 98 = .ok (.iconst (-1), 1) := lkT_ok tk_MRm_back rfl
theorem d_MRm_back_99 : decode MRm_back.2.2.1 99 = .ok (.ireturn, 1) := lkT_ok tk_MRm_back rfl
theorem r_MRm_back_0 {l0 l2 l3 l4 l5 : Value} {x : Int32} : Rr X d MRm_back 0 [l0, .int x, l2, l3, l4, l5] st h = Rr X d MRm_back 1 [l0, .int x, l2, l3, l4, l5] (.int x :: st) h := Rr_nx d_MRm_back_0 rfl
theorem r_MRm_back_1 : Rr X d MRm_back 1 L st h = Rr X d MRm_back 2 L (.int (-1) :: st) h := Rr_nx d_MRm_back_1 rfl
theorem r_MRm_back_2 {x y : Int32} : Rr X d MRm_back 2 L (.int y :: .int x :: st) h = if y ≤ x then Rr X d MRm_back 7 L st h else Rr X d MRm_back 5 L st h := R_ic_ge d_MRm_back_2 (by decide)
theorem r_MRm_back_5 : Rr X d MRm_back 5 L st h = Rr X d MRm_back 6 L (.int (-1) :: st) h := Rr_nx d_MRm_back_5 rfl
theorem r_MRm_back_6 {x : Int32} : Rr X d MRm_back 6 L [.int x] h = some (some (.int x), h) := R_ir d_MRm_back_6 rfl
theorem r_MRm_back_7 {l1 l2 l3 l4 l5 : Value} {x : Nat} : Rr X d MRm_back 7 [.ref x, l1, l2, l3, l4, l5] st h = Rr X d MRm_back 8 [.ref x, l1, l2, l3, l4, l5] (.ref x :: st) h := Rr_nx d_MRm_back_7 rfl
theorem r_MRm_back_8 {a : Nat} (hq : qI a 10 39 = true) : Rr X d MRm_back 8 L (.ref a :: st) (Wd mu la ro et) = Rr X d MRm_back 11 L (.int (mu a 39) :: st) (Wd mu la ro et) := R_gfI d_MRm_back_8 ff_10_72 hq
theorem r_MRm_back_11 {x : Int32} : Rr X d MRm_back 11 L (.int x :: st) h = if 0 ≤ x then Rr X d MRm_back 17 L st h else Rr X d MRm_back 14 L st h := R_if_ge d_MRm_back_11 (by decide)
theorem r_MRm_back_14 : Rr X d MRm_back 14 L st h = Rr X d MRm_back 16 L (.int (-5) :: st) h := Rr_nx d_MRm_back_14 rfl
theorem r_MRm_back_16 {x : Int32} : Rr X d MRm_back 16 L [.int x] h = some (some (.int x), h) := R_ir d_MRm_back_16 rfl
theorem r_MRm_back_17 : Rr X d MRm_back 17 L st h = Rr X d MRm_back 18 L (.int (0) :: st) h := Rr_nx d_MRm_back_17 rfl
theorem r_MRm_back_18 {l0 l1 l2 l3 l4 l5 : Value} {x : Int32} : Rr X d MRm_back 18 [l0, l1, l2, l3, l4, l5] (.int x :: st) h = Rr X d MRm_back 19 (sL [l0, l1, l2, l3, l4, l5] 2 (.int x)) st h := Rr_nx d_MRm_back_18 rfl
theorem r_MRm_back_19 : Rr X d MRm_back 19 L st h = Rr X d MRm_back 20 L (.int (0) :: st) h := Rr_nx d_MRm_back_19 rfl
theorem r_MRm_back_20 {l0 l1 l2 l3 l4 l5 : Value} {x : Int32} : Rr X d MRm_back 20 [l0, l1, l2, l3, l4, l5] (.int x :: st) h = Rr X d MRm_back 21 (sL [l0, l1, l2, l3, l4, l5] 3 (.int x)) st h := Rr_nx d_MRm_back_20 rfl
theorem r_MRm_back_21 : Rr X d MRm_back 21 L st h = Rr X d MRm_back 22 L (.int (0) :: st) h := Rr_nx d_MRm_back_21 rfl
theorem r_MRm_back_22 {l0 l1 l2 l3 l4 l5 : Value} {x : Int32} : Rr X d MRm_back 22 [l0, l1, l2, l3, l4, l5] (.int x :: st) h = Rr X d MRm_back 24 (sL [l0, l1, l2, l3, l4, l5] 4 (.int x)) st h := Rr_nx d_MRm_back_22 rfl
theorem r_MRm_back_24 {l0 l1 l2 l3 l5 : Value} {x : Int32} : Rr X d MRm_back 24 [l0, l1, l2, l3, .int x, l5] st h = Rr X d MRm_back 26 [l0, l1, l2, l3, .int x, l5] (.int x :: st) h := Rr_nx d_MRm_back_24 rfl
theorem r_MRm_back_26 {l1 l2 l3 l4 l5 : Value} {x : Nat} : Rr X d MRm_back 26 [.ref x, l1, l2, l3, l4, l5] st h = Rr X d MRm_back 27 [.ref x, l1, l2, l3, l4, l5] (.ref x :: st) h := Rr_nx d_MRm_back_26 rfl
theorem r_MRm_back_27 {a : Nat} (hq : qI a 10 39 = true) : Rr X d MRm_back 27 L (.ref a :: st) (Wd mu la ro et) = Rr X d MRm_back 30 L (.int (mu a 39) :: st) (Wd mu la ro et) := R_gfI d_MRm_back_27 ff_10_72 hq
theorem r_MRm_back_30 {x y : Int32} : Rr X d MRm_back 30 L (.int y :: .int x :: st) h = if y < x then Rr X d MRm_back 90 L st h else Rr X d MRm_back 33 L st h := R_ic_gt d_MRm_back_30 (by decide)
theorem r_MRm_back_33 {l1 l2 l3 l4 l5 : Value} {x : Nat} : Rr X d MRm_back 33 [.ref x, l1, l2, l3, l4, l5] st h = Rr X d MRm_back 34 [.ref x, l1, l2, l3, l4, l5] (.ref x :: st) h := Rr_nx d_MRm_back_33 rfl
theorem r_MRm_back_34 {a : Nat} (hq : (qR a 10 36).isSome = true) : Rr X d MRm_back 34 L (.ref a :: st) (Wd mu la ro et) = Rr X d MRm_back 37 L (.ref (qRd a 10 36) :: st) (Wd mu la ro et) := R_gfR d_MRm_back_34 ff_10_63 hq
theorem r_MRm_back_37 {l0 l1 l2 l3 l5 : Value} {x : Int32} : Rr X d MRm_back 37 [l0, l1, l2, l3, .int x, l5] st h = Rr X d MRm_back 39 [l0, l1, l2, l3, .int x, l5] (.int x :: st) h := Rr_nx d_MRm_back_37 rfl
theorem r_MRm_back_39 {a : Nat} {j : Int32} (hq : (qA a 0).isSome = true) : Rr X d MRm_back 39 L (.int j :: .ref a :: st) (Wd mu la ro et) = if j < 0 ∨ qAd a 0 ≤ j.toNatClampNeg then none else Rr X d MRm_back 40 L (.int (mu a j.toNatClampNeg) :: st) (Wd mu la ro et) := R_ialW d_MRm_back_39 hq
theorem r_MRm_back_40 {x : Int32} : Rr X d MRm_back 40 L (.int x :: st) h = if ¬ x = 0 then Rr X d MRm_back 46 L st h else Rr X d MRm_back 43 L st h := R_if_ne d_MRm_back_40 (by decide)
theorem r_MRm_back_43 : Rr X d MRm_back 43 L st h = Rr X d MRm_back 84 L st h := R_goto d_MRm_back_43 (by decide)
theorem r_MRm_back_46 {l1 l2 l3 l4 l5 : Value} {x : Nat} : Rr X d MRm_back 46 [.ref x, l1, l2, l3, l4, l5] st h = Rr X d MRm_back 47 [.ref x, l1, l2, l3, l4, l5] (.ref x :: st) h := Rr_nx d_MRm_back_46 rfl
theorem r_MRm_back_47 {a : Nat} (hq : (qR a 10 36).isSome = true) : Rr X d MRm_back 47 L (.ref a :: st) (Wd mu la ro et) = Rr X d MRm_back 50 L (.ref (qRd a 10 36) :: st) (Wd mu la ro et) := R_gfR d_MRm_back_47 ff_10_63 hq
theorem r_MRm_back_50 {l0 l1 l2 l3 l5 : Value} {x : Int32} : Rr X d MRm_back 50 [l0, l1, l2, l3, .int x, l5] st h = Rr X d MRm_back 52 [l0, l1, l2, l3, .int x, l5] (.int x :: st) h := Rr_nx d_MRm_back_50 rfl
theorem r_MRm_back_52 {a : Nat} {j : Int32} (hq : (qA a 0).isSome = true) : Rr X d MRm_back 52 L (.int j :: .ref a :: st) (Wd mu la ro et) = if j < 0 ∨ qAd a 0 ≤ j.toNatClampNeg then none else Rr X d MRm_back 53 L (.int (mu a j.toNatClampNeg) :: st) (Wd mu la ro et) := R_ialW d_MRm_back_52 hq
theorem r_MRm_back_53 {x : Int32} : Rr X d MRm_back 53 L (.int x :: st) h = if x ≤ 0 then Rr X d MRm_back 60 L st h else Rr X d MRm_back 56 L st h := R_if_le d_MRm_back_53 (by decide)
theorem r_MRm_back_56 : Rr X d MRm_back 56 L st h = Rr X d MRm_back 57 L (.int (1) :: st) h := Rr_nx d_MRm_back_56 rfl
theorem r_MRm_back_57 : Rr X d MRm_back 57 L st h = Rr X d MRm_back 61 L st h := R_goto d_MRm_back_57 (by decide)
theorem r_MRm_back_60 : Rr X d MRm_back 60 L st h = Rr X d MRm_back 61 L (.int (-1) :: st) h := Rr_nx d_MRm_back_60 rfl
theorem r_MRm_back_61 {l0 l1 l2 l3 l4 l5 : Value} {x : Int32} : Rr X d MRm_back 61 [l0, l1, l2, l3, l4, l5] (.int x :: st) h = Rr X d MRm_back 63 (sL [l0, l1, l2, l3, l4, l5] 5 (.int x)) st h := Rr_nx d_MRm_back_61 rfl
theorem r_MRm_back_63 {l0 l1 l2 l3 l4 : Value} {x : Int32} : Rr X d MRm_back 63 [l0, l1, l2, l3, l4, .int x] st h = Rr X d MRm_back 65 [l0, l1, l2, l3, l4, .int x] (.int x :: st) h := Rr_nx d_MRm_back_63 rfl
theorem r_MRm_back_65 {l0 l1 l2 l4 l5 : Value} {x : Int32} : Rr X d MRm_back 65 [l0, l1, l2, .int x, l4, l5] st h = Rr X d MRm_back 66 [l0, l1, l2, .int x, l4, l5] (.int x :: st) h := Rr_nx d_MRm_back_65 rfl
theorem r_MRm_back_66 {x : Int32} : Rr X d MRm_back 66 L (.int x :: st) h = Rr X d MRm_back 67 L (.int (-x) :: st) h := Rr_nx d_MRm_back_66 rfl
theorem r_MRm_back_67 {x y : Int32} : Rr X d MRm_back 67 L (.int y :: .int x :: st) h = if ¬ x = y then Rr X d MRm_back 81 L st h else Rr X d MRm_back 70 L st h := R_ic_ne d_MRm_back_67 (by decide)
theorem r_MRm_back_70 {l0 l1 l3 l4 l5 : Value} {x : Int32} : Rr X d MRm_back 70 [l0, l1, .int x, l3, l4, l5] st h = Rr X d MRm_back 71 [l0, l1, .int x, l3, l4, l5] (.int x :: st) h := Rr_nx d_MRm_back_70 rfl
theorem r_MRm_back_71 {l0 l2 l3 l4 l5 : Value} {x : Int32} : Rr X d MRm_back 71 [l0, .int x, l2, l3, l4, l5] st h = Rr X d MRm_back 72 [l0, .int x, l2, l3, l4, l5] (.int x :: st) h := Rr_nx d_MRm_back_71 rfl
theorem r_MRm_back_72 {x y : Int32} : Rr X d MRm_back 72 L (.int y :: .int x :: st) h = if ¬ x = y then Rr X d MRm_back 78 L st h else Rr X d MRm_back 75 L st h := R_ic_ne d_MRm_back_72 (by decide)
theorem r_MRm_back_75 {l0 l1 l2 l3 l5 : Value} {x : Int32} : Rr X d MRm_back 75 [l0, l1, l2, l3, .int x, l5] st h = Rr X d MRm_back 77 [l0, l1, l2, l3, .int x, l5] (.int x :: st) h := Rr_nx d_MRm_back_75 rfl
theorem r_MRm_back_77 {x : Int32} : Rr X d MRm_back 77 L [.int x] h = some (some (.int x), h) := R_ir d_MRm_back_77 rfl
theorem r_MRm_back_78 {l0 l1 l3 l4 l5 : Value} {x : Int32} : Rr X d MRm_back 78 [l0, l1, .int x, l3, l4, l5] st h = Rr X d MRm_back 81 (sL [l0, l1, .int x, l3, l4, l5] 2 (.int (x + (1)))) st h := Rr_nx d_MRm_back_78 rfl
theorem r_MRm_back_81 {l0 l1 l2 l3 l4 : Value} {x : Int32} : Rr X d MRm_back 81 [l0, l1, l2, l3, l4, .int x] st h = Rr X d MRm_back 83 [l0, l1, l2, l3, l4, .int x] (.int x :: st) h := Rr_nx d_MRm_back_81 rfl
theorem r_MRm_back_83 {l0 l1 l2 l3 l4 l5 : Value} {x : Int32} : Rr X d MRm_back 83 [l0, l1, l2, l3, l4, l5] (.int x :: st) h = Rr X d MRm_back 84 (sL [l0, l1, l2, l3, l4, l5] 3 (.int x)) st h := Rr_nx d_MRm_back_83 rfl
theorem r_MRm_back_84 {l0 l1 l2 l3 l5 : Value} {x : Int32} : Rr X d MRm_back 84 [l0, l1, l2, l3, .int x, l5] st h = Rr X d MRm_back 87 (sL [l0, l1, l2, l3, .int x, l5] 4 (.int (x + (1)))) st h := Rr_nx d_MRm_back_84 rfl
theorem r_MRm_back_87 : Rr X d MRm_back 87 L st h = Rr X d MRm_back 24 L st h := R_goto d_MRm_back_87 (by decide)
theorem r_MRm_back_90 {l0 l2 l3 l4 l5 : Value} {x : Int32} : Rr X d MRm_back 90 [l0, .int x, l2, l3, l4, l5] st h = Rr X d MRm_back 91 [l0, .int x, l2, l3, l4, l5] (.int x :: st) h := Rr_nx d_MRm_back_90 rfl
theorem r_MRm_back_91 {x : Int32} : Rr X d MRm_back 91 L (.int x :: st) h = if 0 ≤ x then Rr X d MRm_back 98 L st h else Rr X d MRm_back 94 L st h := R_if_ge d_MRm_back_91 (by decide)
theorem r_MRm_back_94 {l0 l1 l3 l4 l5 : Value} {x : Int32} : Rr X d MRm_back 94 [l0, l1, .int x, l3, l4, l5] st h = Rr X d MRm_back 95 [l0, l1, .int x, l3, l4, l5] (.int x :: st) h := Rr_nx d_MRm_back_94 rfl
theorem r_MRm_back_95 : Rr X d MRm_back 95 L st h = Rr X d MRm_back 99 L st h := R_goto d_MRm_back_95 (by decide)
theorem r_MRm_back_98 : Rr X d MRm_back 98 L st h = Rr X d MRm_back 99 L (.int (-1) :: st) h := Rr_nx d_MRm_back_98 rfl
theorem r_MRm_back_99 {x : Int32} : Rr X d MRm_back 99 L [.int x] h = some (some (.int x), h) := R_ir d_MRm_back_99 rfl
theorem d_MRm_told_0 : decode MRm_told.2.2.1 0 = .ok (.iload_n 1, 1) := lkT_ok tk_MRm_told rfl
theorem d_MRm_told_1 : decode MRm_told.2.2.1 1 = .ok (.iconst 0, 1) := lkT_ok tk_MRm_told rfl
theorem d_MRm_told_2 : decode MRm_told.2.2.1 2 = .ok (.iconst 4, 1) := lkT_ok tk_MRm_told rfl
theorem d_MRm_told_3 : decode MRm_told.2.2.1 3 = .ok (.invokestatic 107, 3) := lkT_ok tk_MRm_told rfl
theorem d_MRm_told_6 : decode MRm_told.2.2.1 6 = .ok (.ifCond .eq 10, 3) := lkT_ok tk_MRm_told rfl
theorem d_MRm_told_9 : decode MRm_told.2.2.1 9 = .ok (.aload_n 0, 1) := lkT_ok tk_MRm_told rfl
theorem d_MRm_told_10 : decode MRm_told.2.2.1 10 = .ok (.getfield 72, 3) := lkT_ok tk_MRm_told rfl
theorem d_MRm_told_13 : decode MRm_told.2.2.1 13 = .ok (.ifCond .ge 6, 3) := lkT_ok tk_MRm_told rfl
theorem d_MRm_told_16 : decode MRm_told.2.2.1 16 = .ok (.ldc 176, 2) := lkT_ok tk_MRm_told rfl
theorem d_MRm_told_18 : decode MRm_told.2.2.1 18 = .ok (.ireturn, 1) := lkT_ok tk_MRm_told rfl
theorem d_MRm_told_19 : decode MRm_told.2.2.1 19 = .ok (.iload_n 1, 1) := lkT_ok tk_MRm_told rfl
theorem d_MRm_told_20 : decode MRm_told.2.2.1 20 = .ok (.ifCond .ne 51, 3) := lkT_ok tk_MRm_told rfl
theorem d_MRm_told_23 : decode MRm_told.2.2.1 23 = .ok (.iconst 0, 1) := lkT_ok tk_MRm_told rfl
theorem d_MRm_told_24 : decode MRm_told.2.2.1 24 = .ok (.istore_n 2, 1) := lkT_ok tk_MRm_told rfl
theorem d_MRm_told_25 : decode MRm_told.2.2.1 25 = .ok (.iload_n 2, 1) := lkT_ok tk_MRm_told rfl
theorem d_MRm_told_26 : decode MRm_told.2.2.1 26 = .ok (.aload_n 0, 1) := lkT_ok tk_MRm_told rfl
theorem d_MRm_told_27 : decode MRm_told.2.2.1 27 = .ok (.getfield 72, 3) := lkT_ok tk_MRm_told rfl
theorem d_MRm_told_30 : decode MRm_told.2.2.1 30 = .ok (.if_icmp .gt 38, 3) := lkT_ok tk_MRm_told rfl
theorem d_MRm_told_33 : decode MRm_told.2.2.1 33 = .ok (.aload_n 0, 1) := lkT_ok tk_MRm_told rfl
theorem d_MRm_told_34 : decode MRm_told.2.2.1 34 = .ok (.getfield 63, 3) := lkT_ok tk_MRm_told rfl
theorem d_MRm_told_37 : decode MRm_told.2.2.1 37 = .ok (.iload_n 2, 1) := lkT_ok tk_MRm_told rfl
theorem d_MRm_told_38 : decode MRm_told.2.2.1 38 = .ok (.iaload, 1) := lkT_ok tk_MRm_told rfl
theorem d_MRm_told_39 : decode MRm_told.2.2.1 39 = .ok (.ifCond .ne 23, 3) := lkT_ok tk_MRm_told rfl
theorem d_MRm_told_42 : decode MRm_told.2.2.1 42 = .ok (.aload_n 0, 1) := lkT_ok tk_MRm_told rfl
theorem d_MRm_told_43 : decode MRm_told.2.2.1 43 = .ok (.getfield 66, 3) := lkT_ok tk_MRm_told rfl
theorem d_MRm_told_46 : decode MRm_told.2.2.1 46 = .ok (.iload_n 2, 1) := lkT_ok tk_MRm_told rfl
theorem d_MRm_told_47 : decode MRm_told.2.2.1 47 = .ok (.iaload, 1) := lkT_ok tk_MRm_told rfl
theorem d_MRm_told_48 : decode MRm_told.2.2.1 48 = .ok (.ifCond .ne 14, 3) := lkT_ok tk_MRm_told rfl
theorem d_MRm_told_51 : decode MRm_told.2.2.1 51 = .ok (.aload_n 0, 1) := lkT_ok tk_MRm_told rfl
theorem d_MRm_told_52 : decode MRm_told.2.2.1 52 = .ok (.getfield 69, 3) := lkT_ok tk_MRm_told rfl
theorem d_MRm_told_55 : decode MRm_told.2.2.1 55 = .ok (.iload_n 2, 1) := lkT_ok tk_MRm_told rfl
theorem d_MRm_told_56 : decode MRm_told.2.2.1 56 = .ok (.iaload, 1) := lkT_ok tk_MRm_told rfl
theorem d_MRm_told_57 : decode MRm_told.2.2.1 57 = .ok (.ifCond .ne 5, 3) := lkT_ok tk_MRm_told rfl
theorem d_MRm_told_60 : decode MRm_told.2.2.1 60 = .ok (.iload_n 2, 1) := lkT_ok tk_MRm_told rfl
theorem d_MRm_told_61 : decode MRm_told.2.2.1 61 = .ok (.ireturn, 1) := lkT_ok tk_MRm_told rfl
theorem d_MRm_told_62 : decode MRm_told.2.2.1 62 = .ok (.iinc 2 1, 3) := lkT_ok tk_MRm_told rfl
theorem d_MRm_told_65 : decode MRm_told.2.2.1 65 = .ok (.goto (-40), 3) := lkT_ok tk_MRm_told rfl
theorem d_MRm_told_68 : decode MRm_told.2.2.1 68 = .ok (.bipush (-2), 2) := lkT_ok tk_MRm_told rfl
theorem d_MRm_told_70 : decode MRm_told.2.2.1 70 = .ok (.ireturn, 1) := lkT_ok tk_MRm_told rfl
theorem d_MRm_told_71 : decode MRm_told.2.2.1 71 = .ok (.iload_n 1, 1) := lkT_ok tk_MRm_told rfl
theorem d_MRm_told_72 : decode MRm_told.2.2.1 72 = .ok (.iconst 1, 1) := lkT_ok tk_MRm_told rfl
theorem d_MRm_told_73 : decode MRm_told.2.2.1 73 = .ok (.if_icmp .le 32, 3) := lkT_ok tk_MRm_told rfl
theorem d_MRm_told_76 : decode MRm_told.2.2.1 76 = .ok (.iload_n 1, 1) := lkT_ok tk_MRm_told rfl
theorem d_MRm_told_77 : decode MRm_told.2.2.1 77 = .ok (.iconst 2, 1) := lkT_ok tk_MRm_told rfl
theorem d_MRm_told_78 : decode MRm_told.2.2.1 78 = .ok (.if_icmp .ne 10, 3) := lkT_ok tk_MRm_told rfl
theorem d_MRm_told_81 : decode MRm_told.2.2.1 81 = .ok (.aload_n 0, 1) := lkT_ok tk_MRm_told rfl
theorem d_MRm_told_82 : decode MRm_told.2.2.1 82 = .ok (.getfield 304, 3) := lkT_ok tk_MRm_told rfl
theorem d_MRm_told_85 : decode MRm_told.2.2.1 85 = .ok (.goto 19, 3) := lkT_ok tk_MRm_told rfl
theorem d_MRm_told_88 : decode MRm_told.2.2.1 88 = .ok (.iload_n 1, 1) := lkT_ok tk_MRm_told rfl
theorem d_MRm_told_89 : decode MRm_told.2.2.1 89 = .ok (.iconst 3, 1) := lkT_ok tk_MRm_told rfl
theorem d_MRm_told_90 : decode MRm_told.2.2.1 90 = .ok (.if_icmp .ne 10, 3) := lkT_ok tk_MRm_told rfl
theorem d_MRm_told_93 : decode MRm_told.2.2.1 93 = .ok (.aload_n 0, 1) := lkT_ok tk_MRm_told rfl
theorem d_MRm_told_94 : decode MRm_told.2.2.1 94 = .ok (.getfield 307, 3) := lkT_ok tk_MRm_told rfl
theorem d_MRm_told_97 : decode MRm_told.2.2.1 97 = .ok (.goto 7, 3) := lkT_ok tk_MRm_told rfl
theorem d_MRm_told_100 : decode MRm_told.2.2.1 100 = .ok (.aload_n 0, 1) := lkT_ok tk_MRm_told rfl
theorem d_MRm_told_101 : decode MRm_told.2.2.1 101 = .ok (.getfield 310, 3) := lkT_ok tk_MRm_told rfl
theorem d_MRm_told_104 : decode MRm_told.2.2.1 104 = .ok (.ireturn, 1) := lkT_ok tk_MRm_told rfl
theorem d_MRm_told_105 : decode MRm_told.2.2.1 105 = .ok (.iconst 0, 1) := lkT_ok tk_MRm_told rfl
theorem d_MRm_told_106 : decode MRm_told.2.2.1 106 = .ok (.istore_n 2, 1) := lkT_ok tk_MRm_told rfl
theorem d_MRm_told_107 : decode MRm_told.2.2.1 107 = .ok (.iconst 1, 1) := lkT_ok tk_MRm_told rfl
theorem d_MRm_told_108 : decode MRm_told.2.2.1 108 = .ok (.istore_n 3, 1) := lkT_ok tk_MRm_told rfl
theorem d_MRm_told_109 : decode MRm_told.2.2.1 109 = .ok (.iload_n 3, 1) := lkT_ok tk_MRm_told rfl
theorem d_MRm_told_110 : decode MRm_told.2.2.1 110 = .ok (.aload_n 0, 1) := lkT_ok tk_MRm_told rfl
theorem d_MRm_told_111 : decode MRm_told.2.2.1 111 = .ok (.getfield 72, 3) := lkT_ok tk_MRm_told rfl
theorem d_MRm_told_114 : decode MRm_told.2.2.1 114 = .ok (.if_icmp .gt 18, 3) := lkT_ok tk_MRm_told rfl
theorem d_MRm_told_117 : decode MRm_told.2.2.1 117 = .ok (.iload_n 2, 1) := lkT_ok tk_MRm_told rfl
theorem d_MRm_told_118 : decode MRm_told.2.2.1 118 = .ok (.aload_n 0, 1) := lkT_ok tk_MRm_told rfl
theorem d_MRm_told_119 : decode MRm_told.2.2.1 119 = .ok (.getfield 63, 3) := lkT_ok tk_MRm_told rfl
theorem d_MRm_told_122 : decode MRm_told.2.2.1 122 = .ok (.iload_n 3, 1) := lkT_ok tk_MRm_told rfl
theorem d_MRm_told_123 : decode MRm_told.2.2.1 123 = .ok (.iaload, 1) := lkT_ok tk_MRm_told rfl
theorem d_MRm_told_124 : decode MRm_told.2.2.1 124 = .ok (.iadd, 1) := lkT_ok tk_MRm_told rfl
theorem d_MRm_told_125 : decode MRm_told.2.2.1 125 = .ok (.istore_n 2, 1) := lkT_ok tk_MRm_told rfl
theorem d_MRm_told_126 : decode MRm_told.2.2.1 126 = .ok (.iinc 3 1, 3) := lkT_ok tk_MRm_told rfl
theorem d_MRm_told_129 : decode MRm_told.2.2.1 129 = .ok (.goto (-20), 3) := lkT_ok tk_MRm_told rfl
theorem d_MRm_told_132 : decode MRm_told.2.2.1 132 = .ok (.iload_n 2, 1) := lkT_ok tk_MRm_told rfl
theorem d_MRm_told_133 : decode MRm_told.2.2.1 133 = .ok (.ireturn, 1) := lkT_ok tk_MRm_told rfl
theorem r_MRm_told_0 {l0 l2 l3 : Value} {x : Int32} : Rr X d MRm_told 0 [l0, .int x, l2, l3] st h = Rr X d MRm_told 1 [l0, .int x, l2, l3] (.int x :: st) h := Rr_nx d_MRm_told_0 rfl
theorem r_MRm_told_1 : Rr X d MRm_told 1 L st h = Rr X d MRm_told 2 L (.int (0) :: st) h := Rr_nx d_MRm_told_1 rfl
theorem r_MRm_told_2 : Rr X d MRm_told 2 L st h = Rr X d MRm_told 3 L (.int (4) :: st) h := Rr_nx d_MRm_told_2 rfl
theorem r_MRm_told_3 {y0 : Int32} {y1 : Int32} {y2 : Int32} (hc : ckS st = true) : Rr X (d + 1) MRm_told 3 L (.int y2 :: .int y1 :: .int y0 :: st) h = (Rr X d MRm_in 0 [.int y0, .int y1, .int y2] [] h).bind fun q => Rr X (d + 1) MRm_told 6 L (psh q.1 st) q.2 := R_is (av := [.int y2, .int y1, .int y0]) d_MRm_told_3 (Or.inl fc_10_107) (ckS_le hc) rfl (Nat.le_of_ble_eq_true rfl) (Nat.le_of_ble_eq_true rfl)
theorem r_MRm_told_6 {x : Int32} : Rr X d MRm_told 6 L (.int x :: st) h = if x = 0 then Rr X d MRm_told 16 L st h else Rr X d MRm_told 9 L st h := R_if_eq d_MRm_told_6 (by decide)
theorem r_MRm_told_9 {l1 l2 l3 : Value} {x : Nat} : Rr X d MRm_told 9 [.ref x, l1, l2, l3] st h = Rr X d MRm_told 10 [.ref x, l1, l2, l3] (.ref x :: st) h := Rr_nx d_MRm_told_9 rfl
theorem r_MRm_told_10 {a : Nat} (hq : qI a 10 39 = true) : Rr X d MRm_told 10 L (.ref a :: st) (Wd mu la ro et) = Rr X d MRm_told 13 L (.int (mu a 39) :: st) (Wd mu la ro et) := R_gfI d_MRm_told_10 ff_10_72 hq
theorem r_MRm_told_13 {x : Int32} : Rr X d MRm_told 13 L (.int x :: st) h = if 0 ≤ x then Rr X d MRm_told 19 L st h else Rr X d MRm_told 16 L st h := R_if_ge d_MRm_told_13 (by decide)
theorem r_MRm_told_16 : Rr X d MRm_told 16 L st h = Rr X d MRm_told 18 L (.int (-2000000000) :: st) h := Rr_nx d_MRm_told_16 rfl
theorem r_MRm_told_18 {x : Int32} : Rr X d MRm_told 18 L [.int x] h = some (some (.int x), h) := R_ir d_MRm_told_18 rfl
theorem r_MRm_told_19 {l0 l2 l3 : Value} {x : Int32} : Rr X d MRm_told 19 [l0, .int x, l2, l3] st h = Rr X d MRm_told 20 [l0, .int x, l2, l3] (.int x :: st) h := Rr_nx d_MRm_told_19 rfl
theorem r_MRm_told_20 {x : Int32} : Rr X d MRm_told 20 L (.int x :: st) h = if ¬ x = 0 then Rr X d MRm_told 71 L st h else Rr X d MRm_told 23 L st h := R_if_ne d_MRm_told_20 (by decide)
theorem r_MRm_told_23 : Rr X d MRm_told 23 L st h = Rr X d MRm_told 24 L (.int (0) :: st) h := Rr_nx d_MRm_told_23 rfl
theorem r_MRm_told_24 {l0 l1 l2 l3 : Value} {x : Int32} : Rr X d MRm_told 24 [l0, l1, l2, l3] (.int x :: st) h = Rr X d MRm_told 25 (sL [l0, l1, l2, l3] 2 (.int x)) st h := Rr_nx d_MRm_told_24 rfl
theorem r_MRm_told_25 {l0 l1 l3 : Value} {x : Int32} : Rr X d MRm_told 25 [l0, l1, .int x, l3] st h = Rr X d MRm_told 26 [l0, l1, .int x, l3] (.int x :: st) h := Rr_nx d_MRm_told_25 rfl
theorem r_MRm_told_26 {l1 l2 l3 : Value} {x : Nat} : Rr X d MRm_told 26 [.ref x, l1, l2, l3] st h = Rr X d MRm_told 27 [.ref x, l1, l2, l3] (.ref x :: st) h := Rr_nx d_MRm_told_26 rfl
theorem r_MRm_told_27 {a : Nat} (hq : qI a 10 39 = true) : Rr X d MRm_told 27 L (.ref a :: st) (Wd mu la ro et) = Rr X d MRm_told 30 L (.int (mu a 39) :: st) (Wd mu la ro et) := R_gfI d_MRm_told_27 ff_10_72 hq
theorem r_MRm_told_30 {x y : Int32} : Rr X d MRm_told 30 L (.int y :: .int x :: st) h = if y < x then Rr X d MRm_told 68 L st h else Rr X d MRm_told 33 L st h := R_ic_gt d_MRm_told_30 (by decide)
theorem r_MRm_told_33 {l1 l2 l3 : Value} {x : Nat} : Rr X d MRm_told 33 [.ref x, l1, l2, l3] st h = Rr X d MRm_told 34 [.ref x, l1, l2, l3] (.ref x :: st) h := Rr_nx d_MRm_told_33 rfl
theorem r_MRm_told_34 {a : Nat} (hq : (qR a 10 36).isSome = true) : Rr X d MRm_told 34 L (.ref a :: st) (Wd mu la ro et) = Rr X d MRm_told 37 L (.ref (qRd a 10 36) :: st) (Wd mu la ro et) := R_gfR d_MRm_told_34 ff_10_63 hq
theorem r_MRm_told_37 {l0 l1 l3 : Value} {x : Int32} : Rr X d MRm_told 37 [l0, l1, .int x, l3] st h = Rr X d MRm_told 38 [l0, l1, .int x, l3] (.int x :: st) h := Rr_nx d_MRm_told_37 rfl
theorem r_MRm_told_38 {a : Nat} {j : Int32} (hq : (qA a 0).isSome = true) : Rr X d MRm_told 38 L (.int j :: .ref a :: st) (Wd mu la ro et) = if j < 0 ∨ qAd a 0 ≤ j.toNatClampNeg then none else Rr X d MRm_told 39 L (.int (mu a j.toNatClampNeg) :: st) (Wd mu la ro et) := R_ialW d_MRm_told_38 hq
theorem r_MRm_told_39 {x : Int32} : Rr X d MRm_told 39 L (.int x :: st) h = if ¬ x = 0 then Rr X d MRm_told 62 L st h else Rr X d MRm_told 42 L st h := R_if_ne d_MRm_told_39 (by decide)
theorem r_MRm_told_42 {l1 l2 l3 : Value} {x : Nat} : Rr X d MRm_told 42 [.ref x, l1, l2, l3] st h = Rr X d MRm_told 43 [.ref x, l1, l2, l3] (.ref x :: st) h := Rr_nx d_MRm_told_42 rfl
theorem r_MRm_told_43 {a : Nat} (hq : (qR a 10 37).isSome = true) : Rr X d MRm_told 43 L (.ref a :: st) (Wd mu la ro et) = Rr X d MRm_told 46 L (.ref (qRd a 10 37) :: st) (Wd mu la ro et) := R_gfR d_MRm_told_43 ff_10_66 hq
theorem r_MRm_told_46 {l0 l1 l3 : Value} {x : Int32} : Rr X d MRm_told 46 [l0, l1, .int x, l3] st h = Rr X d MRm_told 47 [l0, l1, .int x, l3] (.int x :: st) h := Rr_nx d_MRm_told_46 rfl
theorem r_MRm_told_47 {a : Nat} {j : Int32} (hq : (qA a 0).isSome = true) : Rr X d MRm_told 47 L (.int j :: .ref a :: st) (Wd mu la ro et) = if j < 0 ∨ qAd a 0 ≤ j.toNatClampNeg then none else Rr X d MRm_told 48 L (.int (mu a j.toNatClampNeg) :: st) (Wd mu la ro et) := R_ialW d_MRm_told_47 hq
theorem r_MRm_told_48 {x : Int32} : Rr X d MRm_told 48 L (.int x :: st) h = if ¬ x = 0 then Rr X d MRm_told 62 L st h else Rr X d MRm_told 51 L st h := R_if_ne d_MRm_told_48 (by decide)
theorem r_MRm_told_51 {l1 l2 l3 : Value} {x : Nat} : Rr X d MRm_told 51 [.ref x, l1, l2, l3] st h = Rr X d MRm_told 52 [.ref x, l1, l2, l3] (.ref x :: st) h := Rr_nx d_MRm_told_51 rfl
theorem r_MRm_told_52 {a : Nat} (hq : (qR a 10 38).isSome = true) : Rr X d MRm_told 52 L (.ref a :: st) (Wd mu la ro et) = Rr X d MRm_told 55 L (.ref (qRd a 10 38) :: st) (Wd mu la ro et) := R_gfR d_MRm_told_52 ff_10_69 hq
theorem r_MRm_told_55 {l0 l1 l3 : Value} {x : Int32} : Rr X d MRm_told 55 [l0, l1, .int x, l3] st h = Rr X d MRm_told 56 [l0, l1, .int x, l3] (.int x :: st) h := Rr_nx d_MRm_told_55 rfl
theorem r_MRm_told_56 {a : Nat} {j : Int32} (hq : (qA a 0).isSome = true) : Rr X d MRm_told 56 L (.int j :: .ref a :: st) (Wd mu la ro et) = if j < 0 ∨ qAd a 0 ≤ j.toNatClampNeg then none else Rr X d MRm_told 57 L (.int (mu a j.toNatClampNeg) :: st) (Wd mu la ro et) := R_ialW d_MRm_told_56 hq
theorem r_MRm_told_57 {x : Int32} : Rr X d MRm_told 57 L (.int x :: st) h = if ¬ x = 0 then Rr X d MRm_told 62 L st h else Rr X d MRm_told 60 L st h := R_if_ne d_MRm_told_57 (by decide)
theorem r_MRm_told_60 {l0 l1 l3 : Value} {x : Int32} : Rr X d MRm_told 60 [l0, l1, .int x, l3] st h = Rr X d MRm_told 61 [l0, l1, .int x, l3] (.int x :: st) h := Rr_nx d_MRm_told_60 rfl
theorem r_MRm_told_61 {x : Int32} : Rr X d MRm_told 61 L [.int x] h = some (some (.int x), h) := R_ir d_MRm_told_61 rfl
theorem r_MRm_told_62 {l0 l1 l3 : Value} {x : Int32} : Rr X d MRm_told 62 [l0, l1, .int x, l3] st h = Rr X d MRm_told 65 (sL [l0, l1, .int x, l3] 2 (.int (x + (1)))) st h := Rr_nx d_MRm_told_62 rfl
theorem r_MRm_told_65 : Rr X d MRm_told 65 L st h = Rr X d MRm_told 25 L st h := R_goto d_MRm_told_65 (by decide)
theorem r_MRm_told_68 : Rr X d MRm_told 68 L st h = Rr X d MRm_told 70 L (.int (-2) :: st) h := Rr_nx d_MRm_told_68 rfl
theorem r_MRm_told_70 {x : Int32} : Rr X d MRm_told 70 L [.int x] h = some (some (.int x), h) := R_ir d_MRm_told_70 rfl
theorem r_MRm_told_71 {l0 l2 l3 : Value} {x : Int32} : Rr X d MRm_told 71 [l0, .int x, l2, l3] st h = Rr X d MRm_told 72 [l0, .int x, l2, l3] (.int x :: st) h := Rr_nx d_MRm_told_71 rfl
theorem r_MRm_told_72 : Rr X d MRm_told 72 L st h = Rr X d MRm_told 73 L (.int (1) :: st) h := Rr_nx d_MRm_told_72 rfl
theorem r_MRm_told_73 {x y : Int32} : Rr X d MRm_told 73 L (.int y :: .int x :: st) h = if x ≤ y then Rr X d MRm_told 105 L st h else Rr X d MRm_told 76 L st h := R_ic_le d_MRm_told_73 (by decide)
theorem r_MRm_told_76 {l0 l2 l3 : Value} {x : Int32} : Rr X d MRm_told 76 [l0, .int x, l2, l3] st h = Rr X d MRm_told 77 [l0, .int x, l2, l3] (.int x :: st) h := Rr_nx d_MRm_told_76 rfl
theorem r_MRm_told_77 : Rr X d MRm_told 77 L st h = Rr X d MRm_told 78 L (.int (2) :: st) h := Rr_nx d_MRm_told_77 rfl
theorem r_MRm_told_78 {x y : Int32} : Rr X d MRm_told 78 L (.int y :: .int x :: st) h = if ¬ x = y then Rr X d MRm_told 88 L st h else Rr X d MRm_told 81 L st h := R_ic_ne d_MRm_told_78 (by decide)
theorem r_MRm_told_81 {l1 l2 l3 : Value} {x : Nat} : Rr X d MRm_told 81 [.ref x, l1, l2, l3] st h = Rr X d MRm_told 82 [.ref x, l1, l2, l3] (.ref x :: st) h := Rr_nx d_MRm_told_81 rfl
theorem r_MRm_told_82 {a : Nat} (hq : qI a 10 40 = true) : Rr X d MRm_told 82 L (.ref a :: st) (Wd mu la ro et) = Rr X d MRm_told 85 L (.int (mu a 40) :: st) (Wd mu la ro et) := R_gfI d_MRm_told_82 ff_10_304 hq
theorem r_MRm_told_85 : Rr X d MRm_told 85 L st h = Rr X d MRm_told 104 L st h := R_goto d_MRm_told_85 (by decide)
theorem r_MRm_told_88 {l0 l2 l3 : Value} {x : Int32} : Rr X d MRm_told 88 [l0, .int x, l2, l3] st h = Rr X d MRm_told 89 [l0, .int x, l2, l3] (.int x :: st) h := Rr_nx d_MRm_told_88 rfl
theorem r_MRm_told_89 : Rr X d MRm_told 89 L st h = Rr X d MRm_told 90 L (.int (3) :: st) h := Rr_nx d_MRm_told_89 rfl
theorem r_MRm_told_90 {x y : Int32} : Rr X d MRm_told 90 L (.int y :: .int x :: st) h = if ¬ x = y then Rr X d MRm_told 100 L st h else Rr X d MRm_told 93 L st h := R_ic_ne d_MRm_told_90 (by decide)
theorem r_MRm_told_93 {l1 l2 l3 : Value} {x : Nat} : Rr X d MRm_told 93 [.ref x, l1, l2, l3] st h = Rr X d MRm_told 94 [.ref x, l1, l2, l3] (.ref x :: st) h := Rr_nx d_MRm_told_93 rfl
theorem r_MRm_told_94 {a : Nat} (hq : qI a 10 41 = true) : Rr X d MRm_told 94 L (.ref a :: st) (Wd mu la ro et) = Rr X d MRm_told 97 L (.int (mu a 41) :: st) (Wd mu la ro et) := R_gfI d_MRm_told_94 ff_10_307 hq
theorem r_MRm_told_97 : Rr X d MRm_told 97 L st h = Rr X d MRm_told 104 L st h := R_goto d_MRm_told_97 (by decide)
theorem r_MRm_told_100 {l1 l2 l3 : Value} {x : Nat} : Rr X d MRm_told 100 [.ref x, l1, l2, l3] st h = Rr X d MRm_told 101 [.ref x, l1, l2, l3] (.ref x :: st) h := Rr_nx d_MRm_told_100 rfl
theorem r_MRm_told_101 {a : Nat} (hq : qI a 10 42 = true) : Rr X d MRm_told 101 L (.ref a :: st) (Wd mu la ro et) = Rr X d MRm_told 104 L (.int (mu a 42) :: st) (Wd mu la ro et) := R_gfI d_MRm_told_101 ff_10_310 hq
theorem r_MRm_told_104 {x : Int32} : Rr X d MRm_told 104 L [.int x] h = some (some (.int x), h) := R_ir d_MRm_told_104 rfl
theorem r_MRm_told_105 : Rr X d MRm_told 105 L st h = Rr X d MRm_told 106 L (.int (0) :: st) h := Rr_nx d_MRm_told_105 rfl
theorem r_MRm_told_106 {l0 l1 l2 l3 : Value} {x : Int32} : Rr X d MRm_told 106 [l0, l1, l2, l3] (.int x :: st) h = Rr X d MRm_told 107 (sL [l0, l1, l2, l3] 2 (.int x)) st h := Rr_nx d_MRm_told_106 rfl
theorem r_MRm_told_107 : Rr X d MRm_told 107 L st h = Rr X d MRm_told 108 L (.int (1) :: st) h := Rr_nx d_MRm_told_107 rfl
theorem r_MRm_told_108 {l0 l1 l2 l3 : Value} {x : Int32} : Rr X d MRm_told 108 [l0, l1, l2, l3] (.int x :: st) h = Rr X d MRm_told 109 (sL [l0, l1, l2, l3] 3 (.int x)) st h := Rr_nx d_MRm_told_108 rfl
theorem r_MRm_told_109 {l0 l1 l2 : Value} {x : Int32} : Rr X d MRm_told 109 [l0, l1, l2, .int x] st h = Rr X d MRm_told 110 [l0, l1, l2, .int x] (.int x :: st) h := Rr_nx d_MRm_told_109 rfl
theorem r_MRm_told_110 {l1 l2 l3 : Value} {x : Nat} : Rr X d MRm_told 110 [.ref x, l1, l2, l3] st h = Rr X d MRm_told 111 [.ref x, l1, l2, l3] (.ref x :: st) h := Rr_nx d_MRm_told_110 rfl
theorem r_MRm_told_111 {a : Nat} (hq : qI a 10 39 = true) : Rr X d MRm_told 111 L (.ref a :: st) (Wd mu la ro et) = Rr X d MRm_told 114 L (.int (mu a 39) :: st) (Wd mu la ro et) := R_gfI d_MRm_told_111 ff_10_72 hq
theorem r_MRm_told_114 {x y : Int32} : Rr X d MRm_told 114 L (.int y :: .int x :: st) h = if y < x then Rr X d MRm_told 132 L st h else Rr X d MRm_told 117 L st h := R_ic_gt d_MRm_told_114 (by decide)
theorem r_MRm_told_117 {l0 l1 l3 : Value} {x : Int32} : Rr X d MRm_told 117 [l0, l1, .int x, l3] st h = Rr X d MRm_told 118 [l0, l1, .int x, l3] (.int x :: st) h := Rr_nx d_MRm_told_117 rfl
theorem r_MRm_told_118 {l1 l2 l3 : Value} {x : Nat} : Rr X d MRm_told 118 [.ref x, l1, l2, l3] st h = Rr X d MRm_told 119 [.ref x, l1, l2, l3] (.ref x :: st) h := Rr_nx d_MRm_told_118 rfl
theorem r_MRm_told_119 {a : Nat} (hq : (qR a 10 36).isSome = true) : Rr X d MRm_told 119 L (.ref a :: st) (Wd mu la ro et) = Rr X d MRm_told 122 L (.ref (qRd a 10 36) :: st) (Wd mu la ro et) := R_gfR d_MRm_told_119 ff_10_63 hq
theorem r_MRm_told_122 {l0 l1 l2 : Value} {x : Int32} : Rr X d MRm_told 122 [l0, l1, l2, .int x] st h = Rr X d MRm_told 123 [l0, l1, l2, .int x] (.int x :: st) h := Rr_nx d_MRm_told_122 rfl
theorem r_MRm_told_123 {a : Nat} {j : Int32} (hq : (qA a 0).isSome = true) : Rr X d MRm_told 123 L (.int j :: .ref a :: st) (Wd mu la ro et) = if j < 0 ∨ qAd a 0 ≤ j.toNatClampNeg then none else Rr X d MRm_told 124 L (.int (mu a j.toNatClampNeg) :: st) (Wd mu la ro et) := R_ialW d_MRm_told_123 hq
theorem r_MRm_told_124 {x y : Int32} : Rr X d MRm_told 124 L (.int y :: .int x :: st) h = Rr X d MRm_told 125 L (.int (x + y) :: st) h := Rr_nx d_MRm_told_124 rfl
theorem r_MRm_told_125 {l0 l1 l2 l3 : Value} {x : Int32} : Rr X d MRm_told 125 [l0, l1, l2, l3] (.int x :: st) h = Rr X d MRm_told 126 (sL [l0, l1, l2, l3] 2 (.int x)) st h := Rr_nx d_MRm_told_125 rfl
theorem r_MRm_told_126 {l0 l1 l2 : Value} {x : Int32} : Rr X d MRm_told 126 [l0, l1, l2, .int x] st h = Rr X d MRm_told 129 (sL [l0, l1, l2, .int x] 3 (.int (x + (1)))) st h := Rr_nx d_MRm_told_126 rfl
theorem r_MRm_told_129 : Rr X d MRm_told 129 L st h = Rr X d MRm_told 109 L st h := R_goto d_MRm_told_129 (by decide)
theorem r_MRm_told_132 {l0 l1 l3 : Value} {x : Int32} : Rr X d MRm_told 132 [l0, l1, .int x, l3] st h = Rr X d MRm_told 133 [l0, l1, .int x, l3] (.int x :: st) h := Rr_nx d_MRm_told_132 rfl
theorem r_MRm_told_133 {x : Int32} : Rr X d MRm_told 133 L [.int x] h = some (some (.int x), h) := R_ir d_MRm_told_133 rfl
theorem d_MRm_going_0 : decode MRm_going.2.2.1 0 = .ok (.aload_n 0, 1) := lkT_ok tk_MRm_going rfl
theorem d_MRm_going_1 : decode MRm_going.2.2.1 1 = .ok (.getfield 72, 3) := lkT_ok tk_MRm_going rfl
theorem d_MRm_going_4 : decode MRm_going.2.2.1 4 = .ok (.ifCond .lt 24, 3) := lkT_ok tk_MRm_going rfl
theorem d_MRm_going_7 : decode MRm_going.2.2.1 7 = .ok (.iload_n 2, 1) := lkT_ok tk_MRm_going rfl
theorem d_MRm_going_8 : decode MRm_going.2.2.1 8 = .ok (.iconst 0, 1) := lkT_ok tk_MRm_going rfl
theorem d_MRm_going_9 : decode MRm_going.2.2.1 9 = .ok (.iconst 2, 1) := lkT_ok tk_MRm_going rfl
theorem d_MRm_going_10 : decode MRm_going.2.2.1 10 = .ok (.invokestatic 107, 3) := lkT_ok tk_MRm_going rfl
theorem d_MRm_going_13 : decode MRm_going.2.2.1 13 = .ok (.ifCond .eq 15, 3) := lkT_ok tk_MRm_going rfl
theorem d_MRm_going_16 : decode MRm_going.2.2.1 16 = .ok (.iload_n 1, 1) := lkT_ok tk_MRm_going rfl
theorem d_MRm_going_17 : decode MRm_going.2.2.1 17 = .ok (.iconst (-1), 1) := lkT_ok tk_MRm_going rfl
theorem d_MRm_going_18 : decode MRm_going.2.2.1 18 = .ok (.aload_n 0, 1) := lkT_ok tk_MRm_going rfl
theorem d_MRm_going_19 : decode MRm_going.2.2.1 19 = .ok (.getfield 72, 3) := lkT_ok tk_MRm_going rfl
theorem d_MRm_going_22 : decode MRm_going.2.2.1 22 = .ok (.invokestatic 107, 3) := lkT_ok tk_MRm_going rfl
theorem d_MRm_going_25 : decode MRm_going.2.2.1 25 = .ok (.ifCond .ne 6, 3) := lkT_ok tk_MRm_going rfl
theorem d_MRm_going_28 : decode MRm_going.2.2.1 28 = .ok (.ldc 176, 2) := lkT_ok tk_MRm_going rfl
theorem d_MRm_going_30 : decode MRm_going.2.2.1 30 = .ok (.ireturn, 1) := lkT_ok tk_MRm_going rfl
theorem d_MRm_going_31 : decode MRm_going.2.2.1 31 = .ok (.iload_n 1, 1) := lkT_ok tk_MRm_going rfl
theorem d_MRm_going_32 : decode MRm_going.2.2.1 32 = .ok (.ifCond .ge 17, 3) := lkT_ok tk_MRm_going rfl
theorem d_MRm_going_35 : decode MRm_going.2.2.1 35 = .ok (.iload_n 2, 1) := lkT_ok tk_MRm_going rfl
theorem d_MRm_going_36 : decode MRm_going.2.2.1 36 = .ok (.ifCond .ne 10, 3) := lkT_ok tk_MRm_going rfl
theorem d_MRm_going_39 : decode MRm_going.2.2.1 39 = .ok (.aload_n 0, 1) := lkT_ok tk_MRm_going rfl
theorem d_MRm_going_40 : decode MRm_going.2.2.1 40 = .ok (.getfield 72, 3) := lkT_ok tk_MRm_going rfl
theorem d_MRm_going_43 : decode MRm_going.2.2.1 43 = .ok (.goto 5, 3) := lkT_ok tk_MRm_going rfl
theorem d_MRm_going_46 : decode MRm_going.2.2.1 46 = .ok (.ldc 176, 2) := lkT_ok tk_MRm_going rfl
theorem d_MRm_going_48 : decode MRm_going.2.2.1 48 = .ok (.ireturn, 1) := lkT_ok tk_MRm_going rfl
theorem d_MRm_going_49 : decode MRm_going.2.2.1 49 = .ok (.iload_n 2, 1) := lkT_ok tk_MRm_going rfl
theorem d_MRm_going_50 : decode MRm_going.2.2.1 50 = .ok (.ifCond .ne 12, 3) := lkT_ok tk_MRm_going rfl
theorem d_MRm_going_53 : decode MRm_going.2.2.1 53 = .ok (.aload_n 0, 1) := lkT_ok tk_MRm_going rfl
theorem d_MRm_going_54 : decode MRm_going.2.2.1 54 = .ok (.getfield 63, 3) := lkT_ok tk_MRm_going rfl
theorem d_MRm_going_57 : decode MRm_going.2.2.1 57 = .ok (.iload_n 1, 1) := lkT_ok tk_MRm_going rfl
theorem d_MRm_going_58 : decode MRm_going.2.2.1 58 = .ok (.iaload, 1) := lkT_ok tk_MRm_going rfl
theorem d_MRm_going_59 : decode MRm_going.2.2.1 59 = .ok (.goto 23, 3) := lkT_ok tk_MRm_going rfl
theorem d_MRm_going_62 : decode MRm_going.2.2.1 62 = .ok (.iload_n 2, 1) := lkT_ok tk_MRm_going rfl
theorem d_MRm_going_63 : decode MRm_going.2.2.1 63 = .ok (.iconst 1, 1) := lkT_ok tk_MRm_going rfl
theorem d_MRm_going_64 : decode MRm_going.2.2.1 64 = .ok (.if_icmp .ne 12, 3) := lkT_ok tk_MRm_going rfl
theorem d_MRm_going_67 : decode MRm_going.2.2.1 67 = .ok (.aload_n 0, 1) := lkT_ok tk_MRm_going rfl
theorem d_MRm_going_68 : decode MRm_going.2.2.1 68 = .ok (.getfield 66, 3) := lkT_ok tk_MRm_going rfl
theorem d_MRm_going_71 : decode MRm_going.2.2.1 71 = .ok (.iload_n 1, 1) := lkT_ok tk_MRm_going rfl
theorem d_MRm_going_72 : decode MRm_going.2.2.1 72 = .ok (.iaload, 1) := lkT_ok tk_MRm_going rfl
theorem d_MRm_going_73 : decode MRm_going.2.2.1 73 = .ok (.goto 9, 3) := lkT_ok tk_MRm_going rfl
theorem d_MRm_going_76 : decode MRm_going.2.2.1 76 = .ok (.aload_n 0, 1) := lkT_ok tk_MRm_going rfl
theorem d_MRm_going_77 : decode MRm_going.2.2.1 77 = .ok (.getfield 69, 3) := lkT_ok tk_MRm_going rfl
theorem d_MRm_going_80 : decode MRm_going.2.2.1 80 = .ok (.iload_n 1, 1) := lkT_ok tk_MRm_going rfl
theorem d_MRm_going_81 : decode MRm_going.2.2.1 81 = .ok (.iaload, 1) := lkT_ok tk_MRm_going rfl
theorem d_MRm_going_82 : decode MRm_going.2.2.1 82 = .ok (.ireturn, 1) := lkT_ok tk_MRm_going rfl
theorem r_MRm_going_0 {l1 l2 : Value} {x : Nat} : Rr X d MRm_going 0 [.ref x, l1, l2] st h = Rr X d MRm_going 1 [.ref x, l1, l2] (.ref x :: st) h := Rr_nx d_MRm_going_0 rfl
theorem r_MRm_going_1 {a : Nat} (hq : qI a 10 39 = true) : Rr X d MRm_going 1 L (.ref a :: st) (Wd mu la ro et) = Rr X d MRm_going 4 L (.int (mu a 39) :: st) (Wd mu la ro et) := R_gfI d_MRm_going_1 ff_10_72 hq
theorem r_MRm_going_4 {x : Int32} : Rr X d MRm_going 4 L (.int x :: st) h = if x < 0 then Rr X d MRm_going 28 L st h else Rr X d MRm_going 7 L st h := R_if_lt d_MRm_going_4 (by decide)
theorem r_MRm_going_7 {l0 l1 : Value} {x : Int32} : Rr X d MRm_going 7 [l0, l1, .int x] st h = Rr X d MRm_going 8 [l0, l1, .int x] (.int x :: st) h := Rr_nx d_MRm_going_7 rfl
theorem r_MRm_going_8 : Rr X d MRm_going 8 L st h = Rr X d MRm_going 9 L (.int (0) :: st) h := Rr_nx d_MRm_going_8 rfl
theorem r_MRm_going_9 : Rr X d MRm_going 9 L st h = Rr X d MRm_going 10 L (.int (2) :: st) h := Rr_nx d_MRm_going_9 rfl
theorem r_MRm_going_10 {y0 : Int32} {y1 : Int32} {y2 : Int32} (hc : ckS st = true) : Rr X (d + 1) MRm_going 10 L (.int y2 :: .int y1 :: .int y0 :: st) h = (Rr X d MRm_in 0 [.int y0, .int y1, .int y2] [] h).bind fun q => Rr X (d + 1) MRm_going 13 L (psh q.1 st) q.2 := R_is (av := [.int y2, .int y1, .int y0]) d_MRm_going_10 (Or.inl fc_10_107) (ckS_le hc) rfl (Nat.le_of_ble_eq_true rfl) (Nat.le_of_ble_eq_true rfl)
theorem r_MRm_going_13 {x : Int32} : Rr X d MRm_going 13 L (.int x :: st) h = if x = 0 then Rr X d MRm_going 28 L st h else Rr X d MRm_going 16 L st h := R_if_eq d_MRm_going_13 (by decide)
theorem r_MRm_going_16 {l0 l2 : Value} {x : Int32} : Rr X d MRm_going 16 [l0, .int x, l2] st h = Rr X d MRm_going 17 [l0, .int x, l2] (.int x :: st) h := Rr_nx d_MRm_going_16 rfl
theorem r_MRm_going_17 : Rr X d MRm_going 17 L st h = Rr X d MRm_going 18 L (.int (-1) :: st) h := Rr_nx d_MRm_going_17 rfl
theorem r_MRm_going_18 {l1 l2 : Value} {x : Nat} : Rr X d MRm_going 18 [.ref x, l1, l2] st h = Rr X d MRm_going 19 [.ref x, l1, l2] (.ref x :: st) h := Rr_nx d_MRm_going_18 rfl
theorem r_MRm_going_19 {a : Nat} (hq : qI a 10 39 = true) : Rr X d MRm_going 19 L (.ref a :: st) (Wd mu la ro et) = Rr X d MRm_going 22 L (.int (mu a 39) :: st) (Wd mu la ro et) := R_gfI d_MRm_going_19 ff_10_72 hq
theorem r_MRm_going_22 {y0 : Int32} {y1 : Int32} {y2 : Int32} (hc : ckS st = true) : Rr X (d + 1) MRm_going 22 L (.int y2 :: .int y1 :: .int y0 :: st) h = (Rr X d MRm_in 0 [.int y0, .int y1, .int y2] [] h).bind fun q => Rr X (d + 1) MRm_going 25 L (psh q.1 st) q.2 := R_is (av := [.int y2, .int y1, .int y0]) d_MRm_going_22 (Or.inl fc_10_107) (ckS_le hc) rfl (Nat.le_of_ble_eq_true rfl) (Nat.le_of_ble_eq_true rfl)
theorem r_MRm_going_25 {x : Int32} : Rr X d MRm_going 25 L (.int x :: st) h = if ¬ x = 0 then Rr X d MRm_going 31 L st h else Rr X d MRm_going 28 L st h := R_if_ne d_MRm_going_25 (by decide)
theorem r_MRm_going_28 : Rr X d MRm_going 28 L st h = Rr X d MRm_going 30 L (.int (-2000000000) :: st) h := Rr_nx d_MRm_going_28 rfl
theorem r_MRm_going_30 {x : Int32} : Rr X d MRm_going 30 L [.int x] h = some (some (.int x), h) := R_ir d_MRm_going_30 rfl
theorem r_MRm_going_31 {l0 l2 : Value} {x : Int32} : Rr X d MRm_going 31 [l0, .int x, l2] st h = Rr X d MRm_going 32 [l0, .int x, l2] (.int x :: st) h := Rr_nx d_MRm_going_31 rfl
theorem r_MRm_going_32 {x : Int32} : Rr X d MRm_going 32 L (.int x :: st) h = if 0 ≤ x then Rr X d MRm_going 49 L st h else Rr X d MRm_going 35 L st h := R_if_ge d_MRm_going_32 (by decide)
theorem r_MRm_going_35 {l0 l1 : Value} {x : Int32} : Rr X d MRm_going 35 [l0, l1, .int x] st h = Rr X d MRm_going 36 [l0, l1, .int x] (.int x :: st) h := Rr_nx d_MRm_going_35 rfl
theorem r_MRm_going_36 {x : Int32} : Rr X d MRm_going 36 L (.int x :: st) h = if ¬ x = 0 then Rr X d MRm_going 46 L st h else Rr X d MRm_going 39 L st h := R_if_ne d_MRm_going_36 (by decide)
theorem r_MRm_going_39 {l1 l2 : Value} {x : Nat} : Rr X d MRm_going 39 [.ref x, l1, l2] st h = Rr X d MRm_going 40 [.ref x, l1, l2] (.ref x :: st) h := Rr_nx d_MRm_going_39 rfl
theorem r_MRm_going_40 {a : Nat} (hq : qI a 10 39 = true) : Rr X d MRm_going 40 L (.ref a :: st) (Wd mu la ro et) = Rr X d MRm_going 43 L (.int (mu a 39) :: st) (Wd mu la ro et) := R_gfI d_MRm_going_40 ff_10_72 hq
theorem r_MRm_going_43 : Rr X d MRm_going 43 L st h = Rr X d MRm_going 48 L st h := R_goto d_MRm_going_43 (by decide)
theorem r_MRm_going_46 : Rr X d MRm_going 46 L st h = Rr X d MRm_going 48 L (.int (-2000000000) :: st) h := Rr_nx d_MRm_going_46 rfl
theorem r_MRm_going_48 {x : Int32} : Rr X d MRm_going 48 L [.int x] h = some (some (.int x), h) := R_ir d_MRm_going_48 rfl
theorem r_MRm_going_49 {l0 l1 : Value} {x : Int32} : Rr X d MRm_going 49 [l0, l1, .int x] st h = Rr X d MRm_going 50 [l0, l1, .int x] (.int x :: st) h := Rr_nx d_MRm_going_49 rfl
theorem r_MRm_going_50 {x : Int32} : Rr X d MRm_going 50 L (.int x :: st) h = if ¬ x = 0 then Rr X d MRm_going 62 L st h else Rr X d MRm_going 53 L st h := R_if_ne d_MRm_going_50 (by decide)
theorem r_MRm_going_53 {l1 l2 : Value} {x : Nat} : Rr X d MRm_going 53 [.ref x, l1, l2] st h = Rr X d MRm_going 54 [.ref x, l1, l2] (.ref x :: st) h := Rr_nx d_MRm_going_53 rfl
theorem r_MRm_going_54 {a : Nat} (hq : (qR a 10 36).isSome = true) : Rr X d MRm_going 54 L (.ref a :: st) (Wd mu la ro et) = Rr X d MRm_going 57 L (.ref (qRd a 10 36) :: st) (Wd mu la ro et) := R_gfR d_MRm_going_54 ff_10_63 hq
theorem r_MRm_going_57 {l0 l2 : Value} {x : Int32} : Rr X d MRm_going 57 [l0, .int x, l2] st h = Rr X d MRm_going 58 [l0, .int x, l2] (.int x :: st) h := Rr_nx d_MRm_going_57 rfl
theorem r_MRm_going_58 {a : Nat} {j : Int32} (hq : (qA a 0).isSome = true) : Rr X d MRm_going 58 L (.int j :: .ref a :: st) (Wd mu la ro et) = if j < 0 ∨ qAd a 0 ≤ j.toNatClampNeg then none else Rr X d MRm_going 59 L (.int (mu a j.toNatClampNeg) :: st) (Wd mu la ro et) := R_ialW d_MRm_going_58 hq
theorem r_MRm_going_59 : Rr X d MRm_going 59 L st h = Rr X d MRm_going 82 L st h := R_goto d_MRm_going_59 (by decide)
theorem r_MRm_going_62 {l0 l1 : Value} {x : Int32} : Rr X d MRm_going 62 [l0, l1, .int x] st h = Rr X d MRm_going 63 [l0, l1, .int x] (.int x :: st) h := Rr_nx d_MRm_going_62 rfl
theorem r_MRm_going_63 : Rr X d MRm_going 63 L st h = Rr X d MRm_going 64 L (.int (1) :: st) h := Rr_nx d_MRm_going_63 rfl
theorem r_MRm_going_64 {x y : Int32} : Rr X d MRm_going 64 L (.int y :: .int x :: st) h = if ¬ x = y then Rr X d MRm_going 76 L st h else Rr X d MRm_going 67 L st h := R_ic_ne d_MRm_going_64 (by decide)
theorem r_MRm_going_67 {l1 l2 : Value} {x : Nat} : Rr X d MRm_going 67 [.ref x, l1, l2] st h = Rr X d MRm_going 68 [.ref x, l1, l2] (.ref x :: st) h := Rr_nx d_MRm_going_67 rfl
theorem r_MRm_going_68 {a : Nat} (hq : (qR a 10 37).isSome = true) : Rr X d MRm_going 68 L (.ref a :: st) (Wd mu la ro et) = Rr X d MRm_going 71 L (.ref (qRd a 10 37) :: st) (Wd mu la ro et) := R_gfR d_MRm_going_68 ff_10_66 hq
theorem r_MRm_going_71 {l0 l2 : Value} {x : Int32} : Rr X d MRm_going 71 [l0, .int x, l2] st h = Rr X d MRm_going 72 [l0, .int x, l2] (.int x :: st) h := Rr_nx d_MRm_going_71 rfl
theorem r_MRm_going_72 {a : Nat} {j : Int32} (hq : (qA a 0).isSome = true) : Rr X d MRm_going 72 L (.int j :: .ref a :: st) (Wd mu la ro et) = if j < 0 ∨ qAd a 0 ≤ j.toNatClampNeg then none else Rr X d MRm_going 73 L (.int (mu a j.toNatClampNeg) :: st) (Wd mu la ro et) := R_ialW d_MRm_going_72 hq
theorem r_MRm_going_73 : Rr X d MRm_going 73 L st h = Rr X d MRm_going 82 L st h := R_goto d_MRm_going_73 (by decide)
theorem r_MRm_going_76 {l1 l2 : Value} {x : Nat} : Rr X d MRm_going 76 [.ref x, l1, l2] st h = Rr X d MRm_going 77 [.ref x, l1, l2] (.ref x :: st) h := Rr_nx d_MRm_going_76 rfl
theorem r_MRm_going_77 {a : Nat} (hq : (qR a 10 38).isSome = true) : Rr X d MRm_going 77 L (.ref a :: st) (Wd mu la ro et) = Rr X d MRm_going 80 L (.ref (qRd a 10 38) :: st) (Wd mu la ro et) := R_gfR d_MRm_going_77 ff_10_69 hq
theorem r_MRm_going_80 {l0 l2 : Value} {x : Int32} : Rr X d MRm_going 80 [l0, .int x, l2] st h = Rr X d MRm_going 81 [l0, .int x, l2] (.int x :: st) h := Rr_nx d_MRm_going_80 rfl
theorem r_MRm_going_81 {a : Nat} {j : Int32} (hq : (qA a 0).isSome = true) : Rr X d MRm_going 81 L (.int j :: .ref a :: st) (Wd mu la ro et) = if j < 0 ∨ qAd a 0 ≤ j.toNatClampNeg then none else Rr X d MRm_going 82 L (.int (mu a j.toNatClampNeg) :: st) (Wd mu la ro et) := R_ialW d_MRm_going_81 hq
theorem r_MRm_going_82 {x : Int32} : Rr X d MRm_going 82 L [.int x] h = some (some (.int x), h) := R_ir d_MRm_going_82 rfl
theorem d_MTo_offBy_0 : decode MTo_offBy.2.2.1 0 = .ok (.aload_n 0, 1) := lkT_ok tk_MTo_offBy rfl
theorem d_MTo_offBy_1 : decode MTo_offBy.2.2.1 1 = .ok (.iload_n 1, 1) := lkT_ok tk_MTo_offBy rfl
theorem d_MTo_offBy_2 : decode MTo_offBy.2.2.1 2 = .ok (.iload_n 3, 1) := lkT_ok tk_MTo_offBy rfl
theorem d_MTo_offBy_3 : decode MTo_offBy.2.2.1 3 = .ok (.invokevirtual 197, 3) := lkT_ok tk_MTo_offBy rfl
theorem d_MTo_offBy_6 : decode MTo_offBy.2.2.1 6 = .ok (.aload_n 0, 1) := lkT_ok tk_MTo_offBy rfl
theorem d_MTo_offBy_7 : decode MTo_offBy.2.2.1 7 = .ok (.getfield 37, 3) := lkT_ok tk_MTo_offBy rfl
theorem d_MTo_offBy_10 : decode MTo_offBy.2.2.1 10 = .ok (.aload_n 0, 1) := lkT_ok tk_MTo_offBy rfl
theorem d_MTo_offBy_11 : decode MTo_offBy.2.2.1 11 = .ok (.getfield 51, 3) := lkT_ok tk_MTo_offBy rfl
theorem d_MTo_offBy_14 : decode MTo_offBy.2.2.1 14 = .ok (.iconst 0, 1) := lkT_ok tk_MTo_offBy rfl
theorem d_MTo_offBy_15 : decode MTo_offBy.2.2.1 15 = .ok (.invokevirtual 321, 3) := lkT_ok tk_MTo_offBy rfl
theorem d_MTo_offBy_18 : decode MTo_offBy.2.2.1 18 = .ok (.iload_n 2, 1) := lkT_ok tk_MTo_offBy rfl
theorem d_MTo_offBy_19 : decode MTo_offBy.2.2.1 19 = .ok (.sipush 1000, 3) := lkT_ok tk_MTo_offBy rfl
theorem d_MTo_offBy_22 : decode MTo_offBy.2.2.1 22 = .ok (.idiv, 1) := lkT_ok tk_MTo_offBy rfl
theorem d_MTo_offBy_23 : decode MTo_offBy.2.2.1 23 = .ok (.iload_n 2, 1) := lkT_ok tk_MTo_offBy rfl
theorem d_MTo_offBy_24 : decode MTo_offBy.2.2.1 24 = .ok (.sipush 1000, 3) := lkT_ok tk_MTo_offBy rfl
theorem d_MTo_offBy_27 : decode MTo_offBy.2.2.1 27 = .ok (.irem, 1) := lkT_ok tk_MTo_offBy rfl
theorem d_MTo_offBy_28 : decode MTo_offBy.2.2.1 28 = .ok (.aload_n 0, 1) := lkT_ok tk_MTo_offBy rfl
theorem d_MTo_offBy_29 : decode MTo_offBy.2.2.1 29 = .ok (.getfield 51, 3) := lkT_ok tk_MTo_offBy rfl
theorem d_MTo_offBy_32 : decode MTo_offBy.2.2.1 32 = .ok (.iconst 0, 1) := lkT_ok tk_MTo_offBy rfl
theorem d_MTo_offBy_33 : decode MTo_offBy.2.2.1 33 = .ok (.invokevirtual 324, 3) := lkT_ok tk_MTo_offBy rfl
theorem d_MTo_offBy_36 : decode MTo_offBy.2.2.1 36 = .ok (.invokevirtual 313, 3) := lkT_ok tk_MTo_offBy rfl
theorem d_MTo_offBy_39 : decode MTo_offBy.2.2.1 39 = .ok (.iconst 0, 1) := lkT_ok tk_MTo_offBy rfl
theorem d_MTo_offBy_40 : decode MTo_offBy.2.2.1 40 = .ok (.istore 4, 2) := lkT_ok tk_MTo_offBy rfl
theorem d_MTo_offBy_42 : decode MTo_offBy.2.2.1 42 = .ok (.iconst 1, 1) := lkT_ok tk_MTo_offBy rfl
theorem d_MTo_offBy_43 : decode MTo_offBy.2.2.1 43 = .ok (.istore 5, 2) := lkT_ok tk_MTo_offBy rfl
theorem d_MTo_offBy_45 : decode MTo_offBy.2.2.1 45 = .ok (.iload 5, 2) := lkT_ok tk_MTo_offBy rfl
theorem d_MTo_offBy_47 : decode MTo_offBy.2.2.1 47 = .ok (.aload_n 0, 1) := lkT_ok tk_MTo_offBy rfl
theorem d_MTo_offBy_48 : decode MTo_offBy.2.2.1 48 = .ok (.getfield 51, 3) := lkT_ok tk_MTo_offBy rfl
theorem d_MTo_offBy_51 : decode MTo_offBy.2.2.1 51 = .ok (.getfield 211, 3) := lkT_ok tk_MTo_offBy rfl
theorem d_MTo_offBy_54 : decode MTo_offBy.2.2.1 54 = .ok (.if_icmp .ge 71, 3) := lkT_ok tk_MTo_offBy rfl
theorem d_MTo_offBy_57 : decode MTo_offBy.2.2.1 57 = .ok (.aload_n 0, 1) := lkT_ok tk_MTo_offBy rfl
theorem d_MTo_offBy_58 : decode MTo_offBy.2.2.1 58 = .ok (.getfield 51, 3) := lkT_ok tk_MTo_offBy rfl
theorem d_MTo_offBy_61 : decode MTo_offBy.2.2.1 61 = .ok (.iload 5, 2) := lkT_ok tk_MTo_offBy rfl
theorem d_MTo_offBy_63 : decode MTo_offBy.2.2.1 63 = .ok (.invokevirtual 324, 3) := lkT_ok tk_MTo_offBy rfl
theorem d_MTo_offBy_66 : decode MTo_offBy.2.2.1 66 = .ok (.aload_n 0, 1) := lkT_ok tk_MTo_offBy rfl
theorem d_MTo_offBy_67 : decode MTo_offBy.2.2.1 67 = .ok (.getfield 37, 3) := lkT_ok tk_MTo_offBy rfl
theorem d_MTo_offBy_70 : decode MTo_offBy.2.2.1 70 = .ok (.getfield 318, 3) := lkT_ok tk_MTo_offBy rfl
theorem d_MTo_offBy_73 : decode MTo_offBy.2.2.1 73 = .ok (.isub, 1) := lkT_ok tk_MTo_offBy rfl
theorem d_MTo_offBy_74 : decode MTo_offBy.2.2.1 74 = .ok (.istore 6, 2) := lkT_ok tk_MTo_offBy rfl
theorem d_MTo_offBy_76 : decode MTo_offBy.2.2.1 76 = .ok (.iload 6, 2) := lkT_ok tk_MTo_offBy rfl
theorem d_MTo_offBy_78 : decode MTo_offBy.2.2.1 78 = .ok (.ifCond .le 16, 3) := lkT_ok tk_MTo_offBy rfl
theorem d_MTo_offBy_81 : decode MTo_offBy.2.2.1 81 = .ok (.aload_n 0, 1) := lkT_ok tk_MTo_offBy rfl
theorem d_MTo_offBy_82 : decode MTo_offBy.2.2.1 82 = .ok (.getfield 37, 3) := lkT_ok tk_MTo_offBy rfl
theorem d_MTo_offBy_85 : decode MTo_offBy.2.2.1 85 = .ok (.invokevirtual 315, 3) := lkT_ok tk_MTo_offBy rfl
theorem d_MTo_offBy_88 : decode MTo_offBy.2.2.1 88 = .ok (.iinc 6 (-1), 3) := lkT_ok tk_MTo_offBy rfl
theorem d_MTo_offBy_91 : decode MTo_offBy.2.2.1 91 = .ok (.goto (-15), 3) := lkT_ok tk_MTo_offBy rfl
theorem d_MTo_offBy_94 : decode MTo_offBy.2.2.1 94 = .ok (.iload 4, 2) := lkT_ok tk_MTo_offBy rfl
theorem d_MTo_offBy_96 : decode MTo_offBy.2.2.1 96 = .ok (.aload_n 0, 1) := lkT_ok tk_MTo_offBy rfl
theorem d_MTo_offBy_97 : decode MTo_offBy.2.2.1 97 = .ok (.getfield 37, 3) := lkT_ok tk_MTo_offBy rfl
theorem d_MTo_offBy_100 : decode MTo_offBy.2.2.1 100 = .ok (.getfield 153, 3) := lkT_ok tk_MTo_offBy rfl
theorem d_MTo_offBy_103 : decode MTo_offBy.2.2.1 103 = .ok (.aload_n 0, 1) := lkT_ok tk_MTo_offBy rfl
theorem d_MTo_offBy_104 : decode MTo_offBy.2.2.1 104 = .ok (.getfield 51, 3) := lkT_ok tk_MTo_offBy rfl
theorem d_MTo_offBy_107 : decode MTo_offBy.2.2.1 107 = .ok (.iload 5, 2) := lkT_ok tk_MTo_offBy rfl
theorem d_MTo_offBy_109 : decode MTo_offBy.2.2.1 109 = .ok (.invokevirtual 321, 3) := lkT_ok tk_MTo_offBy rfl
theorem d_MTo_offBy_112 : decode MTo_offBy.2.2.1 112 = .ok (.isub, 1) := lkT_ok tk_MTo_offBy rfl
theorem d_MTo_offBy_113 : decode MTo_offBy.2.2.1 113 = .ok (.invokestatic 327, 3) := lkT_ok tk_MTo_offBy rfl
theorem d_MTo_offBy_116 : decode MTo_offBy.2.2.1 116 = .ok (.iadd, 1) := lkT_ok tk_MTo_offBy rfl
theorem d_MTo_offBy_117 : decode MTo_offBy.2.2.1 117 = .ok (.istore 4, 2) := lkT_ok tk_MTo_offBy rfl
theorem d_MTo_offBy_119 : decode MTo_offBy.2.2.1 119 = .ok (.iinc 5 1, 3) := lkT_ok tk_MTo_offBy rfl
theorem d_MTo_offBy_122 : decode MTo_offBy.2.2.1 122 = .ok (.goto (-77), 3) := lkT_ok tk_MTo_offBy rfl
theorem d_MTo_offBy_125 : decode MTo_offBy.2.2.1 125 = .ok (.iload 4, 2) := lkT_ok tk_MTo_offBy rfl
theorem d_MTo_offBy_127 : decode MTo_offBy.2.2.1 127 = .ok (.ireturn, 1) := lkT_ok tk_MTo_offBy rfl
theorem r_MTo_offBy_0 {l1 l2 l3 l4 l5 l6 : Value} {x : Nat} : Rr X d MTo_offBy 0 [.ref x, l1, l2, l3, l4, l5, l6] st h = Rr X d MTo_offBy 1 [.ref x, l1, l2, l3, l4, l5, l6] (.ref x :: st) h := Rr_nx d_MTo_offBy_0 rfl
theorem r_MTo_offBy_1 {l0 l2 l3 l4 l5 l6 : Value} {x : Int32} : Rr X d MTo_offBy 1 [l0, .int x, l2, l3, l4, l5, l6] st h = Rr X d MTo_offBy 2 [l0, .int x, l2, l3, l4, l5, l6] (.int x :: st) h := Rr_nx d_MTo_offBy_1 rfl
theorem r_MTo_offBy_2 {l0 l1 l2 l4 l5 l6 : Value} {x : Int32} : Rr X d MTo_offBy 2 [l0, l1, l2, .int x, l4, l5, l6] st h = Rr X d MTo_offBy 3 [l0, l1, l2, .int x, l4, l5, l6] (.int x :: st) h := Rr_nx d_MTo_offBy_2 rfl
theorem r_MTo_offBy_3 {y0 : Int32} {y1 : Int32} {a : Nat} (hO : qO a 9 = true) (hc : ckS st = true) : Rr X (d + 1) MTo_offBy 3 L (.int y1 :: .int y0 :: .ref a :: st) (Wd mu la ro et) = (Rr X d MTo_lay 0 [.ref a, .int y0, .int y1, mkU] [] (Wd mu la ro et)).bind fun q => Rr X (d + 1) MTo_offBy 6 L (psh q.1 st) q.2 := R_iv (av := [.int y1, .int y0]) d_MTo_offBy_3 fc_9_197 hO (ckS_le hc) rfl (Nat.le_of_ble_eq_true rfl) (Nat.le_of_ble_eq_true rfl)
theorem r_MTo_offBy_6 {l1 l2 l3 l4 l5 l6 : Value} {x : Nat} : Rr X d MTo_offBy 6 [.ref x, l1, l2, l3, l4, l5, l6] st h = Rr X d MTo_offBy 7 [.ref x, l1, l2, l3, l4, l5, l6] (.ref x :: st) h := Rr_nx d_MTo_offBy_6 rfl
theorem r_MTo_offBy_7 {a : Nat} (hq : (qR a 9 4).isSome = true) : Rr X d MTo_offBy 7 L (.ref a :: st) (Wd mu la ro et) = Rr X d MTo_offBy 10 L (.ref (qRd a 9 4) :: st) (Wd mu la ro et) := R_gfR d_MTo_offBy_7 ff_9_37 hq
theorem r_MTo_offBy_10 {l1 l2 l3 l4 l5 l6 : Value} {x : Nat} : Rr X d MTo_offBy 10 [.ref x, l1, l2, l3, l4, l5, l6] st h = Rr X d MTo_offBy 11 [.ref x, l1, l2, l3, l4, l5, l6] (.ref x :: st) h := Rr_nx d_MTo_offBy_10 rfl
theorem ff_9_51 : fF 9 51 = some (9, 6, 1, 1) := rfl
theorem r_MTo_offBy_11 {a : Nat} (hq : (qR a 9 6).isSome = true) : Rr X d MTo_offBy 11 L (.ref a :: st) (Wd mu la ro et) = Rr X d MTo_offBy 14 L (.ref (qRd a 9 6) :: st) (Wd mu la ro et) := R_gfR d_MTo_offBy_11 ff_9_51 hq
theorem r_MTo_offBy_14 : Rr X d MTo_offBy 14 L st h = Rr X d MTo_offBy 15 L (.int (0) :: st) h := Rr_nx d_MTo_offBy_14 rfl
theorem fc_9_321 : fC 9 321 = some (0, 2, 1, MFi_turnAt) := rfl
theorem r_MTo_offBy_15 {y0 : Int32} {a : Nat} (hO : qO a 2 = true) (hc : ckS st = true) : Rr X (d + 1) MTo_offBy 15 L (.int y0 :: .ref a :: st) (Wd mu la ro et) = (Rr X d MFi_turnAt 0 [.ref a, .int y0] [] (Wd mu la ro et)).bind fun q => Rr X (d + 1) MTo_offBy 18 L (psh q.1 st) q.2 := R_iv (av := [.int y0]) d_MTo_offBy_15 fc_9_321 hO (ckS_le hc) rfl (Nat.le_of_ble_eq_true rfl) (Nat.le_of_ble_eq_true rfl)
theorem r_MTo_offBy_18 {l0 l1 l3 l4 l5 l6 : Value} {x : Int32} : Rr X d MTo_offBy 18 [l0, l1, .int x, l3, l4, l5, l6] st h = Rr X d MTo_offBy 19 [l0, l1, .int x, l3, l4, l5, l6] (.int x :: st) h := Rr_nx d_MTo_offBy_18 rfl
theorem r_MTo_offBy_19 : Rr X d MTo_offBy 19 L st h = Rr X d MTo_offBy 22 L (.int (1000) :: st) h := Rr_nx d_MTo_offBy_19 rfl
theorem r_MTo_offBy_22 {x y : Int32} : Rr X d MTo_offBy 22 L (.int y :: .int x :: st) h = if y = 0 then none else Rr X d MTo_offBy 23 L (.int (x / y) :: st) h := R_dv d_MTo_offBy_22
theorem r_MTo_offBy_23 {l0 l1 l3 l4 l5 l6 : Value} {x : Int32} : Rr X d MTo_offBy 23 [l0, l1, .int x, l3, l4, l5, l6] st h = Rr X d MTo_offBy 24 [l0, l1, .int x, l3, l4, l5, l6] (.int x :: st) h := Rr_nx d_MTo_offBy_23 rfl
theorem r_MTo_offBy_24 : Rr X d MTo_offBy 24 L st h = Rr X d MTo_offBy 27 L (.int (1000) :: st) h := Rr_nx d_MTo_offBy_24 rfl
theorem r_MTo_offBy_27 {x y : Int32} : Rr X d MTo_offBy 27 L (.int y :: .int x :: st) h = if y = 0 then none else Rr X d MTo_offBy 28 L (.int (x - x / y * y) :: st) h := R_rm d_MTo_offBy_27
theorem r_MTo_offBy_28 {l1 l2 l3 l4 l5 l6 : Value} {x : Nat} : Rr X d MTo_offBy 28 [.ref x, l1, l2, l3, l4, l5, l6] st h = Rr X d MTo_offBy 29 [.ref x, l1, l2, l3, l4, l5, l6] (.ref x :: st) h := Rr_nx d_MTo_offBy_28 rfl
theorem r_MTo_offBy_29 {a : Nat} (hq : (qR a 9 6).isSome = true) : Rr X d MTo_offBy 29 L (.ref a :: st) (Wd mu la ro et) = Rr X d MTo_offBy 32 L (.ref (qRd a 9 6) :: st) (Wd mu la ro et) := R_gfR d_MTo_offBy_29 ff_9_51 hq
theorem r_MTo_offBy_32 : Rr X d MTo_offBy 32 L st h = Rr X d MTo_offBy 33 L (.int (0) :: st) h := Rr_nx d_MTo_offBy_32 rfl
theorem fc_9_324 : fC 9 324 = some (0, 2, 1, MFi_tickAt) := rfl
theorem r_MTo_offBy_33 {y0 : Int32} {a : Nat} (hO : qO a 2 = true) (hc : ckS st = true) : Rr X (d + 1) MTo_offBy 33 L (.int y0 :: .ref a :: st) (Wd mu la ro et) = (Rr X d MFi_tickAt 0 [.ref a, .int y0] [] (Wd mu la ro et)).bind fun q => Rr X (d + 1) MTo_offBy 36 L (psh q.1 st) q.2 := R_iv (av := [.int y0]) d_MTo_offBy_33 fc_9_324 hO (ckS_le hc) rfl (Nat.le_of_ble_eq_true rfl) (Nat.le_of_ble_eq_true rfl)
theorem r_MTo_offBy_36 {y0 : Int32} {y1 : Int32} {y2 : Int32} {y3 : Int32} {a : Nat} (hO : qO a 5 = true) (hc : ckS st = true) : Rr X (d + 1) MTo_offBy 36 L (.int y3 :: .int y2 :: .int y1 :: .int y0 :: .ref a :: st) (Wd mu la ro et) = (Rr X d MMo_start 0 [.ref a, .int y0, .int y1, .int y2, .int y3] [] (Wd mu la ro et)).bind fun q => Rr X (d + 1) MTo_offBy 39 L (psh q.1 st) q.2 := R_iv (av := [.int y3, .int y2, .int y1, .int y0]) d_MTo_offBy_36 fc_9_313 hO (ckS_le hc) rfl (Nat.le_of_ble_eq_true rfl) (Nat.le_of_ble_eq_true rfl)
theorem r_MTo_offBy_39 : Rr X d MTo_offBy 39 L st h = Rr X d MTo_offBy 40 L (.int (0) :: st) h := Rr_nx d_MTo_offBy_39 rfl
theorem r_MTo_offBy_40 {l0 l1 l2 l3 l4 l5 l6 : Value} {x : Int32} : Rr X d MTo_offBy 40 [l0, l1, l2, l3, l4, l5, l6] (.int x :: st) h = Rr X d MTo_offBy 42 (sL [l0, l1, l2, l3, l4, l5, l6] 4 (.int x)) st h := Rr_nx d_MTo_offBy_40 rfl
theorem r_MTo_offBy_42 : Rr X d MTo_offBy 42 L st h = Rr X d MTo_offBy 43 L (.int (1) :: st) h := Rr_nx d_MTo_offBy_42 rfl
theorem r_MTo_offBy_43 {l0 l1 l2 l3 l4 l5 l6 : Value} {x : Int32} : Rr X d MTo_offBy 43 [l0, l1, l2, l3, l4, l5, l6] (.int x :: st) h = Rr X d MTo_offBy 45 (sL [l0, l1, l2, l3, l4, l5, l6] 5 (.int x)) st h := Rr_nx d_MTo_offBy_43 rfl
theorem r_MTo_offBy_45 {l0 l1 l2 l3 l4 l6 : Value} {x : Int32} : Rr X d MTo_offBy 45 [l0, l1, l2, l3, l4, .int x, l6] st h = Rr X d MTo_offBy 47 [l0, l1, l2, l3, l4, .int x, l6] (.int x :: st) h := Rr_nx d_MTo_offBy_45 rfl
theorem r_MTo_offBy_47 {l1 l2 l3 l4 l5 l6 : Value} {x : Nat} : Rr X d MTo_offBy 47 [.ref x, l1, l2, l3, l4, l5, l6] st h = Rr X d MTo_offBy 48 [.ref x, l1, l2, l3, l4, l5, l6] (.ref x :: st) h := Rr_nx d_MTo_offBy_47 rfl
theorem r_MTo_offBy_48 {a : Nat} (hq : (qR a 9 6).isSome = true) : Rr X d MTo_offBy 48 L (.ref a :: st) (Wd mu la ro et) = Rr X d MTo_offBy 51 L (.ref (qRd a 9 6) :: st) (Wd mu la ro et) := R_gfR d_MTo_offBy_48 ff_9_51 hq
theorem ff_9_211 : fF 9 211 = some (2, 2, 0, 0) := rfl
theorem r_MTo_offBy_51 {a : Nat} (hq : qI a 2 2 = true) : Rr X d MTo_offBy 51 L (.ref a :: st) (Wd mu la ro et) = Rr X d MTo_offBy 54 L (.int (mu a 2) :: st) (Wd mu la ro et) := R_gfI d_MTo_offBy_51 ff_9_211 hq
theorem r_MTo_offBy_54 {x y : Int32} : Rr X d MTo_offBy 54 L (.int y :: .int x :: st) h = if y ≤ x then Rr X d MTo_offBy 125 L st h else Rr X d MTo_offBy 57 L st h := R_ic_ge d_MTo_offBy_54 (by decide)
theorem r_MTo_offBy_57 {l1 l2 l3 l4 l5 l6 : Value} {x : Nat} : Rr X d MTo_offBy 57 [.ref x, l1, l2, l3, l4, l5, l6] st h = Rr X d MTo_offBy 58 [.ref x, l1, l2, l3, l4, l5, l6] (.ref x :: st) h := Rr_nx d_MTo_offBy_57 rfl
theorem r_MTo_offBy_58 {a : Nat} (hq : (qR a 9 6).isSome = true) : Rr X d MTo_offBy 58 L (.ref a :: st) (Wd mu la ro et) = Rr X d MTo_offBy 61 L (.ref (qRd a 9 6) :: st) (Wd mu la ro et) := R_gfR d_MTo_offBy_58 ff_9_51 hq
theorem r_MTo_offBy_61 {l0 l1 l2 l3 l4 l6 : Value} {x : Int32} : Rr X d MTo_offBy 61 [l0, l1, l2, l3, l4, .int x, l6] st h = Rr X d MTo_offBy 63 [l0, l1, l2, l3, l4, .int x, l6] (.int x :: st) h := Rr_nx d_MTo_offBy_61 rfl
theorem r_MTo_offBy_63 {y0 : Int32} {a : Nat} (hO : qO a 2 = true) (hc : ckS st = true) : Rr X (d + 1) MTo_offBy 63 L (.int y0 :: .ref a :: st) (Wd mu la ro et) = (Rr X d MFi_tickAt 0 [.ref a, .int y0] [] (Wd mu la ro et)).bind fun q => Rr X (d + 1) MTo_offBy 66 L (psh q.1 st) q.2 := R_iv (av := [.int y0]) d_MTo_offBy_63 fc_9_324 hO (ckS_le hc) rfl (Nat.le_of_ble_eq_true rfl) (Nat.le_of_ble_eq_true rfl)
theorem r_MTo_offBy_66 {l1 l2 l3 l4 l5 l6 : Value} {x : Nat} : Rr X d MTo_offBy 66 [.ref x, l1, l2, l3, l4, l5, l6] st h = Rr X d MTo_offBy 67 [.ref x, l1, l2, l3, l4, l5, l6] (.ref x :: st) h := Rr_nx d_MTo_offBy_66 rfl
theorem r_MTo_offBy_67 {a : Nat} (hq : (qR a 9 4).isSome = true) : Rr X d MTo_offBy 67 L (.ref a :: st) (Wd mu la ro et) = Rr X d MTo_offBy 70 L (.ref (qRd a 9 4) :: st) (Wd mu la ro et) := R_gfR d_MTo_offBy_67 ff_9_37 hq
theorem r_MTo_offBy_70 {a : Nat} (hq : qI a 5 10 = true) : Rr X d MTo_offBy 70 L (.ref a :: st) (Wd mu la ro et) = Rr X d MTo_offBy 73 L (.int (mu a 10) :: st) (Wd mu la ro et) := R_gfI d_MTo_offBy_70 ff_9_318 hq
theorem r_MTo_offBy_73 {x y : Int32} : Rr X d MTo_offBy 73 L (.int y :: .int x :: st) h = Rr X d MTo_offBy 74 L (.int (x - y) :: st) h := Rr_nx d_MTo_offBy_73 rfl
theorem r_MTo_offBy_74 {l0 l1 l2 l3 l4 l5 l6 : Value} {x : Int32} : Rr X d MTo_offBy 74 [l0, l1, l2, l3, l4, l5, l6] (.int x :: st) h = Rr X d MTo_offBy 76 (sL [l0, l1, l2, l3, l4, l5, l6] 6 (.int x)) st h := Rr_nx d_MTo_offBy_74 rfl
theorem r_MTo_offBy_76 {l0 l1 l2 l3 l4 l5 : Value} {x : Int32} : Rr X d MTo_offBy 76 [l0, l1, l2, l3, l4, l5, .int x] st h = Rr X d MTo_offBy 78 [l0, l1, l2, l3, l4, l5, .int x] (.int x :: st) h := Rr_nx d_MTo_offBy_76 rfl
theorem r_MTo_offBy_78 {x : Int32} : Rr X d MTo_offBy 78 L (.int x :: st) h = if x ≤ 0 then Rr X d MTo_offBy 94 L st h else Rr X d MTo_offBy 81 L st h := R_if_le d_MTo_offBy_78 (by decide)
theorem r_MTo_offBy_81 {l1 l2 l3 l4 l5 l6 : Value} {x : Nat} : Rr X d MTo_offBy 81 [.ref x, l1, l2, l3, l4, l5, l6] st h = Rr X d MTo_offBy 82 [.ref x, l1, l2, l3, l4, l5, l6] (.ref x :: st) h := Rr_nx d_MTo_offBy_81 rfl
theorem r_MTo_offBy_82 {a : Nat} (hq : (qR a 9 4).isSome = true) : Rr X d MTo_offBy 82 L (.ref a :: st) (Wd mu la ro et) = Rr X d MTo_offBy 85 L (.ref (qRd a 9 4) :: st) (Wd mu la ro et) := R_gfR d_MTo_offBy_82 ff_9_37 hq
theorem r_MTo_offBy_85 {a : Nat} (hO : qO a 5 = true) (hc : ckS st = true) : Rr X (d + 1) MTo_offBy 85 L (.ref a :: st) (Wd mu la ro et) = (Rr X d MMo_step 0 [.ref a, mkU] [] (Wd mu la ro et)).bind fun q => Rr X (d + 1) MTo_offBy 88 L (psh q.1 st) q.2 := R_iv (av := []) d_MTo_offBy_85 fc_9_315 hO (ckS_le hc) rfl (Nat.le_of_ble_eq_true rfl) (Nat.le_of_ble_eq_true rfl)
theorem r_MTo_offBy_88 {l0 l1 l2 l3 l4 l5 : Value} {x : Int32} : Rr X d MTo_offBy 88 [l0, l1, l2, l3, l4, l5, .int x] st h = Rr X d MTo_offBy 91 (sL [l0, l1, l2, l3, l4, l5, .int x] 6 (.int (x + (-1)))) st h := Rr_nx d_MTo_offBy_88 rfl
theorem r_MTo_offBy_91 : Rr X d MTo_offBy 91 L st h = Rr X d MTo_offBy 76 L st h := R_goto d_MTo_offBy_91 (by decide)
theorem r_MTo_offBy_94 {l0 l1 l2 l3 l5 l6 : Value} {x : Int32} : Rr X d MTo_offBy 94 [l0, l1, l2, l3, .int x, l5, l6] st h = Rr X d MTo_offBy 96 [l0, l1, l2, l3, .int x, l5, l6] (.int x :: st) h := Rr_nx d_MTo_offBy_94 rfl
theorem r_MTo_offBy_96 {l1 l2 l3 l4 l5 l6 : Value} {x : Nat} : Rr X d MTo_offBy 96 [.ref x, l1, l2, l3, l4, l5, l6] st h = Rr X d MTo_offBy 97 [.ref x, l1, l2, l3, l4, l5, l6] (.ref x :: st) h := Rr_nx d_MTo_offBy_96 rfl
theorem r_MTo_offBy_97 {a : Nat} (hq : (qR a 9 4).isSome = true) : Rr X d MTo_offBy 97 L (.ref a :: st) (Wd mu la ro et) = Rr X d MTo_offBy 100 L (.ref (qRd a 9 4) :: st) (Wd mu la ro et) := R_gfR d_MTo_offBy_97 ff_9_37 hq
theorem r_MTo_offBy_100 {a : Nat} (hq : qI a 5 7 = true) : Rr X d MTo_offBy 100 L (.ref a :: st) (Wd mu la ro et) = Rr X d MTo_offBy 103 L (.int (mu a 7) :: st) (Wd mu la ro et) := R_gfI d_MTo_offBy_100 ff_9_153 hq
theorem r_MTo_offBy_103 {l1 l2 l3 l4 l5 l6 : Value} {x : Nat} : Rr X d MTo_offBy 103 [.ref x, l1, l2, l3, l4, l5, l6] st h = Rr X d MTo_offBy 104 [.ref x, l1, l2, l3, l4, l5, l6] (.ref x :: st) h := Rr_nx d_MTo_offBy_103 rfl
theorem r_MTo_offBy_104 {a : Nat} (hq : (qR a 9 6).isSome = true) : Rr X d MTo_offBy 104 L (.ref a :: st) (Wd mu la ro et) = Rr X d MTo_offBy 107 L (.ref (qRd a 9 6) :: st) (Wd mu la ro et) := R_gfR d_MTo_offBy_104 ff_9_51 hq
theorem r_MTo_offBy_107 {l0 l1 l2 l3 l4 l6 : Value} {x : Int32} : Rr X d MTo_offBy 107 [l0, l1, l2, l3, l4, .int x, l6] st h = Rr X d MTo_offBy 109 [l0, l1, l2, l3, l4, .int x, l6] (.int x :: st) h := Rr_nx d_MTo_offBy_107 rfl
theorem r_MTo_offBy_109 {y0 : Int32} {a : Nat} (hO : qO a 2 = true) (hc : ckS st = true) : Rr X (d + 1) MTo_offBy 109 L (.int y0 :: .ref a :: st) (Wd mu la ro et) = (Rr X d MFi_turnAt 0 [.ref a, .int y0] [] (Wd mu la ro et)).bind fun q => Rr X (d + 1) MTo_offBy 112 L (psh q.1 st) q.2 := R_iv (av := [.int y0]) d_MTo_offBy_109 fc_9_321 hO (ckS_le hc) rfl (Nat.le_of_ble_eq_true rfl) (Nat.le_of_ble_eq_true rfl)
theorem r_MTo_offBy_112 {x y : Int32} : Rr X d MTo_offBy 112 L (.int y :: .int x :: st) h = Rr X d MTo_offBy 113 L (.int (x - y) :: st) h := Rr_nx d_MTo_offBy_112 rfl
theorem fc_9_327 : fC 9 327 = some (8, 0, 0, mI 0) := rfl
theorem r_MTo_offBy_113 {x : Int32} (hc : ckS st = true) : Rr X (d + 1) MTo_offBy 113 L (.int x :: st) h = Rr X (d + 1) MTo_offBy 116 L (.int (if 0 ≤ x then x else 0 - x) :: st) h := R_abs d_MTo_offBy_113 fc_9_327 (ckS_le hc)
theorem r_MTo_offBy_116 {x y : Int32} : Rr X d MTo_offBy 116 L (.int y :: .int x :: st) h = Rr X d MTo_offBy 117 L (.int (x + y) :: st) h := Rr_nx d_MTo_offBy_116 rfl
theorem r_MTo_offBy_117 {l0 l1 l2 l3 l4 l5 l6 : Value} {x : Int32} : Rr X d MTo_offBy 117 [l0, l1, l2, l3, l4, l5, l6] (.int x :: st) h = Rr X d MTo_offBy 119 (sL [l0, l1, l2, l3, l4, l5, l6] 4 (.int x)) st h := Rr_nx d_MTo_offBy_117 rfl
theorem r_MTo_offBy_119 {l0 l1 l2 l3 l4 l6 : Value} {x : Int32} : Rr X d MTo_offBy 119 [l0, l1, l2, l3, l4, .int x, l6] st h = Rr X d MTo_offBy 122 (sL [l0, l1, l2, l3, l4, .int x, l6] 5 (.int (x + (1)))) st h := Rr_nx d_MTo_offBy_119 rfl
theorem r_MTo_offBy_122 : Rr X d MTo_offBy 122 L st h = Rr X d MTo_offBy 45 L st h := R_goto d_MTo_offBy_122 (by decide)
theorem r_MTo_offBy_125 {l0 l1 l2 l3 l5 l6 : Value} {x : Int32} : Rr X d MTo_offBy 125 [l0, l1, l2, l3, .int x, l5, l6] st h = Rr X d MTo_offBy 127 [l0, l1, l2, l3, .int x, l5, l6] (.int x :: st) h := Rr_nx d_MTo_offBy_125 rfl
theorem r_MTo_offBy_127 {x : Int32} : Rr X d MTo_offBy 127 L [.int x] h = some (some (.int x), h) := R_ir d_MTo_offBy_127 rfl
theorem d_MTo_off_0 : decode MTo_off.2.2.1 0 = .ok (.aload_n 0, 1) := lkT_ok tk_MTo_off rfl
theorem d_MTo_off_1 : decode MTo_off.2.2.1 1 = .ok (.iload_n 1, 1) := lkT_ok tk_MTo_off rfl
theorem d_MTo_off_2 : decode MTo_off.2.2.1 2 = .ok (.invokevirtual 135, 3) := lkT_ok tk_MTo_off rfl
theorem d_MTo_off_5 : decode MTo_off.2.2.1 5 = .ok (.ifCond .eq 18, 3) := lkT_ok tk_MTo_off rfl
theorem d_MTo_off_8 : decode MTo_off.2.2.1 8 = .ok (.iconst 0, 1) := lkT_ok tk_MTo_off rfl
theorem d_MTo_off_9 : decode MTo_off.2.2.1 9 = .ok (.iload_n 2, 1) := lkT_ok tk_MTo_off rfl
theorem d_MTo_off_10 : decode MTo_off.2.2.1 10 = .ok (.invokestatic 139, 3) := lkT_ok tk_MTo_off rfl
theorem d_MTo_off_13 : decode MTo_off.2.2.1 13 = .ok (.ifCond .eq 10, 3) := lkT_ok tk_MTo_off rfl
theorem d_MTo_off_16 : decode MTo_off.2.2.1 16 = .ok (.iload_n 3, 1) := lkT_ok tk_MTo_off rfl
theorem d_MTo_off_17 : decode MTo_off.2.2.1 17 = .ok (.invokestatic 191, 3) := lkT_ok tk_MTo_off rfl
theorem d_MTo_off_20 : decode MTo_off.2.2.1 20 = .ok (.ifCond .ne 5, 3) := lkT_ok tk_MTo_off rfl
theorem d_MTo_off_23 : decode MTo_off.2.2.1 23 = .ok (.iconst (-1), 1) := lkT_ok tk_MTo_off rfl
theorem d_MTo_off_24 : decode MTo_off.2.2.1 24 = .ok (.ireturn, 1) := lkT_ok tk_MTo_off rfl
theorem d_MTo_off_25 : decode MTo_off.2.2.1 25 = .ok (.aload_n 0, 1) := lkT_ok tk_MTo_off rfl
theorem d_MTo_off_26 : decode MTo_off.2.2.1 26 = .ok (.getfield 51, 3) := lkT_ok tk_MTo_off rfl
theorem d_MTo_off_29 : decode MTo_off.2.2.1 29 = .ok (.getfield 211, 3) := lkT_ok tk_MTo_off rfl
theorem d_MTo_off_32 : decode MTo_off.2.2.1 32 = .ok (.ifCond .ne 8, 3) := lkT_ok tk_MTo_off rfl
theorem d_MTo_off_35 : decode MTo_off.2.2.1 35 = .ok (.bipush (-5), 2) := lkT_ok tk_MTo_off rfl
theorem d_MTo_off_37 : decode MTo_off.2.2.1 37 = .ok (.goto 10, 3) := lkT_ok tk_MTo_off rfl
theorem d_MTo_off_40 : decode MTo_off.2.2.1 40 = .ok (.aload_n 0, 1) := lkT_ok tk_MTo_off rfl
theorem d_MTo_off_41 : decode MTo_off.2.2.1 41 = .ok (.iload_n 1, 1) := lkT_ok tk_MTo_off rfl
theorem d_MTo_off_42 : decode MTo_off.2.2.1 42 = .ok (.iload_n 2, 1) := lkT_ok tk_MTo_off rfl
theorem d_MTo_off_43 : decode MTo_off.2.2.1 43 = .ok (.iload_n 3, 1) := lkT_ok tk_MTo_off rfl
theorem d_MTo_off_44 : decode MTo_off.2.2.1 44 = .ok (.invokevirtual 226, 3) := lkT_ok tk_MTo_off rfl
theorem d_MTo_off_47 : decode MTo_off.2.2.1 47 = .ok (.ireturn, 1) := lkT_ok tk_MTo_off rfl
theorem r_MTo_off_0 {l1 l2 l3 : Value} {x : Nat} : Rr X d MTo_off 0 [.ref x, l1, l2, l3] st h = Rr X d MTo_off 1 [.ref x, l1, l2, l3] (.ref x :: st) h := Rr_nx d_MTo_off_0 rfl
theorem r_MTo_off_1 {l0 l2 l3 : Value} {x : Int32} : Rr X d MTo_off 1 [l0, .int x, l2, l3] st h = Rr X d MTo_off 2 [l0, .int x, l2, l3] (.int x :: st) h := Rr_nx d_MTo_off_1 rfl
theorem r_MTo_off_2 {y0 : Int32} {a : Nat} (hO : qO a 9 = true) (hc : ckS st = true) : Rr X (d + 1) MTo_off 2 L (.int y0 :: .ref a :: st) (Wd mu la ro et) = (Rr X d MTo_isGround 0 [.ref a, .int y0] [] (Wd mu la ro et)).bind fun q => Rr X (d + 1) MTo_off 5 L (psh q.1 st) q.2 := R_iv (av := [.int y0]) d_MTo_off_2 fc_9_135 hO (ckS_le hc) rfl (Nat.le_of_ble_eq_true rfl) (Nat.le_of_ble_eq_true rfl)
theorem r_MTo_off_5 {x : Int32} : Rr X d MTo_off 5 L (.int x :: st) h = if x = 0 then Rr X d MTo_off 23 L st h else Rr X d MTo_off 8 L st h := R_if_eq d_MTo_off_5 (by decide)
theorem r_MTo_off_8 : Rr X d MTo_off 8 L st h = Rr X d MTo_off 9 L (.int (0) :: st) h := Rr_nx d_MTo_off_8 rfl
theorem r_MTo_off_9 {l0 l1 l3 : Value} {x : Int32} : Rr X d MTo_off 9 [l0, l1, .int x, l3] st h = Rr X d MTo_off 10 [l0, l1, .int x, l3] (.int x :: st) h := Rr_nx d_MTo_off_9 rfl
theorem r_MTo_off_10 {y0 : Int32} {y1 : Int32} (hc : ckS st = true) : Rr X (d + 1) MTo_off 10 L (.int y1 :: .int y0 :: st) h = (Rr X d MTo_isStart 0 [.int y0, .int y1] [] h).bind fun q => Rr X (d + 1) MTo_off 13 L (psh q.1 st) q.2 := R_is (av := [.int y1, .int y0]) d_MTo_off_10 (Or.inl fc_9_139) (ckS_le hc) rfl (Nat.le_of_ble_eq_true rfl) (Nat.le_of_ble_eq_true rfl)
theorem r_MTo_off_13 {x : Int32} : Rr X d MTo_off 13 L (.int x :: st) h = if x = 0 then Rr X d MTo_off 23 L st h else Rr X d MTo_off 16 L st h := R_if_eq d_MTo_off_13 (by decide)
theorem r_MTo_off_16 {l0 l1 l2 : Value} {x : Int32} : Rr X d MTo_off 16 [l0, l1, l2, .int x] st h = Rr X d MTo_off 17 [l0, l1, l2, .int x] (.int x :: st) h := Rr_nx d_MTo_off_16 rfl
theorem r_MTo_off_17 {y0 : Int32} (hc : ckS st = true) : Rr X (d + 1) MTo_off 17 L (.int y0 :: st) h = (Rr X d MTo_isKeen 0 [.int y0] [] h).bind fun q => Rr X (d + 1) MTo_off 20 L (psh q.1 st) q.2 := R_is (av := [.int y0]) d_MTo_off_17 (Or.inl fc_9_191) (ckS_le hc) rfl (Nat.le_of_ble_eq_true rfl) (Nat.le_of_ble_eq_true rfl)
theorem r_MTo_off_20 {x : Int32} : Rr X d MTo_off 20 L (.int x :: st) h = if ¬ x = 0 then Rr X d MTo_off 25 L st h else Rr X d MTo_off 23 L st h := R_if_ne d_MTo_off_20 (by decide)
theorem r_MTo_off_23 : Rr X d MTo_off 23 L st h = Rr X d MTo_off 24 L (.int (-1) :: st) h := Rr_nx d_MTo_off_23 rfl
theorem r_MTo_off_24 {x : Int32} : Rr X d MTo_off 24 L [.int x] h = some (some (.int x), h) := R_ir d_MTo_off_24 rfl
theorem r_MTo_off_25 {l1 l2 l3 : Value} {x : Nat} : Rr X d MTo_off 25 [.ref x, l1, l2, l3] st h = Rr X d MTo_off 26 [.ref x, l1, l2, l3] (.ref x :: st) h := Rr_nx d_MTo_off_25 rfl
theorem r_MTo_off_26 {a : Nat} (hq : (qR a 9 6).isSome = true) : Rr X d MTo_off 26 L (.ref a :: st) (Wd mu la ro et) = Rr X d MTo_off 29 L (.ref (qRd a 9 6) :: st) (Wd mu la ro et) := R_gfR d_MTo_off_26 ff_9_51 hq
theorem r_MTo_off_29 {a : Nat} (hq : qI a 2 2 = true) : Rr X d MTo_off 29 L (.ref a :: st) (Wd mu la ro et) = Rr X d MTo_off 32 L (.int (mu a 2) :: st) (Wd mu la ro et) := R_gfI d_MTo_off_29 ff_9_211 hq
theorem r_MTo_off_32 {x : Int32} : Rr X d MTo_off 32 L (.int x :: st) h = if ¬ x = 0 then Rr X d MTo_off 40 L st h else Rr X d MTo_off 35 L st h := R_if_ne d_MTo_off_32 (by decide)
theorem r_MTo_off_35 : Rr X d MTo_off 35 L st h = Rr X d MTo_off 37 L (.int (-5) :: st) h := Rr_nx d_MTo_off_35 rfl
theorem r_MTo_off_37 : Rr X d MTo_off 37 L st h = Rr X d MTo_off 47 L st h := R_goto d_MTo_off_37 (by decide)
theorem r_MTo_off_40 {l1 l2 l3 : Value} {x : Nat} : Rr X d MTo_off 40 [.ref x, l1, l2, l3] st h = Rr X d MTo_off 41 [.ref x, l1, l2, l3] (.ref x :: st) h := Rr_nx d_MTo_off_40 rfl
theorem r_MTo_off_41 {l0 l2 l3 : Value} {x : Int32} : Rr X d MTo_off 41 [l0, .int x, l2, l3] st h = Rr X d MTo_off 42 [l0, .int x, l2, l3] (.int x :: st) h := Rr_nx d_MTo_off_41 rfl
theorem r_MTo_off_42 {l0 l1 l3 : Value} {x : Int32} : Rr X d MTo_off 42 [l0, l1, .int x, l3] st h = Rr X d MTo_off 43 [l0, l1, .int x, l3] (.int x :: st) h := Rr_nx d_MTo_off_42 rfl
theorem r_MTo_off_43 {l0 l1 l2 : Value} {x : Int32} : Rr X d MTo_off 43 [l0, l1, l2, .int x] st h = Rr X d MTo_off 44 [l0, l1, l2, .int x] (.int x :: st) h := Rr_nx d_MTo_off_43 rfl
theorem fc_9_226 : fC 9 226 = some (0, 9, 3, MTo_offBy) := rfl
theorem r_MTo_off_44 {y0 : Int32} {y1 : Int32} {y2 : Int32} {a : Nat} (hO : qO a 9 = true) (hc : ckS st = true) : Rr X (d + 1) MTo_off 44 L (.int y2 :: .int y1 :: .int y0 :: .ref a :: st) (Wd mu la ro et) = (Rr X d MTo_offBy 0 [.ref a, .int y0, .int y1, .int y2, mkU, mkU, mkU] [] (Wd mu la ro et)).bind fun q => Rr X (d + 1) MTo_off 47 L (psh q.1 st) q.2 := R_iv (av := [.int y2, .int y1, .int y0]) d_MTo_off_44 fc_9_226 hO (ckS_le hc) rfl (Nat.le_of_ble_eq_true rfl) (Nat.le_of_ble_eq_true rfl)
theorem r_MTo_off_47 {x : Int32} : Rr X d MTo_off 47 L [.int x] h = some (some (.int x), h) := R_ir d_MTo_off_47 rfl
theorem d_MTo_shape_0 : decode MTo_shape.2.2.1 0 = .ok (.aload_n 0, 1) := lkT_ok tk_MTo_shape rfl
theorem d_MTo_shape_1 : decode MTo_shape.2.2.1 1 = .ok (.iload_n 1, 1) := lkT_ok tk_MTo_shape rfl
theorem d_MTo_shape_2 : decode MTo_shape.2.2.1 2 = .ok (.invokevirtual 135, 3) := lkT_ok tk_MTo_shape rfl
theorem d_MTo_shape_5 : decode MTo_shape.2.2.1 5 = .ok (.ifCond .eq 20, 3) := lkT_ok tk_MTo_shape rfl
theorem d_MTo_shape_8 : decode MTo_shape.2.2.1 8 = .ok (.iconst 0, 1) := lkT_ok tk_MTo_shape rfl
theorem d_MTo_shape_9 : decode MTo_shape.2.2.1 9 = .ok (.iload_n 2, 1) := lkT_ok tk_MTo_shape rfl
theorem d_MTo_shape_10 : decode MTo_shape.2.2.1 10 = .ok (.invokestatic 139, 3) := lkT_ok tk_MTo_shape rfl
theorem d_MTo_shape_13 : decode MTo_shape.2.2.1 13 = .ok (.ifCond .eq 12, 3) := lkT_ok tk_MTo_shape rfl
theorem d_MTo_shape_16 : decode MTo_shape.2.2.1 16 = .ok (.iload_n 3, 1) := lkT_ok tk_MTo_shape rfl
theorem d_MTo_shape_17 : decode MTo_shape.2.2.1 17 = .ok (.iconst 0, 1) := lkT_ok tk_MTo_shape rfl
theorem d_MTo_shape_18 : decode MTo_shape.2.2.1 18 = .ok (.iconst 1, 1) := lkT_ok tk_MTo_shape rfl
theorem d_MTo_shape_19 : decode MTo_shape.2.2.1 19 = .ok (.invokestatic 72, 3) := lkT_ok tk_MTo_shape rfl
theorem d_MTo_shape_22 : decode MTo_shape.2.2.1 22 = .ok (.ifCond .ne 6, 3) := lkT_ok tk_MTo_shape rfl
theorem d_MTo_shape_25 : decode MTo_shape.2.2.1 25 = .ok (.ldc 104, 2) := lkT_ok tk_MTo_shape rfl
theorem d_MTo_shape_27 : decode MTo_shape.2.2.1 27 = .ok (.ireturn, 1) := lkT_ok tk_MTo_shape rfl
theorem d_MTo_shape_28 : decode MTo_shape.2.2.1 28 = .ok (.aload_n 0, 1) := lkT_ok tk_MTo_shape rfl
theorem d_MTo_shape_29 : decode MTo_shape.2.2.1 29 = .ok (.getfield 51, 3) := lkT_ok tk_MTo_shape rfl
theorem d_MTo_shape_32 : decode MTo_shape.2.2.1 32 = .ok (.getfield 211, 3) := lkT_ok tk_MTo_shape rfl
theorem d_MTo_shape_35 : decode MTo_shape.2.2.1 35 = .ok (.ifCond .ne 6, 3) := lkT_ok tk_MTo_shape rfl
theorem d_MTo_shape_38 : decode MTo_shape.2.2.1 38 = .ok (.bipush (-5), 2) := lkT_ok tk_MTo_shape rfl
theorem d_MTo_shape_40 : decode MTo_shape.2.2.1 40 = .ok (.ireturn, 1) := lkT_ok tk_MTo_shape rfl
theorem d_MTo_shape_41 : decode MTo_shape.2.2.1 41 = .ok (.bipush (-9), 2) := lkT_ok tk_MTo_shape rfl
theorem d_MTo_shape_43 : decode MTo_shape.2.2.1 43 = .ok (.istore 4, 2) := lkT_ok tk_MTo_shape rfl
theorem d_MTo_shape_45 : decode MTo_shape.2.2.1 45 = .ok (.aload_n 0, 1) := lkT_ok tk_MTo_shape rfl
theorem d_MTo_shape_46 : decode MTo_shape.2.2.1 46 = .ok (.iload_n 1, 1) := lkT_ok tk_MTo_shape rfl
theorem d_MTo_shape_47 : decode MTo_shape.2.2.1 47 = .ok (.iload_n 2, 1) := lkT_ok tk_MTo_shape rfl
theorem d_MTo_shape_48 : decode MTo_shape.2.2.1 48 = .ok (.iload 4, 2) := lkT_ok tk_MTo_shape rfl
theorem d_MTo_shape_50 : decode MTo_shape.2.2.1 50 = .ok (.invokevirtual 226, 3) := lkT_ok tk_MTo_shape rfl
theorem d_MTo_shape_53 : decode MTo_shape.2.2.1 53 = .ok (.istore 5, 2) := lkT_ok tk_MTo_shape rfl
theorem d_MTo_shape_55 : decode MTo_shape.2.2.1 55 = .ok (.iload 4, 2) := lkT_ok tk_MTo_shape rfl
theorem d_MTo_shape_57 : decode MTo_shape.2.2.1 57 = .ok (.iconst 1, 1) := lkT_ok tk_MTo_shape rfl
theorem d_MTo_shape_58 : decode MTo_shape.2.2.1 58 = .ok (.iadd, 1) := lkT_ok tk_MTo_shape rfl
theorem d_MTo_shape_59 : decode MTo_shape.2.2.1 59 = .ok (.istore 6, 2) := lkT_ok tk_MTo_shape rfl
theorem d_MTo_shape_61 : decode MTo_shape.2.2.1 61 = .ok (.iload 6, 2) := lkT_ok tk_MTo_shape rfl
theorem d_MTo_shape_63 : decode MTo_shape.2.2.1 63 = .ok (.bipush 9, 2) := lkT_ok tk_MTo_shape rfl
theorem d_MTo_shape_65 : decode MTo_shape.2.2.1 65 = .ok (.if_icmp .gt 34, 3) := lkT_ok tk_MTo_shape rfl
theorem d_MTo_shape_68 : decode MTo_shape.2.2.1 68 = .ok (.aload_n 0, 1) := lkT_ok tk_MTo_shape rfl
theorem d_MTo_shape_69 : decode MTo_shape.2.2.1 69 = .ok (.iload_n 1, 1) := lkT_ok tk_MTo_shape rfl
theorem d_MTo_shape_70 : decode MTo_shape.2.2.1 70 = .ok (.iload_n 2, 1) := lkT_ok tk_MTo_shape rfl
theorem d_MTo_shape_71 : decode MTo_shape.2.2.1 71 = .ok (.iload 6, 2) := lkT_ok tk_MTo_shape rfl
theorem d_MTo_shape_73 : decode MTo_shape.2.2.1 73 = .ok (.invokevirtual 226, 3) := lkT_ok tk_MTo_shape rfl
theorem d_MTo_shape_76 : decode MTo_shape.2.2.1 76 = .ok (.istore 7, 2) := lkT_ok tk_MTo_shape rfl
theorem d_MTo_shape_78 : decode MTo_shape.2.2.1 78 = .ok (.iload 7, 2) := lkT_ok tk_MTo_shape rfl
theorem d_MTo_shape_80 : decode MTo_shape.2.2.1 80 = .ok (.iload 5, 2) := lkT_ok tk_MTo_shape rfl
theorem d_MTo_shape_82 : decode MTo_shape.2.2.1 82 = .ok (.if_icmp .ge 11, 3) := lkT_ok tk_MTo_shape rfl
theorem d_MTo_shape_85 : decode MTo_shape.2.2.1 85 = .ok (.iload 6, 2) := lkT_ok tk_MTo_shape rfl
theorem d_MTo_shape_87 : decode MTo_shape.2.2.1 87 = .ok (.istore 4, 2) := lkT_ok tk_MTo_shape rfl
theorem d_MTo_shape_89 : decode MTo_shape.2.2.1 89 = .ok (.iload 7, 2) := lkT_ok tk_MTo_shape rfl
theorem d_MTo_shape_91 : decode MTo_shape.2.2.1 91 = .ok (.istore 5, 2) := lkT_ok tk_MTo_shape rfl
theorem d_MTo_shape_93 : decode MTo_shape.2.2.1 93 = .ok (.iinc 6 1, 3) := lkT_ok tk_MTo_shape rfl
theorem d_MTo_shape_96 : decode MTo_shape.2.2.1 96 = .ok (.goto (-35), 3) := lkT_ok tk_MTo_shape rfl
theorem d_MTo_shape_99 : decode MTo_shape.2.2.1 99 = .ok (.iload_n 3, 1) := lkT_ok tk_MTo_shape rfl
theorem d_MTo_shape_100 : decode MTo_shape.2.2.1 100 = .ok (.ifCond .ne 8, 3) := lkT_ok tk_MTo_shape rfl
theorem d_MTo_shape_103 : decode MTo_shape.2.2.1 103 = .ok (.iload 4, 2) := lkT_ok tk_MTo_shape rfl
theorem d_MTo_shape_105 : decode MTo_shape.2.2.1 105 = .ok (.goto 5, 3) := lkT_ok tk_MTo_shape rfl
theorem d_MTo_shape_108 : decode MTo_shape.2.2.1 108 = .ok (.iload 5, 2) := lkT_ok tk_MTo_shape rfl
theorem d_MTo_shape_110 : decode MTo_shape.2.2.1 110 = .ok (.ireturn, 1) := lkT_ok tk_MTo_shape rfl
theorem r_MTo_shape_0 {l1 l2 l3 l4 l5 l6 l7 : Value} {x : Nat} : Rr X d MTo_shape 0 [.ref x, l1, l2, l3, l4, l5, l6, l7] st h = Rr X d MTo_shape 1 [.ref x, l1, l2, l3, l4, l5, l6, l7] (.ref x :: st) h := Rr_nx d_MTo_shape_0 rfl
theorem r_MTo_shape_1 {l0 l2 l3 l4 l5 l6 l7 : Value} {x : Int32} : Rr X d MTo_shape 1 [l0, .int x, l2, l3, l4, l5, l6, l7] st h = Rr X d MTo_shape 2 [l0, .int x, l2, l3, l4, l5, l6, l7] (.int x :: st) h := Rr_nx d_MTo_shape_1 rfl
theorem r_MTo_shape_2 {y0 : Int32} {a : Nat} (hO : qO a 9 = true) (hc : ckS st = true) : Rr X (d + 1) MTo_shape 2 L (.int y0 :: .ref a :: st) (Wd mu la ro et) = (Rr X d MTo_isGround 0 [.ref a, .int y0] [] (Wd mu la ro et)).bind fun q => Rr X (d + 1) MTo_shape 5 L (psh q.1 st) q.2 := R_iv (av := [.int y0]) d_MTo_shape_2 fc_9_135 hO (ckS_le hc) rfl (Nat.le_of_ble_eq_true rfl) (Nat.le_of_ble_eq_true rfl)
theorem r_MTo_shape_5 {x : Int32} : Rr X d MTo_shape 5 L (.int x :: st) h = if x = 0 then Rr X d MTo_shape 25 L st h else Rr X d MTo_shape 8 L st h := R_if_eq d_MTo_shape_5 (by decide)
theorem r_MTo_shape_8 : Rr X d MTo_shape 8 L st h = Rr X d MTo_shape 9 L (.int (0) :: st) h := Rr_nx d_MTo_shape_8 rfl
theorem r_MTo_shape_9 {l0 l1 l3 l4 l5 l6 l7 : Value} {x : Int32} : Rr X d MTo_shape 9 [l0, l1, .int x, l3, l4, l5, l6, l7] st h = Rr X d MTo_shape 10 [l0, l1, .int x, l3, l4, l5, l6, l7] (.int x :: st) h := Rr_nx d_MTo_shape_9 rfl
theorem r_MTo_shape_10 {y0 : Int32} {y1 : Int32} (hc : ckS st = true) : Rr X (d + 1) MTo_shape 10 L (.int y1 :: .int y0 :: st) h = (Rr X d MTo_isStart 0 [.int y0, .int y1] [] h).bind fun q => Rr X (d + 1) MTo_shape 13 L (psh q.1 st) q.2 := R_is (av := [.int y1, .int y0]) d_MTo_shape_10 (Or.inl fc_9_139) (ckS_le hc) rfl (Nat.le_of_ble_eq_true rfl) (Nat.le_of_ble_eq_true rfl)
theorem r_MTo_shape_13 {x : Int32} : Rr X d MTo_shape 13 L (.int x :: st) h = if x = 0 then Rr X d MTo_shape 25 L st h else Rr X d MTo_shape 16 L st h := R_if_eq d_MTo_shape_13 (by decide)
theorem r_MTo_shape_16 {l0 l1 l2 l4 l5 l6 l7 : Value} {x : Int32} : Rr X d MTo_shape 16 [l0, l1, l2, .int x, l4, l5, l6, l7] st h = Rr X d MTo_shape 17 [l0, l1, l2, .int x, l4, l5, l6, l7] (.int x :: st) h := Rr_nx d_MTo_shape_16 rfl
theorem r_MTo_shape_17 : Rr X d MTo_shape 17 L st h = Rr X d MTo_shape 18 L (.int (0) :: st) h := Rr_nx d_MTo_shape_17 rfl
theorem r_MTo_shape_18 : Rr X d MTo_shape 18 L st h = Rr X d MTo_shape 19 L (.int (1) :: st) h := Rr_nx d_MTo_shape_18 rfl
theorem r_MTo_shape_19 {y0 : Int32} {y1 : Int32} {y2 : Int32} (hc : ckS st = true) : Rr X (d + 1) MTo_shape 19 L (.int y2 :: .int y1 :: .int y0 :: st) h = (Rr X d MTo_isWithin 0 [.int y0, .int y1, .int y2] [] h).bind fun q => Rr X (d + 1) MTo_shape 22 L (psh q.1 st) q.2 := R_is (av := [.int y2, .int y1, .int y0]) d_MTo_shape_19 (Or.inl fc_9_72) (ckS_le hc) rfl (Nat.le_of_ble_eq_true rfl) (Nat.le_of_ble_eq_true rfl)
theorem r_MTo_shape_22 {x : Int32} : Rr X d MTo_shape 22 L (.int x :: st) h = if ¬ x = 0 then Rr X d MTo_shape 28 L st h else Rr X d MTo_shape 25 L st h := R_if_ne d_MTo_shape_22 (by decide)
theorem r_MTo_shape_25 : Rr X d MTo_shape 25 L st h = Rr X d MTo_shape 27 L (.int (-2000000000) :: st) h := Rr_nx d_MTo_shape_25 rfl
theorem r_MTo_shape_27 {x : Int32} : Rr X d MTo_shape 27 L [.int x] h = some (some (.int x), h) := R_ir d_MTo_shape_27 rfl
theorem r_MTo_shape_28 {l1 l2 l3 l4 l5 l6 l7 : Value} {x : Nat} : Rr X d MTo_shape 28 [.ref x, l1, l2, l3, l4, l5, l6, l7] st h = Rr X d MTo_shape 29 [.ref x, l1, l2, l3, l4, l5, l6, l7] (.ref x :: st) h := Rr_nx d_MTo_shape_28 rfl
theorem r_MTo_shape_29 {a : Nat} (hq : (qR a 9 6).isSome = true) : Rr X d MTo_shape 29 L (.ref a :: st) (Wd mu la ro et) = Rr X d MTo_shape 32 L (.ref (qRd a 9 6) :: st) (Wd mu la ro et) := R_gfR d_MTo_shape_29 ff_9_51 hq
theorem r_MTo_shape_32 {a : Nat} (hq : qI a 2 2 = true) : Rr X d MTo_shape 32 L (.ref a :: st) (Wd mu la ro et) = Rr X d MTo_shape 35 L (.int (mu a 2) :: st) (Wd mu la ro et) := R_gfI d_MTo_shape_32 ff_9_211 hq
theorem r_MTo_shape_35 {x : Int32} : Rr X d MTo_shape 35 L (.int x :: st) h = if ¬ x = 0 then Rr X d MTo_shape 41 L st h else Rr X d MTo_shape 38 L st h := R_if_ne d_MTo_shape_35 (by decide)
theorem r_MTo_shape_38 : Rr X d MTo_shape 38 L st h = Rr X d MTo_shape 40 L (.int (-5) :: st) h := Rr_nx d_MTo_shape_38 rfl
theorem r_MTo_shape_40 {x : Int32} : Rr X d MTo_shape 40 L [.int x] h = some (some (.int x), h) := R_ir d_MTo_shape_40 rfl
theorem r_MTo_shape_41 : Rr X d MTo_shape 41 L st h = Rr X d MTo_shape 43 L (.int (-9) :: st) h := Rr_nx d_MTo_shape_41 rfl
theorem r_MTo_shape_43 {l0 l1 l2 l3 l4 l5 l6 l7 : Value} {x : Int32} : Rr X d MTo_shape 43 [l0, l1, l2, l3, l4, l5, l6, l7] (.int x :: st) h = Rr X d MTo_shape 45 (sL [l0, l1, l2, l3, l4, l5, l6, l7] 4 (.int x)) st h := Rr_nx d_MTo_shape_43 rfl
theorem r_MTo_shape_45 {l1 l2 l3 l4 l5 l6 l7 : Value} {x : Nat} : Rr X d MTo_shape 45 [.ref x, l1, l2, l3, l4, l5, l6, l7] st h = Rr X d MTo_shape 46 [.ref x, l1, l2, l3, l4, l5, l6, l7] (.ref x :: st) h := Rr_nx d_MTo_shape_45 rfl
theorem r_MTo_shape_46 {l0 l2 l3 l4 l5 l6 l7 : Value} {x : Int32} : Rr X d MTo_shape 46 [l0, .int x, l2, l3, l4, l5, l6, l7] st h = Rr X d MTo_shape 47 [l0, .int x, l2, l3, l4, l5, l6, l7] (.int x :: st) h := Rr_nx d_MTo_shape_46 rfl
theorem r_MTo_shape_47 {l0 l1 l3 l4 l5 l6 l7 : Value} {x : Int32} : Rr X d MTo_shape 47 [l0, l1, .int x, l3, l4, l5, l6, l7] st h = Rr X d MTo_shape 48 [l0, l1, .int x, l3, l4, l5, l6, l7] (.int x :: st) h := Rr_nx d_MTo_shape_47 rfl
theorem r_MTo_shape_48 {l0 l1 l2 l3 l5 l6 l7 : Value} {x : Int32} : Rr X d MTo_shape 48 [l0, l1, l2, l3, .int x, l5, l6, l7] st h = Rr X d MTo_shape 50 [l0, l1, l2, l3, .int x, l5, l6, l7] (.int x :: st) h := Rr_nx d_MTo_shape_48 rfl
theorem r_MTo_shape_50 {y0 : Int32} {y1 : Int32} {y2 : Int32} {a : Nat} (hO : qO a 9 = true) (hc : ckS st = true) : Rr X (d + 1) MTo_shape 50 L (.int y2 :: .int y1 :: .int y0 :: .ref a :: st) (Wd mu la ro et) = (Rr X d MTo_offBy 0 [.ref a, .int y0, .int y1, .int y2, mkU, mkU, mkU] [] (Wd mu la ro et)).bind fun q => Rr X (d + 1) MTo_shape 53 L (psh q.1 st) q.2 := R_iv (av := [.int y2, .int y1, .int y0]) d_MTo_shape_50 fc_9_226 hO (ckS_le hc) rfl (Nat.le_of_ble_eq_true rfl) (Nat.le_of_ble_eq_true rfl)
theorem r_MTo_shape_53 {l0 l1 l2 l3 l4 l5 l6 l7 : Value} {x : Int32} : Rr X d MTo_shape 53 [l0, l1, l2, l3, l4, l5, l6, l7] (.int x :: st) h = Rr X d MTo_shape 55 (sL [l0, l1, l2, l3, l4, l5, l6, l7] 5 (.int x)) st h := Rr_nx d_MTo_shape_53 rfl
theorem r_MTo_shape_55 {l0 l1 l2 l3 l5 l6 l7 : Value} {x : Int32} : Rr X d MTo_shape 55 [l0, l1, l2, l3, .int x, l5, l6, l7] st h = Rr X d MTo_shape 57 [l0, l1, l2, l3, .int x, l5, l6, l7] (.int x :: st) h := Rr_nx d_MTo_shape_55 rfl
theorem r_MTo_shape_57 : Rr X d MTo_shape 57 L st h = Rr X d MTo_shape 58 L (.int (1) :: st) h := Rr_nx d_MTo_shape_57 rfl
theorem r_MTo_shape_58 {x y : Int32} : Rr X d MTo_shape 58 L (.int y :: .int x :: st) h = Rr X d MTo_shape 59 L (.int (x + y) :: st) h := Rr_nx d_MTo_shape_58 rfl
theorem r_MTo_shape_59 {l0 l1 l2 l3 l4 l5 l6 l7 : Value} {x : Int32} : Rr X d MTo_shape 59 [l0, l1, l2, l3, l4, l5, l6, l7] (.int x :: st) h = Rr X d MTo_shape 61 (sL [l0, l1, l2, l3, l4, l5, l6, l7] 6 (.int x)) st h := Rr_nx d_MTo_shape_59 rfl
theorem r_MTo_shape_61 {l0 l1 l2 l3 l4 l5 l7 : Value} {x : Int32} : Rr X d MTo_shape 61 [l0, l1, l2, l3, l4, l5, .int x, l7] st h = Rr X d MTo_shape 63 [l0, l1, l2, l3, l4, l5, .int x, l7] (.int x :: st) h := Rr_nx d_MTo_shape_61 rfl
theorem r_MTo_shape_63 : Rr X d MTo_shape 63 L st h = Rr X d MTo_shape 65 L (.int (9) :: st) h := Rr_nx d_MTo_shape_63 rfl
theorem r_MTo_shape_65 {x y : Int32} : Rr X d MTo_shape 65 L (.int y :: .int x :: st) h = if y < x then Rr X d MTo_shape 99 L st h else Rr X d MTo_shape 68 L st h := R_ic_gt d_MTo_shape_65 (by decide)
theorem r_MTo_shape_68 {l1 l2 l3 l4 l5 l6 l7 : Value} {x : Nat} : Rr X d MTo_shape 68 [.ref x, l1, l2, l3, l4, l5, l6, l7] st h = Rr X d MTo_shape 69 [.ref x, l1, l2, l3, l4, l5, l6, l7] (.ref x :: st) h := Rr_nx d_MTo_shape_68 rfl
theorem r_MTo_shape_69 {l0 l2 l3 l4 l5 l6 l7 : Value} {x : Int32} : Rr X d MTo_shape 69 [l0, .int x, l2, l3, l4, l5, l6, l7] st h = Rr X d MTo_shape 70 [l0, .int x, l2, l3, l4, l5, l6, l7] (.int x :: st) h := Rr_nx d_MTo_shape_69 rfl
theorem r_MTo_shape_70 {l0 l1 l3 l4 l5 l6 l7 : Value} {x : Int32} : Rr X d MTo_shape 70 [l0, l1, .int x, l3, l4, l5, l6, l7] st h = Rr X d MTo_shape 71 [l0, l1, .int x, l3, l4, l5, l6, l7] (.int x :: st) h := Rr_nx d_MTo_shape_70 rfl
theorem r_MTo_shape_71 {l0 l1 l2 l3 l4 l5 l7 : Value} {x : Int32} : Rr X d MTo_shape 71 [l0, l1, l2, l3, l4, l5, .int x, l7] st h = Rr X d MTo_shape 73 [l0, l1, l2, l3, l4, l5, .int x, l7] (.int x :: st) h := Rr_nx d_MTo_shape_71 rfl
theorem r_MTo_shape_73 {y0 : Int32} {y1 : Int32} {y2 : Int32} {a : Nat} (hO : qO a 9 = true) (hc : ckS st = true) : Rr X (d + 1) MTo_shape 73 L (.int y2 :: .int y1 :: .int y0 :: .ref a :: st) (Wd mu la ro et) = (Rr X d MTo_offBy 0 [.ref a, .int y0, .int y1, .int y2, mkU, mkU, mkU] [] (Wd mu la ro et)).bind fun q => Rr X (d + 1) MTo_shape 76 L (psh q.1 st) q.2 := R_iv (av := [.int y2, .int y1, .int y0]) d_MTo_shape_73 fc_9_226 hO (ckS_le hc) rfl (Nat.le_of_ble_eq_true rfl) (Nat.le_of_ble_eq_true rfl)
theorem r_MTo_shape_76 {l0 l1 l2 l3 l4 l5 l6 l7 : Value} {x : Int32} : Rr X d MTo_shape 76 [l0, l1, l2, l3, l4, l5, l6, l7] (.int x :: st) h = Rr X d MTo_shape 78 (sL [l0, l1, l2, l3, l4, l5, l6, l7] 7 (.int x)) st h := Rr_nx d_MTo_shape_76 rfl
theorem r_MTo_shape_78 {l0 l1 l2 l3 l4 l5 l6 : Value} {x : Int32} : Rr X d MTo_shape 78 [l0, l1, l2, l3, l4, l5, l6, .int x] st h = Rr X d MTo_shape 80 [l0, l1, l2, l3, l4, l5, l6, .int x] (.int x :: st) h := Rr_nx d_MTo_shape_78 rfl
theorem r_MTo_shape_80 {l0 l1 l2 l3 l4 l6 l7 : Value} {x : Int32} : Rr X d MTo_shape 80 [l0, l1, l2, l3, l4, .int x, l6, l7] st h = Rr X d MTo_shape 82 [l0, l1, l2, l3, l4, .int x, l6, l7] (.int x :: st) h := Rr_nx d_MTo_shape_80 rfl
theorem r_MTo_shape_82 {x y : Int32} : Rr X d MTo_shape 82 L (.int y :: .int x :: st) h = if y ≤ x then Rr X d MTo_shape 93 L st h else Rr X d MTo_shape 85 L st h := R_ic_ge d_MTo_shape_82 (by decide)
theorem r_MTo_shape_85 {l0 l1 l2 l3 l4 l5 l7 : Value} {x : Int32} : Rr X d MTo_shape 85 [l0, l1, l2, l3, l4, l5, .int x, l7] st h = Rr X d MTo_shape 87 [l0, l1, l2, l3, l4, l5, .int x, l7] (.int x :: st) h := Rr_nx d_MTo_shape_85 rfl
theorem r_MTo_shape_87 {l0 l1 l2 l3 l4 l5 l6 l7 : Value} {x : Int32} : Rr X d MTo_shape 87 [l0, l1, l2, l3, l4, l5, l6, l7] (.int x :: st) h = Rr X d MTo_shape 89 (sL [l0, l1, l2, l3, l4, l5, l6, l7] 4 (.int x)) st h := Rr_nx d_MTo_shape_87 rfl
theorem r_MTo_shape_89 {l0 l1 l2 l3 l4 l5 l6 : Value} {x : Int32} : Rr X d MTo_shape 89 [l0, l1, l2, l3, l4, l5, l6, .int x] st h = Rr X d MTo_shape 91 [l0, l1, l2, l3, l4, l5, l6, .int x] (.int x :: st) h := Rr_nx d_MTo_shape_89 rfl
theorem r_MTo_shape_91 {l0 l1 l2 l3 l4 l5 l6 l7 : Value} {x : Int32} : Rr X d MTo_shape 91 [l0, l1, l2, l3, l4, l5, l6, l7] (.int x :: st) h = Rr X d MTo_shape 93 (sL [l0, l1, l2, l3, l4, l5, l6, l7] 5 (.int x)) st h := Rr_nx d_MTo_shape_91 rfl
theorem r_MTo_shape_93 {l0 l1 l2 l3 l4 l5 l7 : Value} {x : Int32} : Rr X d MTo_shape 93 [l0, l1, l2, l3, l4, l5, .int x, l7] st h = Rr X d MTo_shape 96 (sL [l0, l1, l2, l3, l4, l5, .int x, l7] 6 (.int (x + (1)))) st h := Rr_nx d_MTo_shape_93 rfl
theorem r_MTo_shape_96 : Rr X d MTo_shape 96 L st h = Rr X d MTo_shape 61 L st h := R_goto d_MTo_shape_96 (by decide)
theorem r_MTo_shape_99 {l0 l1 l2 l4 l5 l6 l7 : Value} {x : Int32} : Rr X d MTo_shape 99 [l0, l1, l2, .int x, l4, l5, l6, l7] st h = Rr X d MTo_shape 100 [l0, l1, l2, .int x, l4, l5, l6, l7] (.int x :: st) h := Rr_nx d_MTo_shape_99 rfl
theorem r_MTo_shape_100 {x : Int32} : Rr X d MTo_shape 100 L (.int x :: st) h = if ¬ x = 0 then Rr X d MTo_shape 108 L st h else Rr X d MTo_shape 103 L st h := R_if_ne d_MTo_shape_100 (by decide)
theorem r_MTo_shape_103 {l0 l1 l2 l3 l5 l6 l7 : Value} {x : Int32} : Rr X d MTo_shape 103 [l0, l1, l2, l3, .int x, l5, l6, l7] st h = Rr X d MTo_shape 105 [l0, l1, l2, l3, .int x, l5, l6, l7] (.int x :: st) h := Rr_nx d_MTo_shape_103 rfl
theorem r_MTo_shape_105 : Rr X d MTo_shape 105 L st h = Rr X d MTo_shape 110 L st h := R_goto d_MTo_shape_105 (by decide)
theorem r_MTo_shape_108 {l0 l1 l2 l3 l4 l6 l7 : Value} {x : Int32} : Rr X d MTo_shape 108 [l0, l1, l2, l3, l4, .int x, l6, l7] st h = Rr X d MTo_shape 110 [l0, l1, l2, l3, l4, .int x, l6, l7] (.int x :: st) h := Rr_nx d_MTo_shape_108 rfl
theorem r_MTo_shape_110 {x : Int32} : Rr X d MTo_shape 110 L [.int x] h = some (some (.int x), h) := R_ir d_MTo_shape_110 rfl
theorem d_MTo_span_0 : decode MTo_span.2.2.1 0 = .ok (.aload_n 0, 1) := lkT_ok tk_MTo_span rfl
theorem d_MTo_span_1 : decode MTo_span.2.2.1 1 = .ok (.iload_n 1, 1) := lkT_ok tk_MTo_span rfl
theorem d_MTo_span_2 : decode MTo_span.2.2.1 2 = .ok (.invokevirtual 135, 3) := lkT_ok tk_MTo_span rfl
theorem d_MTo_span_5 : decode MTo_span.2.2.1 5 = .ok (.ifCond .eq 15, 3) := lkT_ok tk_MTo_span rfl
theorem d_MTo_span_8 : decode MTo_span.2.2.1 8 = .ok (.iconst 0, 1) := lkT_ok tk_MTo_span rfl
theorem d_MTo_span_9 : decode MTo_span.2.2.1 9 = .ok (.iload_n 2, 1) := lkT_ok tk_MTo_span rfl
theorem d_MTo_span_10 : decode MTo_span.2.2.1 10 = .ok (.invokestatic 139, 3) := lkT_ok tk_MTo_span rfl
theorem d_MTo_span_13 : decode MTo_span.2.2.1 13 = .ok (.ifCond .eq 7, 3) := lkT_ok tk_MTo_span rfl
theorem d_MTo_span_16 : decode MTo_span.2.2.1 16 = .ok (.iload_n 3, 1) := lkT_ok tk_MTo_span rfl
theorem d_MTo_span_17 : decode MTo_span.2.2.1 17 = .ok (.ifCond .ge 5, 3) := lkT_ok tk_MTo_span rfl
theorem d_MTo_span_20 : decode MTo_span.2.2.1 20 = .ok (.iconst (-1), 1) := lkT_ok tk_MTo_span rfl
theorem d_MTo_span_21 : decode MTo_span.2.2.1 21 = .ok (.ireturn, 1) := lkT_ok tk_MTo_span rfl
theorem d_MTo_span_22 : decode MTo_span.2.2.1 22 = .ok (.aload_n 0, 1) := lkT_ok tk_MTo_span rfl
theorem d_MTo_span_23 : decode MTo_span.2.2.1 23 = .ok (.getfield 51, 3) := lkT_ok tk_MTo_span rfl
theorem d_MTo_span_26 : decode MTo_span.2.2.1 26 = .ok (.getfield 211, 3) := lkT_ok tk_MTo_span rfl
theorem d_MTo_span_29 : decode MTo_span.2.2.1 29 = .ok (.ifCond .ne 6, 3) := lkT_ok tk_MTo_span rfl
theorem d_MTo_span_32 : decode MTo_span.2.2.1 32 = .ok (.bipush (-5), 2) := lkT_ok tk_MTo_span rfl
theorem d_MTo_span_34 : decode MTo_span.2.2.1 34 = .ok (.ireturn, 1) := lkT_ok tk_MTo_span rfl
theorem d_MTo_span_35 : decode MTo_span.2.2.1 35 = .ok (.iconst 0, 1) := lkT_ok tk_MTo_span rfl
theorem d_MTo_span_36 : decode MTo_span.2.2.1 36 = .ok (.istore 4, 2) := lkT_ok tk_MTo_span rfl
theorem d_MTo_span_38 : decode MTo_span.2.2.1 38 = .ok (.bipush (-9), 2) := lkT_ok tk_MTo_span rfl
theorem d_MTo_span_40 : decode MTo_span.2.2.1 40 = .ok (.istore 5, 2) := lkT_ok tk_MTo_span rfl
theorem d_MTo_span_42 : decode MTo_span.2.2.1 42 = .ok (.iload 5, 2) := lkT_ok tk_MTo_span rfl
theorem d_MTo_span_44 : decode MTo_span.2.2.1 44 = .ok (.bipush 9, 2) := lkT_ok tk_MTo_span rfl
theorem d_MTo_span_46 : decode MTo_span.2.2.1 46 = .ok (.if_icmp .gt 24, 3) := lkT_ok tk_MTo_span rfl
theorem d_MTo_span_49 : decode MTo_span.2.2.1 49 = .ok (.aload_n 0, 1) := lkT_ok tk_MTo_span rfl
theorem d_MTo_span_50 : decode MTo_span.2.2.1 50 = .ok (.iload_n 1, 1) := lkT_ok tk_MTo_span rfl
theorem d_MTo_span_51 : decode MTo_span.2.2.1 51 = .ok (.iload_n 2, 1) := lkT_ok tk_MTo_span rfl
theorem d_MTo_span_52 : decode MTo_span.2.2.1 52 = .ok (.iload 5, 2) := lkT_ok tk_MTo_span rfl
theorem d_MTo_span_54 : decode MTo_span.2.2.1 54 = .ok (.invokevirtual 226, 3) := lkT_ok tk_MTo_span rfl
theorem d_MTo_span_57 : decode MTo_span.2.2.1 57 = .ok (.iload_n 3, 1) := lkT_ok tk_MTo_span rfl
theorem d_MTo_span_58 : decode MTo_span.2.2.1 58 = .ok (.if_icmp .gt 6, 3) := lkT_ok tk_MTo_span rfl
theorem d_MTo_span_61 : decode MTo_span.2.2.1 61 = .ok (.iinc 4 1, 3) := lkT_ok tk_MTo_span rfl
theorem d_MTo_span_64 : decode MTo_span.2.2.1 64 = .ok (.iinc 5 1, 3) := lkT_ok tk_MTo_span rfl
theorem d_MTo_span_67 : decode MTo_span.2.2.1 67 = .ok (.goto (-25), 3) := lkT_ok tk_MTo_span rfl
theorem d_MTo_span_70 : decode MTo_span.2.2.1 70 = .ok (.iload 4, 2) := lkT_ok tk_MTo_span rfl
theorem d_MTo_span_72 : decode MTo_span.2.2.1 72 = .ok (.ireturn, 1) := lkT_ok tk_MTo_span rfl
theorem r_MTo_span_0 {l1 l2 l3 l4 l5 : Value} {x : Nat} : Rr X d MTo_span 0 [.ref x, l1, l2, l3, l4, l5] st h = Rr X d MTo_span 1 [.ref x, l1, l2, l3, l4, l5] (.ref x :: st) h := Rr_nx d_MTo_span_0 rfl
theorem r_MTo_span_1 {l0 l2 l3 l4 l5 : Value} {x : Int32} : Rr X d MTo_span 1 [l0, .int x, l2, l3, l4, l5] st h = Rr X d MTo_span 2 [l0, .int x, l2, l3, l4, l5] (.int x :: st) h := Rr_nx d_MTo_span_1 rfl
theorem r_MTo_span_2 {y0 : Int32} {a : Nat} (hO : qO a 9 = true) (hc : ckS st = true) : Rr X (d + 1) MTo_span 2 L (.int y0 :: .ref a :: st) (Wd mu la ro et) = (Rr X d MTo_isGround 0 [.ref a, .int y0] [] (Wd mu la ro et)).bind fun q => Rr X (d + 1) MTo_span 5 L (psh q.1 st) q.2 := R_iv (av := [.int y0]) d_MTo_span_2 fc_9_135 hO (ckS_le hc) rfl (Nat.le_of_ble_eq_true rfl) (Nat.le_of_ble_eq_true rfl)
theorem r_MTo_span_5 {x : Int32} : Rr X d MTo_span 5 L (.int x :: st) h = if x = 0 then Rr X d MTo_span 20 L st h else Rr X d MTo_span 8 L st h := R_if_eq d_MTo_span_5 (by decide)
theorem r_MTo_span_8 : Rr X d MTo_span 8 L st h = Rr X d MTo_span 9 L (.int (0) :: st) h := Rr_nx d_MTo_span_8 rfl
theorem r_MTo_span_9 {l0 l1 l3 l4 l5 : Value} {x : Int32} : Rr X d MTo_span 9 [l0, l1, .int x, l3, l4, l5] st h = Rr X d MTo_span 10 [l0, l1, .int x, l3, l4, l5] (.int x :: st) h := Rr_nx d_MTo_span_9 rfl
theorem r_MTo_span_10 {y0 : Int32} {y1 : Int32} (hc : ckS st = true) : Rr X (d + 1) MTo_span 10 L (.int y1 :: .int y0 :: st) h = (Rr X d MTo_isStart 0 [.int y0, .int y1] [] h).bind fun q => Rr X (d + 1) MTo_span 13 L (psh q.1 st) q.2 := R_is (av := [.int y1, .int y0]) d_MTo_span_10 (Or.inl fc_9_139) (ckS_le hc) rfl (Nat.le_of_ble_eq_true rfl) (Nat.le_of_ble_eq_true rfl)
theorem r_MTo_span_13 {x : Int32} : Rr X d MTo_span 13 L (.int x :: st) h = if x = 0 then Rr X d MTo_span 20 L st h else Rr X d MTo_span 16 L st h := R_if_eq d_MTo_span_13 (by decide)
theorem r_MTo_span_16 {l0 l1 l2 l4 l5 : Value} {x : Int32} : Rr X d MTo_span 16 [l0, l1, l2, .int x, l4, l5] st h = Rr X d MTo_span 17 [l0, l1, l2, .int x, l4, l5] (.int x :: st) h := Rr_nx d_MTo_span_16 rfl
theorem r_MTo_span_17 {x : Int32} : Rr X d MTo_span 17 L (.int x :: st) h = if 0 ≤ x then Rr X d MTo_span 22 L st h else Rr X d MTo_span 20 L st h := R_if_ge d_MTo_span_17 (by decide)
theorem r_MTo_span_20 : Rr X d MTo_span 20 L st h = Rr X d MTo_span 21 L (.int (-1) :: st) h := Rr_nx d_MTo_span_20 rfl
theorem r_MTo_span_21 {x : Int32} : Rr X d MTo_span 21 L [.int x] h = some (some (.int x), h) := R_ir d_MTo_span_21 rfl
theorem r_MTo_span_22 {l1 l2 l3 l4 l5 : Value} {x : Nat} : Rr X d MTo_span 22 [.ref x, l1, l2, l3, l4, l5] st h = Rr X d MTo_span 23 [.ref x, l1, l2, l3, l4, l5] (.ref x :: st) h := Rr_nx d_MTo_span_22 rfl
theorem r_MTo_span_23 {a : Nat} (hq : (qR a 9 6).isSome = true) : Rr X d MTo_span 23 L (.ref a :: st) (Wd mu la ro et) = Rr X d MTo_span 26 L (.ref (qRd a 9 6) :: st) (Wd mu la ro et) := R_gfR d_MTo_span_23 ff_9_51 hq
theorem r_MTo_span_26 {a : Nat} (hq : qI a 2 2 = true) : Rr X d MTo_span 26 L (.ref a :: st) (Wd mu la ro et) = Rr X d MTo_span 29 L (.int (mu a 2) :: st) (Wd mu la ro et) := R_gfI d_MTo_span_26 ff_9_211 hq
theorem r_MTo_span_29 {x : Int32} : Rr X d MTo_span 29 L (.int x :: st) h = if ¬ x = 0 then Rr X d MTo_span 35 L st h else Rr X d MTo_span 32 L st h := R_if_ne d_MTo_span_29 (by decide)
theorem r_MTo_span_32 : Rr X d MTo_span 32 L st h = Rr X d MTo_span 34 L (.int (-5) :: st) h := Rr_nx d_MTo_span_32 rfl
theorem r_MTo_span_34 {x : Int32} : Rr X d MTo_span 34 L [.int x] h = some (some (.int x), h) := R_ir d_MTo_span_34 rfl
theorem r_MTo_span_35 : Rr X d MTo_span 35 L st h = Rr X d MTo_span 36 L (.int (0) :: st) h := Rr_nx d_MTo_span_35 rfl
theorem r_MTo_span_36 {l0 l1 l2 l3 l4 l5 : Value} {x : Int32} : Rr X d MTo_span 36 [l0, l1, l2, l3, l4, l5] (.int x :: st) h = Rr X d MTo_span 38 (sL [l0, l1, l2, l3, l4, l5] 4 (.int x)) st h := Rr_nx d_MTo_span_36 rfl
theorem r_MTo_span_38 : Rr X d MTo_span 38 L st h = Rr X d MTo_span 40 L (.int (-9) :: st) h := Rr_nx d_MTo_span_38 rfl
theorem r_MTo_span_40 {l0 l1 l2 l3 l4 l5 : Value} {x : Int32} : Rr X d MTo_span 40 [l0, l1, l2, l3, l4, l5] (.int x :: st) h = Rr X d MTo_span 42 (sL [l0, l1, l2, l3, l4, l5] 5 (.int x)) st h := Rr_nx d_MTo_span_40 rfl
theorem r_MTo_span_42 {l0 l1 l2 l3 l4 : Value} {x : Int32} : Rr X d MTo_span 42 [l0, l1, l2, l3, l4, .int x] st h = Rr X d MTo_span 44 [l0, l1, l2, l3, l4, .int x] (.int x :: st) h := Rr_nx d_MTo_span_42 rfl
theorem r_MTo_span_44 : Rr X d MTo_span 44 L st h = Rr X d MTo_span 46 L (.int (9) :: st) h := Rr_nx d_MTo_span_44 rfl
theorem r_MTo_span_46 {x y : Int32} : Rr X d MTo_span 46 L (.int y :: .int x :: st) h = if y < x then Rr X d MTo_span 70 L st h else Rr X d MTo_span 49 L st h := R_ic_gt d_MTo_span_46 (by decide)
theorem r_MTo_span_49 {l1 l2 l3 l4 l5 : Value} {x : Nat} : Rr X d MTo_span 49 [.ref x, l1, l2, l3, l4, l5] st h = Rr X d MTo_span 50 [.ref x, l1, l2, l3, l4, l5] (.ref x :: st) h := Rr_nx d_MTo_span_49 rfl
theorem r_MTo_span_50 {l0 l2 l3 l4 l5 : Value} {x : Int32} : Rr X d MTo_span 50 [l0, .int x, l2, l3, l4, l5] st h = Rr X d MTo_span 51 [l0, .int x, l2, l3, l4, l5] (.int x :: st) h := Rr_nx d_MTo_span_50 rfl
theorem r_MTo_span_51 {l0 l1 l3 l4 l5 : Value} {x : Int32} : Rr X d MTo_span 51 [l0, l1, .int x, l3, l4, l5] st h = Rr X d MTo_span 52 [l0, l1, .int x, l3, l4, l5] (.int x :: st) h := Rr_nx d_MTo_span_51 rfl
theorem r_MTo_span_52 {l0 l1 l2 l3 l4 : Value} {x : Int32} : Rr X d MTo_span 52 [l0, l1, l2, l3, l4, .int x] st h = Rr X d MTo_span 54 [l0, l1, l2, l3, l4, .int x] (.int x :: st) h := Rr_nx d_MTo_span_52 rfl
theorem r_MTo_span_54 {y0 : Int32} {y1 : Int32} {y2 : Int32} {a : Nat} (hO : qO a 9 = true) (hc : ckS st = true) : Rr X (d + 1) MTo_span 54 L (.int y2 :: .int y1 :: .int y0 :: .ref a :: st) (Wd mu la ro et) = (Rr X d MTo_offBy 0 [.ref a, .int y0, .int y1, .int y2, mkU, mkU, mkU] [] (Wd mu la ro et)).bind fun q => Rr X (d + 1) MTo_span 57 L (psh q.1 st) q.2 := R_iv (av := [.int y2, .int y1, .int y0]) d_MTo_span_54 fc_9_226 hO (ckS_le hc) rfl (Nat.le_of_ble_eq_true rfl) (Nat.le_of_ble_eq_true rfl)
theorem r_MTo_span_57 {l0 l1 l2 l4 l5 : Value} {x : Int32} : Rr X d MTo_span 57 [l0, l1, l2, .int x, l4, l5] st h = Rr X d MTo_span 58 [l0, l1, l2, .int x, l4, l5] (.int x :: st) h := Rr_nx d_MTo_span_57 rfl
theorem r_MTo_span_58 {x y : Int32} : Rr X d MTo_span 58 L (.int y :: .int x :: st) h = if y < x then Rr X d MTo_span 64 L st h else Rr X d MTo_span 61 L st h := R_ic_gt d_MTo_span_58 (by decide)
theorem r_MTo_span_61 {l0 l1 l2 l3 l5 : Value} {x : Int32} : Rr X d MTo_span 61 [l0, l1, l2, l3, .int x, l5] st h = Rr X d MTo_span 64 (sL [l0, l1, l2, l3, .int x, l5] 4 (.int (x + (1)))) st h := Rr_nx d_MTo_span_61 rfl
theorem r_MTo_span_64 {l0 l1 l2 l3 l4 : Value} {x : Int32} : Rr X d MTo_span 64 [l0, l1, l2, l3, l4, .int x] st h = Rr X d MTo_span 67 (sL [l0, l1, l2, l3, l4, .int x] 5 (.int (x + (1)))) st h := Rr_nx d_MTo_span_64 rfl
theorem r_MTo_span_67 : Rr X d MTo_span 67 L st h = Rr X d MTo_span 42 L st h := R_goto d_MTo_span_67 (by decide)
theorem r_MTo_span_70 {l0 l1 l2 l3 l5 : Value} {x : Int32} : Rr X d MTo_span 70 [l0, l1, l2, l3, .int x, l5] st h = Rr X d MTo_span 72 [l0, l1, l2, l3, .int x, l5] (.int x :: st) h := Rr_nx d_MTo_span_70 rfl
theorem r_MTo_span_72 {x : Int32} : Rr X d MTo_span 72 L [.int x] h = some (some (.int x), h) := R_ir d_MTo_span_72 rfl
theorem d_MTo_which_0 : decode MTo_which.2.2.1 0 = .ok (.aload_n 0, 1) := lkT_ok tk_MTo_which rfl
theorem d_MTo_which_1 : decode MTo_which.2.2.1 1 = .ok (.iload_n 1, 1) := lkT_ok tk_MTo_which rfl
theorem d_MTo_which_2 : decode MTo_which.2.2.1 2 = .ok (.invokevirtual 100, 3) := lkT_ok tk_MTo_which rfl
theorem d_MTo_which_5 : decode MTo_which.2.2.1 5 = .ok (.astore_n 3, 1) := lkT_ok tk_MTo_which rfl
theorem d_MTo_which_6 : decode MTo_which.2.2.1 6 = .ok (.aload_n 3, 1) := lkT_ok tk_MTo_which rfl
theorem d_MTo_which_7 : decode MTo_which.2.2.1 7 = .ok (.ifnull 11, 3) := lkT_ok tk_MTo_which rfl
theorem d_MTo_which_10 : decode MTo_which.2.2.1 10 = .ok (.iconst 0, 1) := lkT_ok tk_MTo_which rfl
theorem d_MTo_which_11 : decode MTo_which.2.2.1 11 = .ok (.iload_n 2, 1) := lkT_ok tk_MTo_which rfl
theorem d_MTo_which_12 : decode MTo_which.2.2.1 12 = .ok (.invokestatic 139, 3) := lkT_ok tk_MTo_which rfl
theorem d_MTo_which_15 : decode MTo_which.2.2.1 15 = .ok (.ifCond .ne 5, 3) := lkT_ok tk_MTo_which rfl
theorem d_MTo_which_18 : decode MTo_which.2.2.1 18 = .ok (.iconst (-1), 1) := lkT_ok tk_MTo_which rfl
theorem d_MTo_which_19 : decode MTo_which.2.2.1 19 = .ok (.ireturn, 1) := lkT_ok tk_MTo_which rfl
theorem d_MTo_which_20 : decode MTo_which.2.2.1 20 = .ok (.aload_n 0, 1) := lkT_ok tk_MTo_which rfl
theorem d_MTo_which_21 : decode MTo_which.2.2.1 21 = .ok (.getfield 51, 3) := lkT_ok tk_MTo_which rfl
theorem d_MTo_which_24 : decode MTo_which.2.2.1 24 = .ok (.getfield 211, 3) := lkT_ok tk_MTo_which rfl
theorem d_MTo_which_27 : decode MTo_which.2.2.1 27 = .ok (.ifCond .eq 10, 3) := lkT_ok tk_MTo_which rfl
theorem d_MTo_which_30 : decode MTo_which.2.2.1 30 = .ok (.aload_n 0, 1) := lkT_ok tk_MTo_which rfl
theorem d_MTo_which_31 : decode MTo_which.2.2.1 31 = .ok (.getfield 127, 3) := lkT_ok tk_MTo_which rfl
theorem d_MTo_which_34 : decode MTo_which.2.2.1 34 = .ok (.ifCond .ne 6, 3) := lkT_ok tk_MTo_which rfl
theorem d_MTo_which_37 : decode MTo_which.2.2.1 37 = .ok (.bipush (-5), 2) := lkT_ok tk_MTo_which rfl
theorem d_MTo_which_39 : decode MTo_which.2.2.1 39 = .ok (.ireturn, 1) := lkT_ok tk_MTo_which rfl
theorem d_MTo_which_40 : decode MTo_which.2.2.1 40 = .ok (.aload_n 3, 1) := lkT_ok tk_MTo_which rfl
theorem d_MTo_which_41 : decode MTo_which.2.2.1 41 = .ok (.invokevirtual 131, 3) := lkT_ok tk_MTo_which rfl
theorem d_MTo_which_44 : decode MTo_which.2.2.1 44 = .ok (.istore 4, 2) := lkT_ok tk_MTo_which rfl
theorem d_MTo_which_46 : decode MTo_which.2.2.1 46 = .ok (.iconst 0, 1) := lkT_ok tk_MTo_which rfl
theorem d_MTo_which_47 : decode MTo_which.2.2.1 47 = .ok (.istore 5, 2) := lkT_ok tk_MTo_which rfl
theorem d_MTo_which_49 : decode MTo_which.2.2.1 49 = .ok (.aload_n 0, 1) := lkT_ok tk_MTo_which rfl
theorem d_MTo_which_50 : decode MTo_which.2.2.1 50 = .ok (.bipush 10, 2) := lkT_ok tk_MTo_which rfl
theorem d_MTo_which_52 : decode MTo_which.2.2.1 52 = .ok (.iload_n 1, 1) := lkT_ok tk_MTo_which rfl
theorem d_MTo_which_53 : decode MTo_which.2.2.1 53 = .ok (.imul, 1) := lkT_ok tk_MTo_which rfl
theorem d_MTo_which_54 : decode MTo_which.2.2.1 54 = .ok (.iload_n 2, 1) := lkT_ok tk_MTo_which rfl
theorem d_MTo_which_55 : decode MTo_which.2.2.1 55 = .ok (.iload 4, 2) := lkT_ok tk_MTo_which rfl
theorem d_MTo_which_57 : decode MTo_which.2.2.1 57 = .ok (.invokevirtual 226, 3) := lkT_ok tk_MTo_which rfl
theorem d_MTo_which_60 : decode MTo_which.2.2.1 60 = .ok (.istore 6, 2) := lkT_ok tk_MTo_which rfl
theorem d_MTo_which_62 : decode MTo_which.2.2.1 62 = .ok (.iconst 1, 1) := lkT_ok tk_MTo_which rfl
theorem d_MTo_which_63 : decode MTo_which.2.2.1 63 = .ok (.istore 7, 2) := lkT_ok tk_MTo_which rfl
theorem d_MTo_which_65 : decode MTo_which.2.2.1 65 = .ok (.iload 7, 2) := lkT_ok tk_MTo_which rfl
theorem d_MTo_which_67 : decode MTo_which.2.2.1 67 = .ok (.aload_n 0, 1) := lkT_ok tk_MTo_which rfl
theorem d_MTo_which_68 : decode MTo_which.2.2.1 68 = .ok (.getfield 127, 3) := lkT_ok tk_MTo_which rfl
theorem d_MTo_which_71 : decode MTo_which.2.2.1 71 = .ok (.if_icmp .ge 40, 3) := lkT_ok tk_MTo_which rfl
theorem d_MTo_which_74 : decode MTo_which.2.2.1 74 = .ok (.aload_n 0, 1) := lkT_ok tk_MTo_which rfl
theorem d_MTo_which_75 : decode MTo_which.2.2.1 75 = .ok (.bipush 10, 2) := lkT_ok tk_MTo_which rfl
theorem d_MTo_which_77 : decode MTo_which.2.2.1 77 = .ok (.iload_n 1, 1) := lkT_ok tk_MTo_which rfl
theorem d_MTo_which_78 : decode MTo_which.2.2.1 78 = .ok (.imul, 1) := lkT_ok tk_MTo_which rfl
theorem d_MTo_which_79 : decode MTo_which.2.2.1 79 = .ok (.iload 7, 2) := lkT_ok tk_MTo_which rfl
theorem d_MTo_which_81 : decode MTo_which.2.2.1 81 = .ok (.iadd, 1) := lkT_ok tk_MTo_which rfl
theorem d_MTo_which_82 : decode MTo_which.2.2.1 82 = .ok (.iload_n 2, 1) := lkT_ok tk_MTo_which rfl
theorem d_MTo_which_83 : decode MTo_which.2.2.1 83 = .ok (.iload 4, 2) := lkT_ok tk_MTo_which rfl
theorem d_MTo_which_85 : decode MTo_which.2.2.1 85 = .ok (.invokevirtual 226, 3) := lkT_ok tk_MTo_which rfl
theorem d_MTo_which_88 : decode MTo_which.2.2.1 88 = .ok (.istore 8, 2) := lkT_ok tk_MTo_which rfl
theorem d_MTo_which_90 : decode MTo_which.2.2.1 90 = .ok (.iload 8, 2) := lkT_ok tk_MTo_which rfl
theorem d_MTo_which_92 : decode MTo_which.2.2.1 92 = .ok (.iload 6, 2) := lkT_ok tk_MTo_which rfl
theorem d_MTo_which_94 : decode MTo_which.2.2.1 94 = .ok (.if_icmp .ge 11, 3) := lkT_ok tk_MTo_which rfl
theorem d_MTo_which_97 : decode MTo_which.2.2.1 97 = .ok (.iload 7, 2) := lkT_ok tk_MTo_which rfl
theorem d_MTo_which_99 : decode MTo_which.2.2.1 99 = .ok (.istore 5, 2) := lkT_ok tk_MTo_which rfl
theorem d_MTo_which_101 : decode MTo_which.2.2.1 101 = .ok (.iload 8, 2) := lkT_ok tk_MTo_which rfl
theorem d_MTo_which_103 : decode MTo_which.2.2.1 103 = .ok (.istore 6, 2) := lkT_ok tk_MTo_which rfl
theorem d_MTo_which_105 : decode MTo_which.2.2.1 105 = .ok (.iinc 7 1, 3) := lkT_ok tk_MTo_which rfl
theorem d_MTo_which_108 : decode MTo_which.2.2.1 108 = .ok (.goto (-43), 3) := lkT_ok tk_MTo_which rfl
theorem d_MTo_which_111 : decode MTo_which.2.2.1 111 = .ok (.iload 5, 2) := lkT_ok tk_MTo_which rfl
theorem d_MTo_which_113 : decode MTo_which.2.2.1 113 = .ok (.ireturn, 1) := lkT_ok tk_MTo_which rfl
theorem r_MTo_which_0 {l1 l2 l3 l4 l5 l6 l7 l8 : Value} {x : Nat} : Rr X d MTo_which 0 [.ref x, l1, l2, l3, l4, l5, l6, l7, l8] st h = Rr X d MTo_which 1 [.ref x, l1, l2, l3, l4, l5, l6, l7, l8] (.ref x :: st) h := Rr_nx d_MTo_which_0 rfl
theorem r_MTo_which_1 {l0 l2 l3 l4 l5 l6 l7 l8 : Value} {x : Int32} : Rr X d MTo_which 1 [l0, .int x, l2, l3, l4, l5, l6, l7, l8] st h = Rr X d MTo_which 2 [l0, .int x, l2, l3, l4, l5, l6, l7, l8] (.int x :: st) h := Rr_nx d_MTo_which_1 rfl
theorem r_MTo_which_2 {y0 : Int32} {a : Nat} (hO : qO a 9 = true) (hc : ckS st = true) : Rr X (d + 1) MTo_which 2 L (.int y0 :: .ref a :: st) (Wd mu la ro et) = (Rr X d MTo_stoneAt 0 [.ref a, .int y0] [] (Wd mu la ro et)).bind fun q => Rr X (d + 1) MTo_which 5 L (psh q.1 st) q.2 := R_iv (av := [.int y0]) d_MTo_which_2 fc_9_100 hO (ckS_le hc) rfl (Nat.le_of_ble_eq_true rfl) (Nat.le_of_ble_eq_true rfl)
theorem r_MTo_which_5 {l0 l1 l2 l3 l4 l5 l6 l7 l8 : Value} {x : Nat} : Rr X d MTo_which 5 [l0, l1, l2, l3, l4, l5, l6, l7, l8] (.ref x :: st) h = Rr X d MTo_which 6 (sL [l0, l1, l2, l3, l4, l5, l6, l7, l8] 3 (.ref x)) st h := Rr_nx d_MTo_which_5 rfl
theorem r_MTo_which_5n {l0 l1 l2 l3 l4 l5 l6 l7 l8 : Value} : Rr X d MTo_which 5 [l0, l1, l2, l3, l4, l5, l6, l7, l8] (.null :: st) h = Rr X d MTo_which 6 (sL [l0, l1, l2, l3, l4, l5, l6, l7, l8] 3 .null) st h := Rr_nx d_MTo_which_5 rfl
theorem r_MTo_which_6 {l0 l1 l2 l4 l5 l6 l7 l8 : Value} {x : Nat} : Rr X d MTo_which 6 [l0, l1, l2, .ref x, l4, l5, l6, l7, l8] st h = Rr X d MTo_which 7 [l0, l1, l2, .ref x, l4, l5, l6, l7, l8] (.ref x :: st) h := Rr_nx d_MTo_which_6 rfl
theorem r_MTo_which_6n {l0 l1 l2 l4 l5 l6 l7 l8 : Value} : Rr X d MTo_which 6 [l0, l1, l2, .null, l4, l5, l6, l7, l8] st h = Rr X d MTo_which 7 [l0, l1, l2, .null, l4, l5, l6, l7, l8] (.null :: st) h := Rr_nx d_MTo_which_6 rfl
theorem r_MTo_which_7 {x : Nat} : Rr X d MTo_which 7 L (.ref x :: st) h = Rr X d MTo_which 10 L st h := R_nul1 d_MTo_which_7
theorem r_MTo_which_7n : Rr X d MTo_which 7 L (.null :: st) h = Rr X d MTo_which 18 L st h := R_nul0 d_MTo_which_7 (by decide)
theorem r_MTo_which_10 : Rr X d MTo_which 10 L st h = Rr X d MTo_which 11 L (.int (0) :: st) h := Rr_nx d_MTo_which_10 rfl
theorem r_MTo_which_11 {l0 l1 l3 l4 l5 l6 l7 l8 : Value} {x : Int32} : Rr X d MTo_which 11 [l0, l1, .int x, l3, l4, l5, l6, l7, l8] st h = Rr X d MTo_which 12 [l0, l1, .int x, l3, l4, l5, l6, l7, l8] (.int x :: st) h := Rr_nx d_MTo_which_11 rfl
theorem r_MTo_which_12 {y0 : Int32} {y1 : Int32} (hc : ckS st = true) : Rr X (d + 1) MTo_which 12 L (.int y1 :: .int y0 :: st) h = (Rr X d MTo_isStart 0 [.int y0, .int y1] [] h).bind fun q => Rr X (d + 1) MTo_which 15 L (psh q.1 st) q.2 := R_is (av := [.int y1, .int y0]) d_MTo_which_12 (Or.inl fc_9_139) (ckS_le hc) rfl (Nat.le_of_ble_eq_true rfl) (Nat.le_of_ble_eq_true rfl)
theorem r_MTo_which_15 {x : Int32} : Rr X d MTo_which 15 L (.int x :: st) h = if ¬ x = 0 then Rr X d MTo_which 20 L st h else Rr X d MTo_which 18 L st h := R_if_ne d_MTo_which_15 (by decide)
theorem r_MTo_which_18 : Rr X d MTo_which 18 L st h = Rr X d MTo_which 19 L (.int (-1) :: st) h := Rr_nx d_MTo_which_18 rfl
theorem r_MTo_which_19 {x : Int32} : Rr X d MTo_which 19 L [.int x] h = some (some (.int x), h) := R_ir d_MTo_which_19 rfl
theorem r_MTo_which_20 {l1 l2 l3 l4 l5 l6 l7 l8 : Value} {x : Nat} : Rr X d MTo_which 20 [.ref x, l1, l2, l3, l4, l5, l6, l7, l8] st h = Rr X d MTo_which 21 [.ref x, l1, l2, l3, l4, l5, l6, l7, l8] (.ref x :: st) h := Rr_nx d_MTo_which_20 rfl
theorem r_MTo_which_21 {a : Nat} (hq : (qR a 9 6).isSome = true) : Rr X d MTo_which 21 L (.ref a :: st) (Wd mu la ro et) = Rr X d MTo_which 24 L (.ref (qRd a 9 6) :: st) (Wd mu la ro et) := R_gfR d_MTo_which_21 ff_9_51 hq
theorem r_MTo_which_24 {a : Nat} (hq : qI a 2 2 = true) : Rr X d MTo_which 24 L (.ref a :: st) (Wd mu la ro et) = Rr X d MTo_which 27 L (.int (mu a 2) :: st) (Wd mu la ro et) := R_gfI d_MTo_which_24 ff_9_211 hq
theorem r_MTo_which_27 {x : Int32} : Rr X d MTo_which 27 L (.int x :: st) h = if x = 0 then Rr X d MTo_which 37 L st h else Rr X d MTo_which 30 L st h := R_if_eq d_MTo_which_27 (by decide)
theorem r_MTo_which_30 {l1 l2 l3 l4 l5 l6 l7 l8 : Value} {x : Nat} : Rr X d MTo_which 30 [.ref x, l1, l2, l3, l4, l5, l6, l7, l8] st h = Rr X d MTo_which 31 [.ref x, l1, l2, l3, l4, l5, l6, l7, l8] (.ref x :: st) h := Rr_nx d_MTo_which_30 rfl
theorem r_MTo_which_31 {a : Nat} (hq : qI a 9 10 = true) : Rr X d MTo_which 31 L (.ref a :: st) (Wd mu la ro et) = Rr X d MTo_which 34 L (.int (mu a 10) :: st) (Wd mu la ro et) := R_gfI d_MTo_which_31 ff_9_127 hq
theorem r_MTo_which_34 {x : Int32} : Rr X d MTo_which 34 L (.int x :: st) h = if ¬ x = 0 then Rr X d MTo_which 40 L st h else Rr X d MTo_which 37 L st h := R_if_ne d_MTo_which_34 (by decide)
theorem r_MTo_which_37 : Rr X d MTo_which 37 L st h = Rr X d MTo_which 39 L (.int (-5) :: st) h := Rr_nx d_MTo_which_37 rfl
theorem r_MTo_which_39 {x : Int32} : Rr X d MTo_which 39 L [.int x] h = some (some (.int x), h) := R_ir d_MTo_which_39 rfl
theorem r_MTo_which_40 {l0 l1 l2 l4 l5 l6 l7 l8 : Value} {x : Nat} : Rr X d MTo_which 40 [l0, l1, l2, .ref x, l4, l5, l6, l7, l8] st h = Rr X d MTo_which 41 [l0, l1, l2, .ref x, l4, l5, l6, l7, l8] (.ref x :: st) h := Rr_nx d_MTo_which_40 rfl
theorem r_MTo_which_40n {l0 l1 l2 l4 l5 l6 l7 l8 : Value} : Rr X d MTo_which 40 [l0, l1, l2, .null, l4, l5, l6, l7, l8] st h = Rr X d MTo_which 41 [l0, l1, l2, .null, l4, l5, l6, l7, l8] (.null :: st) h := Rr_nx d_MTo_which_40 rfl
theorem r_MTo_which_41 {a : Nat} (hO : qO a 7 = true) (hc : ckS st = true) : Rr X (d + 1) MTo_which 41 L (.ref a :: st) (Wd mu la ro et) = (Rr X d MSt_keen 0 [.ref a] [] (Wd mu la ro et)).bind fun q => Rr X (d + 1) MTo_which 44 L (psh q.1 st) q.2 := R_iv (av := []) d_MTo_which_41 fc_9_131 hO (ckS_le hc) rfl (Nat.le_of_ble_eq_true rfl) (Nat.le_of_ble_eq_true rfl)
theorem r_MTo_which_44 {l0 l1 l2 l3 l4 l5 l6 l7 l8 : Value} {x : Int32} : Rr X d MTo_which 44 [l0, l1, l2, l3, l4, l5, l6, l7, l8] (.int x :: st) h = Rr X d MTo_which 46 (sL [l0, l1, l2, l3, l4, l5, l6, l7, l8] 4 (.int x)) st h := Rr_nx d_MTo_which_44 rfl
theorem r_MTo_which_46 : Rr X d MTo_which 46 L st h = Rr X d MTo_which 47 L (.int (0) :: st) h := Rr_nx d_MTo_which_46 rfl
theorem r_MTo_which_47 {l0 l1 l2 l3 l4 l5 l6 l7 l8 : Value} {x : Int32} : Rr X d MTo_which 47 [l0, l1, l2, l3, l4, l5, l6, l7, l8] (.int x :: st) h = Rr X d MTo_which 49 (sL [l0, l1, l2, l3, l4, l5, l6, l7, l8] 5 (.int x)) st h := Rr_nx d_MTo_which_47 rfl
theorem r_MTo_which_49 {l1 l2 l3 l4 l5 l6 l7 l8 : Value} {x : Nat} : Rr X d MTo_which 49 [.ref x, l1, l2, l3, l4, l5, l6, l7, l8] st h = Rr X d MTo_which 50 [.ref x, l1, l2, l3, l4, l5, l6, l7, l8] (.ref x :: st) h := Rr_nx d_MTo_which_49 rfl
theorem r_MTo_which_50 : Rr X d MTo_which 50 L st h = Rr X d MTo_which 52 L (.int (10) :: st) h := Rr_nx d_MTo_which_50 rfl
theorem r_MTo_which_52 {l0 l2 l3 l4 l5 l6 l7 l8 : Value} {x : Int32} : Rr X d MTo_which 52 [l0, .int x, l2, l3, l4, l5, l6, l7, l8] st h = Rr X d MTo_which 53 [l0, .int x, l2, l3, l4, l5, l6, l7, l8] (.int x :: st) h := Rr_nx d_MTo_which_52 rfl
theorem r_MTo_which_53 {x y : Int32} : Rr X d MTo_which 53 L (.int y :: .int x :: st) h = Rr X d MTo_which 54 L (.int (x * y) :: st) h := Rr_nx d_MTo_which_53 rfl
theorem r_MTo_which_54 {l0 l1 l3 l4 l5 l6 l7 l8 : Value} {x : Int32} : Rr X d MTo_which 54 [l0, l1, .int x, l3, l4, l5, l6, l7, l8] st h = Rr X d MTo_which 55 [l0, l1, .int x, l3, l4, l5, l6, l7, l8] (.int x :: st) h := Rr_nx d_MTo_which_54 rfl
theorem r_MTo_which_55 {l0 l1 l2 l3 l5 l6 l7 l8 : Value} {x : Int32} : Rr X d MTo_which 55 [l0, l1, l2, l3, .int x, l5, l6, l7, l8] st h = Rr X d MTo_which 57 [l0, l1, l2, l3, .int x, l5, l6, l7, l8] (.int x :: st) h := Rr_nx d_MTo_which_55 rfl
theorem r_MTo_which_57 {y0 : Int32} {y1 : Int32} {y2 : Int32} {a : Nat} (hO : qO a 9 = true) (hc : ckS st = true) : Rr X (d + 1) MTo_which 57 L (.int y2 :: .int y1 :: .int y0 :: .ref a :: st) (Wd mu la ro et) = (Rr X d MTo_offBy 0 [.ref a, .int y0, .int y1, .int y2, mkU, mkU, mkU] [] (Wd mu la ro et)).bind fun q => Rr X (d + 1) MTo_which 60 L (psh q.1 st) q.2 := R_iv (av := [.int y2, .int y1, .int y0]) d_MTo_which_57 fc_9_226 hO (ckS_le hc) rfl (Nat.le_of_ble_eq_true rfl) (Nat.le_of_ble_eq_true rfl)
theorem r_MTo_which_60 {l0 l1 l2 l3 l4 l5 l6 l7 l8 : Value} {x : Int32} : Rr X d MTo_which 60 [l0, l1, l2, l3, l4, l5, l6, l7, l8] (.int x :: st) h = Rr X d MTo_which 62 (sL [l0, l1, l2, l3, l4, l5, l6, l7, l8] 6 (.int x)) st h := Rr_nx d_MTo_which_60 rfl
theorem r_MTo_which_62 : Rr X d MTo_which 62 L st h = Rr X d MTo_which 63 L (.int (1) :: st) h := Rr_nx d_MTo_which_62 rfl
theorem r_MTo_which_63 {l0 l1 l2 l3 l4 l5 l6 l7 l8 : Value} {x : Int32} : Rr X d MTo_which 63 [l0, l1, l2, l3, l4, l5, l6, l7, l8] (.int x :: st) h = Rr X d MTo_which 65 (sL [l0, l1, l2, l3, l4, l5, l6, l7, l8] 7 (.int x)) st h := Rr_nx d_MTo_which_63 rfl
theorem r_MTo_which_65 {l0 l1 l2 l3 l4 l5 l6 l8 : Value} {x : Int32} : Rr X d MTo_which 65 [l0, l1, l2, l3, l4, l5, l6, .int x, l8] st h = Rr X d MTo_which 67 [l0, l1, l2, l3, l4, l5, l6, .int x, l8] (.int x :: st) h := Rr_nx d_MTo_which_65 rfl
theorem r_MTo_which_67 {l1 l2 l3 l4 l5 l6 l7 l8 : Value} {x : Nat} : Rr X d MTo_which 67 [.ref x, l1, l2, l3, l4, l5, l6, l7, l8] st h = Rr X d MTo_which 68 [.ref x, l1, l2, l3, l4, l5, l6, l7, l8] (.ref x :: st) h := Rr_nx d_MTo_which_67 rfl
theorem r_MTo_which_68 {a : Nat} (hq : qI a 9 10 = true) : Rr X d MTo_which 68 L (.ref a :: st) (Wd mu la ro et) = Rr X d MTo_which 71 L (.int (mu a 10) :: st) (Wd mu la ro et) := R_gfI d_MTo_which_68 ff_9_127 hq
theorem r_MTo_which_71 {x y : Int32} : Rr X d MTo_which 71 L (.int y :: .int x :: st) h = if y ≤ x then Rr X d MTo_which 111 L st h else Rr X d MTo_which 74 L st h := R_ic_ge d_MTo_which_71 (by decide)
theorem r_MTo_which_74 {l1 l2 l3 l4 l5 l6 l7 l8 : Value} {x : Nat} : Rr X d MTo_which 74 [.ref x, l1, l2, l3, l4, l5, l6, l7, l8] st h = Rr X d MTo_which 75 [.ref x, l1, l2, l3, l4, l5, l6, l7, l8] (.ref x :: st) h := Rr_nx d_MTo_which_74 rfl
theorem r_MTo_which_75 : Rr X d MTo_which 75 L st h = Rr X d MTo_which 77 L (.int (10) :: st) h := Rr_nx d_MTo_which_75 rfl
theorem r_MTo_which_77 {l0 l2 l3 l4 l5 l6 l7 l8 : Value} {x : Int32} : Rr X d MTo_which 77 [l0, .int x, l2, l3, l4, l5, l6, l7, l8] st h = Rr X d MTo_which 78 [l0, .int x, l2, l3, l4, l5, l6, l7, l8] (.int x :: st) h := Rr_nx d_MTo_which_77 rfl
theorem r_MTo_which_78 {x y : Int32} : Rr X d MTo_which 78 L (.int y :: .int x :: st) h = Rr X d MTo_which 79 L (.int (x * y) :: st) h := Rr_nx d_MTo_which_78 rfl
theorem r_MTo_which_79 {l0 l1 l2 l3 l4 l5 l6 l8 : Value} {x : Int32} : Rr X d MTo_which 79 [l0, l1, l2, l3, l4, l5, l6, .int x, l8] st h = Rr X d MTo_which 81 [l0, l1, l2, l3, l4, l5, l6, .int x, l8] (.int x :: st) h := Rr_nx d_MTo_which_79 rfl
theorem r_MTo_which_81 {x y : Int32} : Rr X d MTo_which 81 L (.int y :: .int x :: st) h = Rr X d MTo_which 82 L (.int (x + y) :: st) h := Rr_nx d_MTo_which_81 rfl
theorem r_MTo_which_82 {l0 l1 l3 l4 l5 l6 l7 l8 : Value} {x : Int32} : Rr X d MTo_which 82 [l0, l1, .int x, l3, l4, l5, l6, l7, l8] st h = Rr X d MTo_which 83 [l0, l1, .int x, l3, l4, l5, l6, l7, l8] (.int x :: st) h := Rr_nx d_MTo_which_82 rfl
theorem r_MTo_which_83 {l0 l1 l2 l3 l5 l6 l7 l8 : Value} {x : Int32} : Rr X d MTo_which 83 [l0, l1, l2, l3, .int x, l5, l6, l7, l8] st h = Rr X d MTo_which 85 [l0, l1, l2, l3, .int x, l5, l6, l7, l8] (.int x :: st) h := Rr_nx d_MTo_which_83 rfl
theorem r_MTo_which_85 {y0 : Int32} {y1 : Int32} {y2 : Int32} {a : Nat} (hO : qO a 9 = true) (hc : ckS st = true) : Rr X (d + 1) MTo_which 85 L (.int y2 :: .int y1 :: .int y0 :: .ref a :: st) (Wd mu la ro et) = (Rr X d MTo_offBy 0 [.ref a, .int y0, .int y1, .int y2, mkU, mkU, mkU] [] (Wd mu la ro et)).bind fun q => Rr X (d + 1) MTo_which 88 L (psh q.1 st) q.2 := R_iv (av := [.int y2, .int y1, .int y0]) d_MTo_which_85 fc_9_226 hO (ckS_le hc) rfl (Nat.le_of_ble_eq_true rfl) (Nat.le_of_ble_eq_true rfl)
theorem r_MTo_which_88 {l0 l1 l2 l3 l4 l5 l6 l7 l8 : Value} {x : Int32} : Rr X d MTo_which 88 [l0, l1, l2, l3, l4, l5, l6, l7, l8] (.int x :: st) h = Rr X d MTo_which 90 (sL [l0, l1, l2, l3, l4, l5, l6, l7, l8] 8 (.int x)) st h := Rr_nx d_MTo_which_88 rfl
theorem r_MTo_which_90 {l0 l1 l2 l3 l4 l5 l6 l7 : Value} {x : Int32} : Rr X d MTo_which 90 [l0, l1, l2, l3, l4, l5, l6, l7, .int x] st h = Rr X d MTo_which 92 [l0, l1, l2, l3, l4, l5, l6, l7, .int x] (.int x :: st) h := Rr_nx d_MTo_which_90 rfl
theorem r_MTo_which_92 {l0 l1 l2 l3 l4 l5 l7 l8 : Value} {x : Int32} : Rr X d MTo_which 92 [l0, l1, l2, l3, l4, l5, .int x, l7, l8] st h = Rr X d MTo_which 94 [l0, l1, l2, l3, l4, l5, .int x, l7, l8] (.int x :: st) h := Rr_nx d_MTo_which_92 rfl
theorem r_MTo_which_94 {x y : Int32} : Rr X d MTo_which 94 L (.int y :: .int x :: st) h = if y ≤ x then Rr X d MTo_which 105 L st h else Rr X d MTo_which 97 L st h := R_ic_ge d_MTo_which_94 (by decide)
theorem r_MTo_which_97 {l0 l1 l2 l3 l4 l5 l6 l8 : Value} {x : Int32} : Rr X d MTo_which 97 [l0, l1, l2, l3, l4, l5, l6, .int x, l8] st h = Rr X d MTo_which 99 [l0, l1, l2, l3, l4, l5, l6, .int x, l8] (.int x :: st) h := Rr_nx d_MTo_which_97 rfl
theorem r_MTo_which_99 {l0 l1 l2 l3 l4 l5 l6 l7 l8 : Value} {x : Int32} : Rr X d MTo_which 99 [l0, l1, l2, l3, l4, l5, l6, l7, l8] (.int x :: st) h = Rr X d MTo_which 101 (sL [l0, l1, l2, l3, l4, l5, l6, l7, l8] 5 (.int x)) st h := Rr_nx d_MTo_which_99 rfl
theorem r_MTo_which_101 {l0 l1 l2 l3 l4 l5 l6 l7 : Value} {x : Int32} : Rr X d MTo_which 101 [l0, l1, l2, l3, l4, l5, l6, l7, .int x] st h = Rr X d MTo_which 103 [l0, l1, l2, l3, l4, l5, l6, l7, .int x] (.int x :: st) h := Rr_nx d_MTo_which_101 rfl
theorem r_MTo_which_103 {l0 l1 l2 l3 l4 l5 l6 l7 l8 : Value} {x : Int32} : Rr X d MTo_which 103 [l0, l1, l2, l3, l4, l5, l6, l7, l8] (.int x :: st) h = Rr X d MTo_which 105 (sL [l0, l1, l2, l3, l4, l5, l6, l7, l8] 6 (.int x)) st h := Rr_nx d_MTo_which_103 rfl
theorem r_MTo_which_105 {l0 l1 l2 l3 l4 l5 l6 l8 : Value} {x : Int32} : Rr X d MTo_which 105 [l0, l1, l2, l3, l4, l5, l6, .int x, l8] st h = Rr X d MTo_which 108 (sL [l0, l1, l2, l3, l4, l5, l6, .int x, l8] 7 (.int (x + (1)))) st h := Rr_nx d_MTo_which_105 rfl
theorem r_MTo_which_108 : Rr X d MTo_which 108 L st h = Rr X d MTo_which 65 L st h := R_goto d_MTo_which_108 (by decide)
theorem r_MTo_which_111 {l0 l1 l2 l3 l4 l6 l7 l8 : Value} {x : Int32} : Rr X d MTo_which 111 [l0, l1, l2, l3, l4, .int x, l6, l7, l8] st h = Rr X d MTo_which 113 [l0, l1, l2, l3, l4, .int x, l6, l7, l8] (.int x :: st) h := Rr_nx d_MTo_which_111 rfl
theorem r_MTo_which_113 {x : Int32} : Rr X d MTo_which 113 L [.int x] h = some (some (.int x), h) := R_ir d_MTo_which_113 rfl
theorem d_MFi_turnAt_0 : decode MFi_turnAt.2.2.1 0 = .ok (.iload_n 1, 1) := lkT_ok tk_MFi_turnAt rfl
theorem d_MFi_turnAt_1 : decode MFi_turnAt.2.2.1 1 = .ok (.ifCond .lt 26, 3) := lkT_ok tk_MFi_turnAt rfl
theorem d_MFi_turnAt_4 : decode MFi_turnAt.2.2.1 4 = .ok (.iload_n 1, 1) := lkT_ok tk_MFi_turnAt rfl
theorem d_MFi_turnAt_5 : decode MFi_turnAt.2.2.1 5 = .ok (.aload_n 0, 1) := lkT_ok tk_MFi_turnAt rfl
theorem d_MFi_turnAt_6 : decode MFi_turnAt.2.2.1 6 = .ok (.getfield 18, 3) := lkT_ok tk_MFi_turnAt rfl
theorem d_MFi_turnAt_9 : decode MFi_turnAt.2.2.1 9 = .ok (.if_icmp .ge 18, 3) := lkT_ok tk_MFi_turnAt rfl
theorem d_MFi_turnAt_12 : decode MFi_turnAt.2.2.1 12 = .ok (.iload_n 1, 1) := lkT_ok tk_MFi_turnAt rfl
theorem d_MFi_turnAt_13 : decode MFi_turnAt.2.2.1 13 = .ok (.bipush 40, 2) := lkT_ok tk_MFi_turnAt rfl
theorem d_MFi_turnAt_15 : decode MFi_turnAt.2.2.1 15 = .ok (.if_icmp .ge 12, 3) := lkT_ok tk_MFi_turnAt rfl
theorem d_MFi_turnAt_18 : decode MFi_turnAt.2.2.1 18 = .ok (.aload_n 0, 1) := lkT_ok tk_MFi_turnAt rfl
theorem d_MFi_turnAt_19 : decode MFi_turnAt.2.2.1 19 = .ok (.getfield 15, 3) := lkT_ok tk_MFi_turnAt rfl
theorem d_MFi_turnAt_22 : decode MFi_turnAt.2.2.1 22 = .ok (.iload_n 1, 1) := lkT_ok tk_MFi_turnAt rfl
theorem d_MFi_turnAt_23 : decode MFi_turnAt.2.2.1 23 = .ok (.iaload, 1) := lkT_ok tk_MFi_turnAt rfl
theorem d_MFi_turnAt_24 : decode MFi_turnAt.2.2.1 24 = .ok (.goto 4, 3) := lkT_ok tk_MFi_turnAt rfl
theorem d_MFi_turnAt_27 : decode MFi_turnAt.2.2.1 27 = .ok (.iconst 0, 1) := lkT_ok tk_MFi_turnAt rfl
theorem d_MFi_turnAt_28 : decode MFi_turnAt.2.2.1 28 = .ok (.ireturn, 1) := lkT_ok tk_MFi_turnAt rfl
theorem r_MFi_turnAt_0 {l0 : Value} {x : Int32} : Rr X d MFi_turnAt 0 [l0, .int x] st h = Rr X d MFi_turnAt 1 [l0, .int x] (.int x :: st) h := Rr_nx d_MFi_turnAt_0 rfl
theorem r_MFi_turnAt_1 {x : Int32} : Rr X d MFi_turnAt 1 L (.int x :: st) h = if x < 0 then Rr X d MFi_turnAt 27 L st h else Rr X d MFi_turnAt 4 L st h := R_if_lt d_MFi_turnAt_1 (by decide)
theorem r_MFi_turnAt_4 {l0 : Value} {x : Int32} : Rr X d MFi_turnAt 4 [l0, .int x] st h = Rr X d MFi_turnAt 5 [l0, .int x] (.int x :: st) h := Rr_nx d_MFi_turnAt_4 rfl
theorem r_MFi_turnAt_5 {l1 : Value} {x : Nat} : Rr X d MFi_turnAt 5 [.ref x, l1] st h = Rr X d MFi_turnAt 6 [.ref x, l1] (.ref x :: st) h := Rr_nx d_MFi_turnAt_5 rfl
theorem ff_2_18 : fF 2 18 = some (2, 2, 0, 0) := rfl
theorem r_MFi_turnAt_6 {a : Nat} (hq : qI a 2 2 = true) : Rr X d MFi_turnAt 6 L (.ref a :: st) (Wd mu la ro et) = Rr X d MFi_turnAt 9 L (.int (mu a 2) :: st) (Wd mu la ro et) := R_gfI d_MFi_turnAt_6 ff_2_18 hq
theorem r_MFi_turnAt_9 {x y : Int32} : Rr X d MFi_turnAt 9 L (.int y :: .int x :: st) h = if y ≤ x then Rr X d MFi_turnAt 27 L st h else Rr X d MFi_turnAt 12 L st h := R_ic_ge d_MFi_turnAt_9 (by decide)
theorem r_MFi_turnAt_12 {l0 : Value} {x : Int32} : Rr X d MFi_turnAt 12 [l0, .int x] st h = Rr X d MFi_turnAt 13 [l0, .int x] (.int x :: st) h := Rr_nx d_MFi_turnAt_12 rfl
theorem r_MFi_turnAt_13 : Rr X d MFi_turnAt 13 L st h = Rr X d MFi_turnAt 15 L (.int (40) :: st) h := Rr_nx d_MFi_turnAt_13 rfl
theorem r_MFi_turnAt_15 {x y : Int32} : Rr X d MFi_turnAt 15 L (.int y :: .int x :: st) h = if y ≤ x then Rr X d MFi_turnAt 27 L st h else Rr X d MFi_turnAt 18 L st h := R_ic_ge d_MFi_turnAt_15 (by decide)
theorem r_MFi_turnAt_18 {l1 : Value} {x : Nat} : Rr X d MFi_turnAt 18 [.ref x, l1] st h = Rr X d MFi_turnAt 19 [.ref x, l1] (.ref x :: st) h := Rr_nx d_MFi_turnAt_18 rfl
theorem ff_2_15 : fF 2 15 = some (2, 1, 1, 1) := rfl
theorem r_MFi_turnAt_19 {a : Nat} (hq : (qR a 2 1).isSome = true) : Rr X d MFi_turnAt 19 L (.ref a :: st) (Wd mu la ro et) = Rr X d MFi_turnAt 22 L (.ref (qRd a 2 1) :: st) (Wd mu la ro et) := R_gfR d_MFi_turnAt_19 ff_2_15 hq
theorem r_MFi_turnAt_22 {l0 : Value} {x : Int32} : Rr X d MFi_turnAt 22 [l0, .int x] st h = Rr X d MFi_turnAt 23 [l0, .int x] (.int x :: st) h := Rr_nx d_MFi_turnAt_22 rfl
theorem r_MFi_turnAt_23 {a : Nat} {j : Int32} (hq : (qA a 0).isSome = true) : Rr X d MFi_turnAt 23 L (.int j :: .ref a :: st) (Wd mu la ro et) = if j < 0 ∨ qAd a 0 ≤ j.toNatClampNeg then none else Rr X d MFi_turnAt 24 L (.int (mu a j.toNatClampNeg) :: st) (Wd mu la ro et) := R_ialW d_MFi_turnAt_23 hq
theorem r_MFi_turnAt_24 : Rr X d MFi_turnAt 24 L st h = Rr X d MFi_turnAt 28 L st h := R_goto d_MFi_turnAt_24 (by decide)
theorem r_MFi_turnAt_27 : Rr X d MFi_turnAt 27 L st h = Rr X d MFi_turnAt 28 L (.int (0) :: st) h := Rr_nx d_MFi_turnAt_27 rfl
theorem r_MFi_turnAt_28 {x : Int32} : Rr X d MFi_turnAt 28 L [.int x] h = some (some (.int x), h) := R_ir d_MFi_turnAt_28 rfl
theorem d_MFi_tickAt_0 : decode MFi_tickAt.2.2.1 0 = .ok (.iload_n 1, 1) := lkT_ok tk_MFi_tickAt rfl
theorem d_MFi_tickAt_1 : decode MFi_tickAt.2.2.1 1 = .ok (.ifCond .lt 26, 3) := lkT_ok tk_MFi_tickAt rfl
theorem d_MFi_tickAt_4 : decode MFi_tickAt.2.2.1 4 = .ok (.iload_n 1, 1) := lkT_ok tk_MFi_tickAt rfl
theorem d_MFi_tickAt_5 : decode MFi_tickAt.2.2.1 5 = .ok (.aload_n 0, 1) := lkT_ok tk_MFi_tickAt rfl
theorem d_MFi_tickAt_6 : decode MFi_tickAt.2.2.1 6 = .ok (.getfield 18, 3) := lkT_ok tk_MFi_tickAt rfl
theorem d_MFi_tickAt_9 : decode MFi_tickAt.2.2.1 9 = .ok (.if_icmp .ge 18, 3) := lkT_ok tk_MFi_tickAt rfl
theorem d_MFi_tickAt_12 : decode MFi_tickAt.2.2.1 12 = .ok (.iload_n 1, 1) := lkT_ok tk_MFi_tickAt rfl
theorem d_MFi_tickAt_13 : decode MFi_tickAt.2.2.1 13 = .ok (.bipush 40, 2) := lkT_ok tk_MFi_tickAt rfl
theorem d_MFi_tickAt_15 : decode MFi_tickAt.2.2.1 15 = .ok (.if_icmp .ge 12, 3) := lkT_ok tk_MFi_tickAt rfl
theorem d_MFi_tickAt_18 : decode MFi_tickAt.2.2.1 18 = .ok (.aload_n 0, 1) := lkT_ok tk_MFi_tickAt rfl
theorem d_MFi_tickAt_19 : decode MFi_tickAt.2.2.1 19 = .ok (.getfield 11, 3) := lkT_ok tk_MFi_tickAt rfl
theorem d_MFi_tickAt_22 : decode MFi_tickAt.2.2.1 22 = .ok (.iload_n 1, 1) := lkT_ok tk_MFi_tickAt rfl
theorem d_MFi_tickAt_23 : decode MFi_tickAt.2.2.1 23 = .ok (.iaload, 1) := lkT_ok tk_MFi_tickAt rfl
theorem d_MFi_tickAt_24 : decode MFi_tickAt.2.2.1 24 = .ok (.goto 4, 3) := lkT_ok tk_MFi_tickAt rfl
theorem d_MFi_tickAt_27 : decode MFi_tickAt.2.2.1 27 = .ok (.iconst 0, 1) := lkT_ok tk_MFi_tickAt rfl
theorem d_MFi_tickAt_28 : decode MFi_tickAt.2.2.1 28 = .ok (.ireturn, 1) := lkT_ok tk_MFi_tickAt rfl
theorem r_MFi_tickAt_0 {l0 : Value} {x : Int32} : Rr X d MFi_tickAt 0 [l0, .int x] st h = Rr X d MFi_tickAt 1 [l0, .int x] (.int x :: st) h := Rr_nx d_MFi_tickAt_0 rfl
theorem r_MFi_tickAt_1 {x : Int32} : Rr X d MFi_tickAt 1 L (.int x :: st) h = if x < 0 then Rr X d MFi_tickAt 27 L st h else Rr X d MFi_tickAt 4 L st h := R_if_lt d_MFi_tickAt_1 (by decide)
theorem r_MFi_tickAt_4 {l0 : Value} {x : Int32} : Rr X d MFi_tickAt 4 [l0, .int x] st h = Rr X d MFi_tickAt 5 [l0, .int x] (.int x :: st) h := Rr_nx d_MFi_tickAt_4 rfl
theorem r_MFi_tickAt_5 {l1 : Value} {x : Nat} : Rr X d MFi_tickAt 5 [.ref x, l1] st h = Rr X d MFi_tickAt 6 [.ref x, l1] (.ref x :: st) h := Rr_nx d_MFi_tickAt_5 rfl
theorem r_MFi_tickAt_6 {a : Nat} (hq : qI a 2 2 = true) : Rr X d MFi_tickAt 6 L (.ref a :: st) (Wd mu la ro et) = Rr X d MFi_tickAt 9 L (.int (mu a 2) :: st) (Wd mu la ro et) := R_gfI d_MFi_tickAt_6 ff_2_18 hq
theorem r_MFi_tickAt_9 {x y : Int32} : Rr X d MFi_tickAt 9 L (.int y :: .int x :: st) h = if y ≤ x then Rr X d MFi_tickAt 27 L st h else Rr X d MFi_tickAt 12 L st h := R_ic_ge d_MFi_tickAt_9 (by decide)
theorem r_MFi_tickAt_12 {l0 : Value} {x : Int32} : Rr X d MFi_tickAt 12 [l0, .int x] st h = Rr X d MFi_tickAt 13 [l0, .int x] (.int x :: st) h := Rr_nx d_MFi_tickAt_12 rfl
theorem r_MFi_tickAt_13 : Rr X d MFi_tickAt 13 L st h = Rr X d MFi_tickAt 15 L (.int (40) :: st) h := Rr_nx d_MFi_tickAt_13 rfl
theorem r_MFi_tickAt_15 {x y : Int32} : Rr X d MFi_tickAt 15 L (.int y :: .int x :: st) h = if y ≤ x then Rr X d MFi_tickAt 27 L st h else Rr X d MFi_tickAt 18 L st h := R_ic_ge d_MFi_tickAt_15 (by decide)
theorem r_MFi_tickAt_18 {l1 : Value} {x : Nat} : Rr X d MFi_tickAt 18 [.ref x, l1] st h = Rr X d MFi_tickAt 19 [.ref x, l1] (.ref x :: st) h := Rr_nx d_MFi_tickAt_18 rfl
theorem ff_2_11 : fF 2 11 = some (2, 0, 1, 1) := rfl
theorem r_MFi_tickAt_19 {a : Nat} (hq : (qR a 2 0).isSome = true) : Rr X d MFi_tickAt 19 L (.ref a :: st) (Wd mu la ro et) = Rr X d MFi_tickAt 22 L (.ref (qRd a 2 0) :: st) (Wd mu la ro et) := R_gfR d_MFi_tickAt_19 ff_2_11 hq
theorem r_MFi_tickAt_22 {l0 : Value} {x : Int32} : Rr X d MFi_tickAt 22 [l0, .int x] st h = Rr X d MFi_tickAt 23 [l0, .int x] (.int x :: st) h := Rr_nx d_MFi_tickAt_22 rfl
theorem r_MFi_tickAt_23 {a : Nat} {j : Int32} (hq : (qA a 0).isSome = true) : Rr X d MFi_tickAt 23 L (.int j :: .ref a :: st) (Wd mu la ro et) = if j < 0 ∨ qAd a 0 ≤ j.toNatClampNeg then none else Rr X d MFi_tickAt 24 L (.int (mu a j.toNatClampNeg) :: st) (Wd mu la ro et) := R_ialW d_MFi_tickAt_23 hq
theorem r_MFi_tickAt_24 : Rr X d MFi_tickAt 24 L st h = Rr X d MFi_tickAt 28 L st h := R_goto d_MFi_tickAt_24 (by decide)
theorem r_MFi_tickAt_27 : Rr X d MFi_tickAt 27 L st h = Rr X d MFi_tickAt 28 L (.int (0) :: st) h := Rr_nx d_MFi_tickAt_27 rfl
theorem r_MFi_tickAt_28 {x : Int32} : Rr X d MFi_tickAt 28 L [.int x] h = some (some (.int x), h) := R_ir d_MFi_tickAt_28 rfl
end RULES
