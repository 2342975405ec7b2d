section RULES
variable {X : Tok} {d : Nat} {st L : List Value} {h : Hp} {mu : Nat → Nat → Int32} {la : Nat → Nat → Int64} {ro : Nat → Nat → Option Nat} {et : Nat → Option va_E}
theorem d_MIn_signum_0 : decode MIn_signum.2.2.1 0 = .ok (.iload_n 0, 1) := lkT_ok tk_MIn_signum rfl
theorem d_MIn_signum_1 : decode MIn_signum.2.2.1 1 = .ok (.bipush 31, 2) := lkT_ok tk_MIn_signum rfl
theorem d_MIn_signum_3 : decode MIn_signum.2.2.1 3 = .ok (.ishr, 1) := lkT_ok tk_MIn_signum rfl
theorem d_MIn_signum_4 : decode MIn_signum.2.2.1 4 = .ok (.iload_n 0, 1) := lkT_ok tk_MIn_signum rfl
theorem d_MIn_signum_5 : decode MIn_signum.2.2.1 5 = .ok (.ineg, 1) := lkT_ok tk_MIn_signum rfl
theorem d_MIn_signum_6 : decode MIn_signum.2.2.1 6 = .ok (.bipush 31, 2) := lkT_ok tk_MIn_signum rfl
theorem d_MIn_signum_8 : decode MIn_signum.2.2.1 8 = .ok (.iushr, 1) := lkT_ok tk_MIn_signum rfl
theorem d_MIn_signum_9 : decode MIn_signum.2.2.1 9 = .ok (.ior, 1) := lkT_ok tk_MIn_signum rfl
theorem d_MIn_signum_10 : decode MIn_signum.2.2.1 10 = .ok (.ireturn, 1) := lkT_ok tk_MIn_signum rfl
theorem r_MIn_signum_0 {x : Int32} : Rr X d MIn_signum 0 [.int x] st h = Rr X d MIn_signum 1 [.int x] (.int x :: st) h := Rr_nx d_MIn_signum_0 rfl
theorem r_MIn_signum_1 : Rr X d MIn_signum 1 L st h = Rr X d MIn_signum 3 L (.int (31) :: st) h := Rr_nx d_MIn_signum_1 rfl
theorem r_MIn_signum_3 {x y : Int32} : Rr X d MIn_signum 3 L (.int y :: .int x :: st) h = Rr X d MIn_signum 4 L (.int (x >>> (y &&& 31)) :: st) h := Rr_nx d_MIn_signum_3 rfl
theorem r_MIn_signum_4 {x : Int32} : Rr X d MIn_signum 4 [.int x] st h = Rr X d MIn_signum 5 [.int x] (.int x :: st) h := Rr_nx d_MIn_signum_4 rfl
theorem r_MIn_signum_5 {x : Int32} : Rr X d MIn_signum 5 L (.int x :: st) h = Rr X d MIn_signum 6 L (.int (-x) :: st) h := Rr_nx d_MIn_signum_5 rfl
theorem r_MIn_signum_6 : Rr X d MIn_signum 6 L st h = Rr X d MIn_signum 8 L (.int (31) :: st) h := Rr_nx d_MIn_signum_6 rfl
theorem r_MIn_signum_8 {x y : Int32} : Rr X d MIn_signum 8 L (.int y :: .int x :: st) h = Rr X d MIn_signum 9 L (.int ((x.toUInt32 >>> (y.toUInt32 &&& Int32.toUInt32 31)).toInt32) :: st) h := Rr_nx d_MIn_signum_8 rfl
theorem r_MIn_signum_9 {x y : Int32} : Rr X d MIn_signum 9 L (.int y :: .int x :: st) h = Rr X d MIn_signum 10 L (.int (x ||| y) :: st) h := Rr_nx d_MIn_signum_9 rfl
theorem r_MIn_signum_10 {x : Int32} : Rr X d MIn_signum 10 L [.int x] h = some (some (.int x), h) := R_ir d_MIn_signum_10 rfl
theorem d_MMo_rule_0 : decode MMo_rule.2.2.1 0 = .ok (.aload_n 0, 1) := lkT_ok tk_MMo_rule rfl
theorem d_MMo_rule_1 : decode MMo_rule.2.2.1 1 = .ok (.iload_n 2, 1) := lkT_ok tk_MMo_rule rfl
theorem d_MMo_rule_2 : decode MMo_rule.2.2.1 2 = .ok (.putfield 7, 3) := lkT_ok tk_MMo_rule rfl
theorem d_MMo_rule_5 : decode MMo_rule.2.2.1 5 = .ok (.aload_n 0, 1) := lkT_ok tk_MMo_rule rfl
theorem d_MMo_rule_6 : decode MMo_rule.2.2.1 6 = .ok (.aload_n 1, 1) := lkT_ok tk_MMo_rule rfl
theorem d_MMo_rule_7 : decode MMo_rule.2.2.1 7 = .ok (.iconst 0, 1) := lkT_ok tk_MMo_rule rfl
theorem d_MMo_rule_8 : decode MMo_rule.2.2.1 8 = .ok (.invokevirtual 13, 3) := lkT_ok tk_MMo_rule rfl
theorem d_MMo_rule_11 : decode MMo_rule.2.2.1 11 = .ok (.putfield 19, 3) := lkT_ok tk_MMo_rule rfl
theorem d_MMo_rule_14 : decode MMo_rule.2.2.1 14 = .ok (.aload_n 0, 1) := lkT_ok tk_MMo_rule rfl
theorem d_MMo_rule_15 : decode MMo_rule.2.2.1 15 = .ok (.aload_n 1, 1) := lkT_ok tk_MMo_rule rfl
theorem d_MMo_rule_16 : decode MMo_rule.2.2.1 16 = .ok (.iconst 1, 1) := lkT_ok tk_MMo_rule rfl
theorem d_MMo_rule_17 : decode MMo_rule.2.2.1 17 = .ok (.invokevirtual 13, 3) := lkT_ok tk_MMo_rule rfl
theorem d_MMo_rule_20 : decode MMo_rule.2.2.1 20 = .ok (.putfield 22, 3) := lkT_ok tk_MMo_rule rfl
theorem d_MMo_rule_23 : decode MMo_rule.2.2.1 23 = .ok (.aload_n 0, 1) := lkT_ok tk_MMo_rule rfl
theorem d_MMo_rule_24 : decode MMo_rule.2.2.1 24 = .ok (.aload_n 1, 1) := lkT_ok tk_MMo_rule rfl
theorem d_MMo_rule_25 : decode MMo_rule.2.2.1 25 = .ok (.iconst 2, 1) := lkT_ok tk_MMo_rule rfl
theorem d_MMo_rule_26 : decode MMo_rule.2.2.1 26 = .ok (.invokevirtual 13, 3) := lkT_ok tk_MMo_rule rfl
theorem d_MMo_rule_29 : decode MMo_rule.2.2.1 29 = .ok (.putfield 25, 3) := lkT_ok tk_MMo_rule rfl
theorem d_MMo_rule_32 : decode MMo_rule.2.2.1 32 = .ok (.aload_n 0, 1) := lkT_ok tk_MMo_rule rfl
theorem d_MMo_rule_33 : decode MMo_rule.2.2.1 33 = .ok (.aload_n 1, 1) := lkT_ok tk_MMo_rule rfl
theorem d_MMo_rule_34 : decode MMo_rule.2.2.1 34 = .ok (.iconst 3, 1) := lkT_ok tk_MMo_rule rfl
theorem d_MMo_rule_35 : decode MMo_rule.2.2.1 35 = .ok (.invokevirtual 13, 3) := lkT_ok tk_MMo_rule rfl
theorem d_MMo_rule_38 : decode MMo_rule.2.2.1 38 = .ok (.putfield 28, 3) := lkT_ok tk_MMo_rule rfl
theorem d_MMo_rule_41 : decode MMo_rule.2.2.1 41 = .ok (.aload_n 0, 1) := lkT_ok tk_MMo_rule rfl
theorem d_MMo_rule_42 : decode MMo_rule.2.2.1 42 = .ok (.aload_n 3, 1) := lkT_ok tk_MMo_rule rfl
theorem d_MMo_rule_43 : decode MMo_rule.2.2.1 43 = .ok (.putfield 31, 3) := lkT_ok tk_MMo_rule rfl
theorem d_MMo_rule_46 : decode MMo_rule.2.2.1 46 = .ok (.aload_n 0, 1) := lkT_ok tk_MMo_rule rfl
theorem d_MMo_rule_47 : decode MMo_rule.2.2.1 47 = .ok (.iconst 0, 1) := lkT_ok tk_MMo_rule rfl
theorem d_MMo_rule_48 : decode MMo_rule.2.2.1 48 = .ok (.putfield 35, 3) := lkT_ok tk_MMo_rule rfl
theorem d_MMo_rule_51 : decode MMo_rule.2.2.1 51 = .ok (.return_, 1) := lkT_ok tk_MMo_rule rfl
theorem r_MMo_rule_0 {l1 l2 l3 : Value} {x : Nat} : Rr X d MMo_rule 0 [.ref x, l1, l2, l3] st h = Rr X d MMo_rule 1 [.ref x, l1, l2, l3] (.ref x :: st) h := Rr_nx d_MMo_rule_0 rfl
theorem r_MMo_rule_1 {l0 l1 l3 : Value} {x : Int32} : Rr X d MMo_rule 1 [l0, l1, .int x, l3] st h = Rr X d MMo_rule 2 [l0, l1, .int x, l3] (.int x :: st) h := Rr_nx d_MMo_rule_1 rfl
theorem ff_5_7 : fF 5 7 = some (5, 0, 0, 0) := rfl
theorem r_MMo_rule_2 {a : Nat} {x : Int32} (hq : qI a 5 0 = true) : Rr X d MMo_rule 2 L (.int x :: .ref a :: st) (Wd mu la ro et) = Rr X d MMo_rule 5 L st (Wd (up2 mu a 0 x) la ro et) := R_pfI d_MMo_rule_2 ff_5_7 hq
theorem r_MMo_rule_5 {l1 l2 l3 : Value} {x : Nat} : Rr X d MMo_rule 5 [.ref x, l1, l2, l3] st h = Rr X d MMo_rule 6 [.ref x, l1, l2, l3] (.ref x :: st) h := Rr_nx d_MMo_rule_5 rfl
theorem r_MMo_rule_6 {l0 l2 l3 : Value} {x : Nat} : Rr X d MMo_rule 6 [l0, .ref x, l2, l3] st h = Rr X d MMo_rule 7 [l0, .ref x, l2, l3] (.ref x :: st) h := Rr_nx d_MMo_rule_6 rfl
theorem r_MMo_rule_6n {l0 l2 l3 : Value} : Rr X d MMo_rule 6 [l0, .null, l2, l3] st h = Rr X d MMo_rule 7 [l0, .null, l2, l3] (.null :: st) h := Rr_nx d_MMo_rule_6 rfl
theorem r_MMo_rule_7 : Rr X d MMo_rule 7 L st h = Rr X d MMo_rule 8 L (.int (0) :: st) h := Rr_nx d_MMo_rule_7 rfl
theorem fc_5_13 : fC 5 13 = some (0, 7, 1, MSt_rate) := rfl
theorem r_MMo_rule_8 {y0 : Int32} {a : Nat} (hO : qO a 7 = true) (hc : ckS st = true) : Rr X (d + 1) MMo_rule 8 L (.int y0 :: .ref a :: st) (Wd mu la ro et) = (Rr X d MSt_rate 0 [.ref a, .int y0] [] (Wd mu la ro et)).bind fun q => Rr X (d + 1) MMo_rule 11 L (psh q.1 st) q.2 := R_iv (av := [.int y0]) d_MMo_rule_8 fc_5_13 hO (ckS_le hc) rfl (Nat.le_of_ble_eq_true rfl) (Nat.le_of_ble_eq_true rfl)
theorem ff_5_19 : fF 5 19 = some (5, 1, 0, 0) := rfl
theorem r_MMo_rule_11 {a : Nat} {x : Int32} (hq : qI a 5 1 = true) : Rr X d MMo_rule 11 L (.int x :: .ref a :: st) (Wd mu la ro et) = Rr X d MMo_rule 14 L st (Wd (up2 mu a 1 x) la ro et) := R_pfI d_MMo_rule_11 ff_5_19 hq
theorem r_MMo_rule_14 {l1 l2 l3 : Value} {x : Nat} : Rr X d MMo_rule 14 [.ref x, l1, l2, l3] st h = Rr X d MMo_rule 15 [.ref x, l1, l2, l3] (.ref x :: st) h := Rr_nx d_MMo_rule_14 rfl
theorem r_MMo_rule_15 {l0 l2 l3 : Value} {x : Nat} : Rr X d MMo_rule 15 [l0, .ref x, l2, l3] st h = Rr X d MMo_rule 16 [l0, .ref x, l2, l3] (.ref x :: st) h := Rr_nx d_MMo_rule_15 rfl
theorem r_MMo_rule_15n {l0 l2 l3 : Value} : Rr X d MMo_rule 15 [l0, .null, l2, l3] st h = Rr X d MMo_rule 16 [l0, .null, l2, l3] (.null :: st) h := Rr_nx d_MMo_rule_15 rfl
theorem r_MMo_rule_16 : Rr X d MMo_rule 16 L st h = Rr X d MMo_rule 17 L (.int (1) :: st) h := Rr_nx d_MMo_rule_16 rfl
theorem r_MMo_rule_17 {y0 : Int32} {a : Nat} (hO : qO a 7 = true) (hc : ckS st = true) : Rr X (d + 1) MMo_rule 17 L (.int y0 :: .ref a :: st) (Wd mu la ro et) = (Rr X d MSt_rate 0 [.ref a, .int y0] [] (Wd mu la ro et)).bind fun q => Rr X (d + 1) MMo_rule 20 L (psh q.1 st) q.2 := R_iv (av := [.int y0]) d_MMo_rule_17 fc_5_13 hO (ckS_le hc) rfl (Nat.le_of_ble_eq_true rfl) (Nat.le_of_ble_eq_true rfl)
theorem ff_5_22 : fF 5 22 = some (5, 2, 0, 0) := rfl
theorem r_MMo_rule_20 {a : Nat} {x : Int32} (hq : qI a 5 2 = true) : Rr X d MMo_rule 20 L (.int x :: .ref a :: st) (Wd mu la ro et) = Rr X d MMo_rule 23 L st (Wd (up2 mu a 2 x) la ro et) := R_pfI d_MMo_rule_20 ff_5_22 hq
theorem r_MMo_rule_23 {l1 l2 l3 : Value} {x : Nat} : Rr X d MMo_rule 23 [.ref x, l1, l2, l3] st h = Rr X d MMo_rule 24 [.ref x, l1, l2, l3] (.ref x :: st) h := Rr_nx d_MMo_rule_23 rfl
theorem r_MMo_rule_24 {l0 l2 l3 : Value} {x : Nat} : Rr X d MMo_rule 24 [l0, .ref x, l2, l3] st h = Rr X d MMo_rule 25 [l0, .ref x, l2, l3] (.ref x :: st) h := Rr_nx d_MMo_rule_24 rfl
theorem r_MMo_rule_24n {l0 l2 l3 : Value} : Rr X d MMo_rule 24 [l0, .null, l2, l3] st h = Rr X d MMo_rule 25 [l0, .null, l2, l3] (.null :: st) h := Rr_nx d_MMo_rule_24 rfl
theorem r_MMo_rule_25 : Rr X d MMo_rule 25 L st h = Rr X d MMo_rule 26 L (.int (2) :: st) h := Rr_nx d_MMo_rule_25 rfl
theorem r_MMo_rule_26 {y0 : Int32} {a : Nat} (hO : qO a 7 = true) (hc : ckS st = true) : Rr X (d + 1) MMo_rule 26 L (.int y0 :: .ref a :: st) (Wd mu la ro et) = (Rr X d MSt_rate 0 [.ref a, .int y0] [] (Wd mu la ro et)).bind fun q => Rr X (d + 1) MMo_rule 29 L (psh q.1 st) q.2 := R_iv (av := [.int y0]) d_MMo_rule_26 fc_5_13 hO (ckS_le hc) rfl (Nat.le_of_ble_eq_true rfl) (Nat.le_of_ble_eq_true rfl)
theorem ff_5_25 : fF 5 25 = some (5, 3, 0, 0) := rfl
theorem r_MMo_rule_29 {a : Nat} {x : Int32} (hq : qI a 5 3 = true) : Rr X d MMo_rule 29 L (.int x :: .ref a :: st) (Wd mu la ro et) = Rr X d MMo_rule 32 L st (Wd (up2 mu a 3 x) la ro et) := R_pfI d_MMo_rule_29 ff_5_25 hq
theorem r_MMo_rule_32 {l1 l2 l3 : Value} {x : Nat} : Rr X d MMo_rule 32 [.ref x, l1, l2, l3] st h = Rr X d MMo_rule 33 [.ref x, l1, l2, l3] (.ref x :: st) h := Rr_nx d_MMo_rule_32 rfl
theorem r_MMo_rule_33 {l0 l2 l3 : Value} {x : Nat} : Rr X d MMo_rule 33 [l0, .ref x, l2, l3] st h = Rr X d MMo_rule 34 [l0, .ref x, l2, l3] (.ref x :: st) h := Rr_nx d_MMo_rule_33 rfl
theorem r_MMo_rule_33n {l0 l2 l3 : Value} : Rr X d MMo_rule 33 [l0, .null, l2, l3] st h = Rr X d MMo_rule 34 [l0, .null, l2, l3] (.null :: st) h := Rr_nx d_MMo_rule_33 rfl
theorem r_MMo_rule_34 : Rr X d MMo_rule 34 L st h = Rr X d MMo_rule 35 L (.int (3) :: st) h := Rr_nx d_MMo_rule_34 rfl
theorem r_MMo_rule_35 {y0 : Int32} {a : Nat} (hO : qO a 7 = true) (hc : ckS st = true) : Rr X (d + 1) MMo_rule 35 L (.int y0 :: .ref a :: st) (Wd mu la ro et) = (Rr X d MSt_rate 0 [.ref a, .int y0] [] (Wd mu la ro et)).bind fun q => Rr X (d + 1) MMo_rule 38 L (psh q.1 st) q.2 := R_iv (av := [.int y0]) d_MMo_rule_35 fc_5_13 hO (ckS_le hc) rfl (Nat.le_of_ble_eq_true rfl) (Nat.le_of_ble_eq_true rfl)
theorem ff_5_28 : fF 5 28 = some (5, 4, 0, 0) := rfl
theorem r_MMo_rule_38 {a : Nat} {x : Int32} (hq : qI a 5 4 = true) : Rr X d MMo_rule 38 L (.int x :: .ref a :: st) (Wd mu la ro et) = Rr X d MMo_rule 41 L st (Wd (up2 mu a 4 x) la ro et) := R_pfI d_MMo_rule_38 ff_5_28 hq
theorem r_MMo_rule_41 {l1 l2 l3 : Value} {x : Nat} : Rr X d MMo_rule 41 [.ref x, l1, l2, l3] st h = Rr X d MMo_rule 42 [.ref x, l1, l2, l3] (.ref x :: st) h := Rr_nx d_MMo_rule_41 rfl
theorem r_MMo_rule_42 {l0 l1 l2 : Value} {x : Nat} : Rr X d MMo_rule 42 [l0, l1, l2, .ref x] st h = Rr X d MMo_rule 43 [l0, l1, l2, .ref x] (.ref x :: st) h := Rr_nx d_MMo_rule_42 rfl
theorem r_MMo_rule_42n {l0 l1 l2 : Value} : Rr X d MMo_rule 42 [l0, l1, l2, .null] st h = Rr X d MMo_rule 43 [l0, l1, l2, .null] (.null :: st) h := Rr_nx d_MMo_rule_42 rfl
theorem ff_5_31 : fF 5 31 = some (5, 5, 1, 0) := rfl
theorem r_MMo_rule_46 {l1 l2 l3 : Value} {x : Nat} : Rr X d MMo_rule 46 [.ref x, l1, l2, l3] st h = Rr X d MMo_rule 47 [.ref x, l1, l2, l3] (.ref x :: st) h := Rr_nx d_MMo_rule_46 rfl
theorem r_MMo_rule_47 : Rr X d MMo_rule 47 L st h = Rr X d MMo_rule 48 L (.int (0) :: st) h := Rr_nx d_MMo_rule_47 rfl
theorem ff_5_35 : fF 5 35 = some (5, 6, 0, 0) := rfl
theorem r_MMo_rule_48 {a : Nat} {x : Int32} (hq : qI a 5 6 = true) : Rr X d MMo_rule 48 L (.int x :: .ref a :: st) (Wd mu la ro et) = Rr X d MMo_rule 51 L st (Wd (up2 mu a 6 x) la ro et) := R_pfI d_MMo_rule_48 ff_5_35 hq
theorem r_MMo_rule_51 : Rr X d MMo_rule 51 L [] h = some (none, h) := Rr_rt d_MMo_rule_51 rfl
theorem d_MMo_start_0 : decode MMo_start.2.2.1 0 = .ok (.aload_n 0, 1) := lkT_ok tk_MMo_start rfl
theorem d_MMo_start_1 : decode MMo_start.2.2.1 1 = .ok (.iload_n 1, 1) := lkT_ok tk_MMo_start rfl
theorem d_MMo_start_2 : decode MMo_start.2.2.1 2 = .ok (.putfield 38, 3) := lkT_ok tk_MMo_start rfl
theorem d_MMo_start_5 : decode MMo_start.2.2.1 5 = .ok (.aload_n 0, 1) := lkT_ok tk_MMo_start rfl
theorem d_MMo_start_6 : decode MMo_start.2.2.1 6 = .ok (.iload_n 2, 1) := lkT_ok tk_MMo_start rfl
theorem d_MMo_start_7 : decode MMo_start.2.2.1 7 = .ok (.putfield 41, 3) := lkT_ok tk_MMo_start rfl
theorem d_MMo_start_10 : decode MMo_start.2.2.1 10 = .ok (.aload_n 0, 1) := lkT_ok tk_MMo_start rfl
theorem d_MMo_start_11 : decode MMo_start.2.2.1 11 = .ok (.iload_n 3, 1) := lkT_ok tk_MMo_start rfl
theorem d_MMo_start_12 : decode MMo_start.2.2.1 12 = .ok (.putfield 44, 3) := lkT_ok tk_MMo_start rfl
theorem d_MMo_start_15 : decode MMo_start.2.2.1 15 = .ok (.aload_n 0, 1) := lkT_ok tk_MMo_start rfl
theorem d_MMo_start_16 : decode MMo_start.2.2.1 16 = .ok (.iload 4, 2) := lkT_ok tk_MMo_start rfl
theorem d_MMo_start_18 : decode MMo_start.2.2.1 18 = .ok (.putfield 47, 3) := lkT_ok tk_MMo_start rfl
theorem d_MMo_start_21 : decode MMo_start.2.2.1 21 = .ok (.aload_n 0, 1) := lkT_ok tk_MMo_start rfl
theorem d_MMo_start_22 : decode MMo_start.2.2.1 22 = .ok (.aload_n 0, 1) := lkT_ok tk_MMo_start rfl
theorem d_MMo_start_23 : decode MMo_start.2.2.1 23 = .ok (.getfield 38, 3) := lkT_ok tk_MMo_start rfl
theorem d_MMo_start_26 : decode MMo_start.2.2.1 26 = .ok (.invokestatic 50, 3) := lkT_ok tk_MMo_start rfl
theorem d_MMo_start_29 : decode MMo_start.2.2.1 29 = .ok (.putfield 55, 3) := lkT_ok tk_MMo_start rfl
theorem d_MMo_start_32 : decode MMo_start.2.2.1 32 = .ok (.aload_n 0, 1) := lkT_ok tk_MMo_start rfl
theorem d_MMo_start_33 : decode MMo_start.2.2.1 33 = .ok (.iconst 0, 1) := lkT_ok tk_MMo_start rfl
theorem d_MMo_start_34 : decode MMo_start.2.2.1 34 = .ok (.putfield 58, 3) := lkT_ok tk_MMo_start rfl
theorem d_MMo_start_37 : decode MMo_start.2.2.1 37 = .ok (.aload_n 0, 1) := lkT_ok tk_MMo_start rfl
theorem d_MMo_start_38 : decode MMo_start.2.2.1 38 = .ok (.iconst 0, 1) := lkT_ok tk_MMo_start rfl
theorem d_MMo_start_39 : decode MMo_start.2.2.1 39 = .ok (.putfield 61, 3) := lkT_ok tk_MMo_start rfl
theorem d_MMo_start_42 : decode MMo_start.2.2.1 42 = .ok (.aload_n 0, 1) := lkT_ok tk_MMo_start rfl
theorem d_MMo_start_43 : decode MMo_start.2.2.1 43 = .ok (.iconst 0, 1) := lkT_ok tk_MMo_start rfl
theorem d_MMo_start_44 : decode MMo_start.2.2.1 44 = .ok (.putfield 64, 3) := lkT_ok tk_MMo_start rfl
theorem d_MMo_start_47 : decode MMo_start.2.2.1 47 = .ok (.aload_n 0, 1) := lkT_ok tk_MMo_start rfl
theorem d_MMo_start_48 : decode MMo_start.2.2.1 48 = .ok (.iconst 0, 1) := lkT_ok tk_MMo_start rfl
theorem d_MMo_start_49 : decode MMo_start.2.2.1 49 = .ok (.putfield 67, 3) := lkT_ok tk_MMo_start rfl
theorem d_MMo_start_52 : decode MMo_start.2.2.1 52 = .ok (.aload_n 0, 1) := lkT_ok tk_MMo_start rfl
theorem d_MMo_start_53 : decode MMo_start.2.2.1 53 = .ok (.iconst 0, 1) := lkT_ok tk_MMo_start rfl
theorem d_MMo_start_54 : decode MMo_start.2.2.1 54 = .ok (.putfield 70, 3) := lkT_ok tk_MMo_start rfl
theorem d_MMo_start_57 : decode MMo_start.2.2.1 57 = .ok (.return_, 1) := lkT_ok tk_MMo_start rfl
theorem r_MMo_start_0 {l1 l2 l3 l4 : Value} {x : Nat} : Rr X d MMo_start 0 [.ref x, l1, l2, l3, l4] st h = Rr X d MMo_start 1 [.ref x, l1, l2, l3, l4] (.ref x :: st) h := Rr_nx d_MMo_start_0 rfl
theorem r_MMo_start_1 {l0 l2 l3 l4 : Value} {x : Int32} : Rr X d MMo_start 1 [l0, .int x, l2, l3, l4] st h = Rr X d MMo_start 2 [l0, .int x, l2, l3, l4] (.int x :: st) h := Rr_nx d_MMo_start_1 rfl
theorem ff_5_38 : fF 5 38 = some (5, 7, 0, 0) := rfl
theorem r_MMo_start_2 {a : Nat} {x : Int32} (hq : qI a 5 7 = true) : Rr X d MMo_start 2 L (.int x :: .ref a :: st) (Wd mu la ro et) = Rr X d MMo_start 5 L st (Wd (up2 mu a 7 x) la ro et) := R_pfI d_MMo_start_2 ff_5_38 hq
theorem r_MMo_start_5 {l1 l2 l3 l4 : Value} {x : Nat} : Rr X d MMo_start 5 [.ref x, l1, l2, l3, l4] st h = Rr X d MMo_start 6 [.ref x, l1, l2, l3, l4] (.ref x :: st) h := Rr_nx d_MMo_start_5 rfl
theorem r_MMo_start_6 {l0 l1 l3 l4 : Value} {x : Int32} : Rr X d MMo_start 6 [l0, l1, .int x, l3, l4] st h = Rr X d MMo_start 7 [l0, l1, .int x, l3, l4] (.int x :: st) h := Rr_nx d_MMo_start_6 rfl
theorem ff_5_41 : fF 5 41 = some (5, 8, 0, 0) := rfl
theorem r_MMo_start_7 {a : Nat} {x : Int32} (hq : qI a 5 8 = true) : Rr X d MMo_start 7 L (.int x :: .ref a :: st) (Wd mu la ro et) = Rr X d MMo_start 10 L st (Wd (up2 mu a 8 x) la ro et) := R_pfI d_MMo_start_7 ff_5_41 hq
theorem r_MMo_start_10 {l1 l2 l3 l4 : Value} {x : Nat} : Rr X d MMo_start 10 [.ref x, l1, l2, l3, l4] st h = Rr X d MMo_start 11 [.ref x, l1, l2, l3, l4] (.ref x :: st) h := Rr_nx d_MMo_start_10 rfl
theorem r_MMo_start_11 {l0 l1 l2 l4 : Value} {x : Int32} : Rr X d MMo_start 11 [l0, l1, l2, .int x, l4] st h = Rr X d MMo_start 12 [l0, l1, l2, .int x, l4] (.int x :: st) h := Rr_nx d_MMo_start_11 rfl
theorem ff_5_44 : fF 5 44 = some (5, 9, 0, 0) := rfl
theorem r_MMo_start_12 {a : Nat} {x : Int32} (hq : qI a 5 9 = true) : Rr X d MMo_start 12 L (.int x :: .ref a :: st) (Wd mu la ro et) = Rr X d MMo_start 15 L st (Wd (up2 mu a 9 x) la ro et) := R_pfI d_MMo_start_12 ff_5_44 hq
theorem r_MMo_start_15 {l1 l2 l3 l4 : Value} {x : Nat} : Rr X d MMo_start 15 [.ref x, l1, l2, l3, l4] st h = Rr X d MMo_start 16 [.ref x, l1, l2, l3, l4] (.ref x :: st) h := Rr_nx d_MMo_start_15 rfl
theorem r_MMo_start_16 {l0 l1 l2 l3 : Value} {x : Int32} : Rr X d MMo_start 16 [l0, l1, l2, l3, .int x] st h = Rr X d MMo_start 18 [l0, l1, l2, l3, .int x] (.int x :: st) h := Rr_nx d_MMo_start_16 rfl
theorem ff_5_47 : fF 5 47 = some (5, 10, 0, 0) := rfl
theorem r_MMo_start_18 {a : Nat} {x : Int32} (hq : qI a 5 10 = true) : Rr X d MMo_start 18 L (.int x :: .ref a :: st) (Wd mu la ro et) = Rr X d MMo_start 21 L st (Wd (up2 mu a 10 x) la ro et) := R_pfI d_MMo_start_18 ff_5_47 hq
theorem r_MMo_start_21 {l1 l2 l3 l4 : Value} {x : Nat} : Rr X d MMo_start 21 [.ref x, l1, l2, l3, l4] st h = Rr X d MMo_start 22 [.ref x, l1, l2, l3, l4] (.ref x :: st) h := Rr_nx d_MMo_start_21 rfl
theorem r_MMo_start_22 {l1 l2 l3 l4 : Value} {x : Nat} : Rr X d MMo_start 22 [.ref x, l1, l2, l3, l4] st h = Rr X d MMo_start 23 [.ref x, l1, l2, l3, l4] (.ref x :: st) h := Rr_nx d_MMo_start_22 rfl
theorem r_MMo_start_23 {a : Nat} (hq : qI a 5 7 = true) : Rr X d MMo_start 23 L (.ref a :: st) (Wd mu la ro et) = Rr X d MMo_start 26 L (.int (mu a 7) :: st) (Wd mu la ro et) := R_gfI d_MMo_start_23 ff_5_38 hq
theorem fc_5_50 : fC 5 50 = some (1, 0, 1, MIn_signum) := rfl
theorem r_MMo_start_26 {y0 : Int32} (hc : ckS st = true) : Rr X (d + 1) MMo_start 26 L (.int y0 :: st) h = (Rr X d MIn_signum 0 [.int y0] [] h).bind fun q => Rr X (d + 1) MMo_start 29 L (psh q.1 st) q.2 := R_is (av := [.int y0]) d_MMo_start_26 (Or.inl fc_5_50) (ckS_le hc) rfl (Nat.le_of_ble_eq_true rfl) (Nat.le_of_ble_eq_true rfl)
theorem ff_5_55 : fF 5 55 = some (5, 11, 0, 0) := rfl
theorem r_MMo_start_29 {a : Nat} {x : Int32} (hq : qI a 5 11 = true) : Rr X d MMo_start 29 L (.int x :: .ref a :: st) (Wd mu la ro et) = Rr X d MMo_start 32 L st (Wd (up2 mu a 11 x) la ro et) := R_pfI d_MMo_start_29 ff_5_55 hq
theorem r_MMo_start_32 {l1 l2 l3 l4 : Value} {x : Nat} : Rr X d MMo_start 32 [.ref x, l1, l2, l3, l4] st h = Rr X d MMo_start 33 [.ref x, l1, l2, l3, l4] (.ref x :: st) h := Rr_nx d_MMo_start_32 rfl
theorem r_MMo_start_33 : Rr X d MMo_start 33 L st h = Rr X d MMo_start 34 L (.int (0) :: st) h := Rr_nx d_MMo_start_33 rfl
theorem ff_5_58 : fF 5 58 = some (5, 12, 0, 0) := rfl
theorem r_MMo_start_34 {a : Nat} {x : Int32} (hq : qI a 5 12 = true) : Rr X d MMo_start 34 L (.int x :: .ref a :: st) (Wd mu la ro et) = Rr X d MMo_start 37 L st (Wd (up2 mu a 12 x) la ro et) := R_pfI d_MMo_start_34 ff_5_58 hq
theorem r_MMo_start_37 {l1 l2 l3 l4 : Value} {x : Nat} : Rr X d MMo_start 37 [.ref x, l1, l2, l3, l4] st h = Rr X d MMo_start 38 [.ref x, l1, l2, l3, l4] (.ref x :: st) h := Rr_nx d_MMo_start_37 rfl
theorem r_MMo_start_38 : Rr X d MMo_start 38 L st h = Rr X d MMo_start 39 L (.int (0) :: st) h := Rr_nx d_MMo_start_38 rfl
theorem ff_5_61 : fF 5 61 = some (5, 13, 0, 0) := rfl
theorem r_MMo_start_39 {a : Nat} {x : Int32} (hq : qI a 5 13 = true) : Rr X d MMo_start 39 L (.int x :: .ref a :: st) (Wd mu la ro et) = Rr X d MMo_start 42 L st (Wd (up2 mu a 13 x) la ro et) := R_pfI d_MMo_start_39 ff_5_61 hq
theorem r_MMo_start_42 {l1 l2 l3 l4 : Value} {x : Nat} : Rr X d MMo_start 42 [.ref x, l1, l2, l3, l4] st h = Rr X d MMo_start 43 [.ref x, l1, l2, l3, l4] (.ref x :: st) h := Rr_nx d_MMo_start_42 rfl
theorem r_MMo_start_43 : Rr X d MMo_start 43 L st h = Rr X d MMo_start 44 L (.int (0) :: st) h := Rr_nx d_MMo_start_43 rfl
theorem ff_5_64 : fF 5 64 = some (5, 14, 0, 0) := rfl
theorem r_MMo_start_44 {a : Nat} {x : Int32} (hq : qI a 5 14 = true) : Rr X d MMo_start 44 L (.int x :: .ref a :: st) (Wd mu la ro et) = Rr X d MMo_start 47 L st (Wd (up2 mu a 14 x) la ro et) := R_pfI d_MMo_start_44 ff_5_64 hq
theorem r_MMo_start_47 {l1 l2 l3 l4 : Value} {x : Nat} : Rr X d MMo_start 47 [.ref x, l1, l2, l3, l4] st h = Rr X d MMo_start 48 [.ref x, l1, l2, l3, l4] (.ref x :: st) h := Rr_nx d_MMo_start_47 rfl
theorem r_MMo_start_48 : Rr X d MMo_start 48 L st h = Rr X d MMo_start 49 L (.int (0) :: st) h := Rr_nx d_MMo_start_48 rfl
theorem ff_5_67 : fF 5 67 = some (5, 15, 0, 0) := rfl
theorem r_MMo_start_49 {a : Nat} {x : Int32} (hq : qI a 5 15 = true) : Rr X d MMo_start 49 L (.int x :: .ref a :: st) (Wd mu la ro et) = Rr X d MMo_start 52 L st (Wd (up2 mu a 15 x) la ro et) := R_pfI d_MMo_start_49 ff_5_67 hq
theorem r_MMo_start_52 {l1 l2 l3 l4 : Value} {x : Nat} : Rr X d MMo_start 52 [.ref x, l1, l2, l3, l4] st h = Rr X d MMo_start 53 [.ref x, l1, l2, l3, l4] (.ref x :: st) h := Rr_nx d_MMo_start_52 rfl
theorem r_MMo_start_53 : Rr X d MMo_start 53 L st h = Rr X d MMo_start 54 L (.int (0) :: st) h := Rr_nx d_MMo_start_53 rfl
theorem ff_5_70 : fF 5 70 = some (5, 16, 0, 0) := rfl
theorem r_MMo_start_54 {a : Nat} {x : Int32} (hq : qI a 5 16 = true) : Rr X d MMo_start 54 L (.int x :: .ref a :: st) (Wd mu la ro et) = Rr X d MMo_start 57 L st (Wd (up2 mu a 16 x) la ro et) := R_pfI d_MMo_start_54 ff_5_70 hq
theorem r_MMo_start_57 : Rr X d MMo_start 57 L [] h = some (none, h) := Rr_rt d_MMo_start_57 rfl
theorem d_MMo_step_0 : decode MMo_step.2.2.1 0 = .ok (.aload_n 0, 1) := lkT_ok tk_MMo_step rfl
theorem d_MMo_step_1 : decode MMo_step.2.2.1 1 = .ok (.dup, 1) := lkT_ok tk_MMo_step rfl
theorem d_MMo_step_2 : decode MMo_step.2.2.1 2 = .ok (.getfield 47, 3) := lkT_ok tk_MMo_step rfl
theorem d_MMo_step_5 : decode MMo_step.2.2.1 5 = .ok (.iconst 1, 1) := lkT_ok tk_MMo_step rfl
theorem d_MMo_step_6 : decode MMo_step.2.2.1 6 = .ok (.iadd, 1) := lkT_ok tk_MMo_step rfl
theorem d_MMo_step_7 : decode MMo_step.2.2.1 7 = .ok (.putfield 47, 3) := lkT_ok tk_MMo_step rfl
theorem d_MMo_step_10 : decode MMo_step.2.2.1 10 = .ok (.aload_n 0, 1) := lkT_ok tk_MMo_step rfl
theorem d_MMo_step_11 : decode MMo_step.2.2.1 11 = .ok (.invokevirtual 76, 3) := lkT_ok tk_MMo_step rfl
theorem d_MMo_step_14 : decode MMo_step.2.2.1 14 = .ok (.aload_n 0, 1) := lkT_ok tk_MMo_step rfl
theorem d_MMo_step_15 : decode MMo_step.2.2.1 15 = .ok (.invokevirtual 79, 3) := lkT_ok tk_MMo_step rfl
theorem d_MMo_step_18 : decode MMo_step.2.2.1 18 = .ok (.aload_n 0, 1) := lkT_ok tk_MMo_step rfl
theorem d_MMo_step_19 : decode MMo_step.2.2.1 19 = .ok (.invokevirtual 82, 3) := lkT_ok tk_MMo_step rfl
theorem d_MMo_step_22 : decode MMo_step.2.2.1 22 = .ok (.aload_n 0, 1) := lkT_ok tk_MMo_step rfl
theorem d_MMo_step_23 : decode MMo_step.2.2.1 23 = .ok (.dup, 1) := lkT_ok tk_MMo_step rfl
theorem d_MMo_step_24 : decode MMo_step.2.2.1 24 = .ok (.getfield 61, 3) := lkT_ok tk_MMo_step rfl
theorem d_MMo_step_27 : decode MMo_step.2.2.1 27 = .ok (.aload_n 0, 1) := lkT_ok tk_MMo_step rfl
theorem d_MMo_step_28 : decode MMo_step.2.2.1 28 = .ok (.getfield 38, 3) := lkT_ok tk_MMo_step rfl
theorem d_MMo_step_31 : decode MMo_step.2.2.1 31 = .ok (.iadd, 1) := lkT_ok tk_MMo_step rfl
theorem d_MMo_step_32 : decode MMo_step.2.2.1 32 = .ok (.putfield 61, 3) := lkT_ok tk_MMo_step rfl
theorem d_MMo_step_35 : decode MMo_step.2.2.1 35 = .ok (.aload_n 0, 1) := lkT_ok tk_MMo_step rfl
theorem d_MMo_step_36 : decode MMo_step.2.2.1 36 = .ok (.getfield 38, 3) := lkT_ok tk_MMo_step rfl
theorem d_MMo_step_39 : decode MMo_step.2.2.1 39 = .ok (.invokestatic 50, 3) := lkT_ok tk_MMo_step rfl
theorem d_MMo_step_42 : decode MMo_step.2.2.1 42 = .ok (.istore_n 1, 1) := lkT_ok tk_MMo_step rfl
theorem d_MMo_step_43 : decode MMo_step.2.2.1 43 = .ok (.iload_n 1, 1) := lkT_ok tk_MMo_step rfl
theorem d_MMo_step_44 : decode MMo_step.2.2.1 44 = .ok (.ifCond .eq 27, 3) := lkT_ok tk_MMo_step rfl
theorem d_MMo_step_47 : decode MMo_step.2.2.1 47 = .ok (.iload_n 1, 1) := lkT_ok tk_MMo_step rfl
theorem d_MMo_step_48 : decode MMo_step.2.2.1 48 = .ok (.aload_n 0, 1) := lkT_ok tk_MMo_step rfl
theorem d_MMo_step_49 : decode MMo_step.2.2.1 49 = .ok (.getfield 55, 3) := lkT_ok tk_MMo_step rfl
theorem d_MMo_step_52 : decode MMo_step.2.2.1 52 = .ok (.ineg, 1) := lkT_ok tk_MMo_step rfl
theorem d_MMo_step_53 : decode MMo_step.2.2.1 53 = .ok (.if_icmp .ne 13, 3) := lkT_ok tk_MMo_step rfl
theorem d_MMo_step_56 : decode MMo_step.2.2.1 56 = .ok (.aload_n 0, 1) := lkT_ok tk_MMo_step rfl
theorem d_MMo_step_57 : decode MMo_step.2.2.1 57 = .ok (.dup, 1) := lkT_ok tk_MMo_step rfl
theorem d_MMo_step_58 : decode MMo_step.2.2.1 58 = .ok (.getfield 58, 3) := lkT_ok tk_MMo_step rfl
theorem d_MMo_step_61 : decode MMo_step.2.2.1 61 = .ok (.iconst 1, 1) := lkT_ok tk_MMo_step rfl
theorem d_MMo_step_62 : decode MMo_step.2.2.1 62 = .ok (.iadd, 1) := lkT_ok tk_MMo_step rfl
theorem d_MMo_step_63 : decode MMo_step.2.2.1 63 = .ok (.putfield 58, 3) := lkT_ok tk_MMo_step rfl
theorem d_MMo_step_66 : decode MMo_step.2.2.1 66 = .ok (.aload_n 0, 1) := lkT_ok tk_MMo_step rfl
theorem d_MMo_step_67 : decode MMo_step.2.2.1 67 = .ok (.iload_n 1, 1) := lkT_ok tk_MMo_step rfl
theorem d_MMo_step_68 : decode MMo_step.2.2.1 68 = .ok (.putfield 55, 3) := lkT_ok tk_MMo_step rfl
theorem d_MMo_step_71 : decode MMo_step.2.2.1 71 = .ok (.return_, 1) := lkT_ok tk_MMo_step rfl
theorem r_MMo_step_0 {l1 : Value} {x : Nat} : Rr X d MMo_step 0 [.ref x, l1] st h = Rr X d MMo_step 1 [.ref x, l1] (.ref x :: st) h := Rr_nx d_MMo_step_0 rfl
theorem r_MMo_step_1 {x : Nat} : Rr X d MMo_step 1 L (.ref x :: st) h = Rr X d MMo_step 2 L (.ref x :: .ref x :: st) h := Rr_nx d_MMo_step_1 rfl
theorem r_MMo_step_1i {x : Int32} : Rr X d MMo_step 1 L (.int x :: st) h = Rr X d MMo_step 2 L (.int x :: .int x :: st) h := Rr_nx d_MMo_step_1 rfl
theorem r_MMo_step_2 {a : Nat} (hq : qI a 5 10 = true) : Rr X d MMo_step 2 L (.ref a :: st) (Wd mu la ro et) = Rr X d MMo_step 5 L (.int (mu a 10) :: st) (Wd mu la ro et) := R_gfI d_MMo_step_2 ff_5_47 hq
theorem r_MMo_step_5 : Rr X d MMo_step 5 L st h = Rr X d MMo_step 6 L (.int (1) :: st) h := Rr_nx d_MMo_step_5 rfl
theorem r_MMo_step_6 {x y : Int32} : Rr X d MMo_step 6 L (.int y :: .int x :: st) h = Rr X d MMo_step 7 L (.int (x + y) :: st) h := Rr_nx d_MMo_step_6 rfl
theorem r_MMo_step_7 {a : Nat} {x : Int32} (hq : qI a 5 10 = true) : Rr X d MMo_step 7 L (.int x :: .ref a :: st) (Wd mu la ro et) = Rr X d MMo_step 10 L st (Wd (up2 mu a 10 x) la ro et) := R_pfI d_MMo_step_7 ff_5_47 hq
theorem r_MMo_step_10 {l1 : Value} {x : Nat} : Rr X d MMo_step 10 [.ref x, l1] st h = Rr X d MMo_step 11 [.ref x, l1] (.ref x :: st) h := Rr_nx d_MMo_step_10 rfl
theorem fc_5_76 : fC 5 76 = some (0, 5, 0, MMo_growRattle) := rfl
theorem r_MMo_step_11 {a : Nat} (hO : qO a 5 = true) (hc : ckS st = true) : Rr X (d + 1) MMo_step 11 L (.ref a :: st) (Wd mu la ro et) = (Rr X d MMo_growRattle 0 [.ref a, mkU, mkU] [] (Wd mu la ro et)).bind fun q => Rr X (d + 1) MMo_step 14 L (psh q.1 st) q.2 := R_iv (av := []) d_MMo_step_11 fc_5_76 hO (ckS_le hc) rfl (Nat.le_of_ble_eq_true rfl) (Nat.le_of_ble_eq_true rfl)
theorem r_MMo_step_14 {l1 : Value} {x : Nat} : Rr X d MMo_step 14 [.ref x, l1] st h = Rr X d MMo_step 15 [.ref x, l1] (.ref x :: st) h := Rr_nx d_MMo_step_14 rfl
theorem fc_5_79 : fC 5 79 = some (0, 5, 0, MMo_pushTurn) := rfl
theorem r_MMo_step_15 {a : Nat} (hO : qO a 5 = true) (hc : ckS st = true) : Rr X (d + 1) MMo_step 15 L (.ref a :: st) (Wd mu la ro et) = (Rr X d MMo_pushTurn 0 [.ref a, mkU, mkU, mkU] [] (Wd mu la ro et)).bind fun q => Rr X (d + 1) MMo_step 18 L (psh q.1 st) q.2 := R_iv (av := []) d_MMo_step_15 fc_5_79 hO (ckS_le hc) rfl (Nat.le_of_ble_eq_true rfl) (Nat.le_of_ble_eq_true rfl)
theorem r_MMo_step_18 {l1 : Value} {x : Nat} : Rr X d MMo_step 18 [.ref x, l1] st h = Rr X d MMo_step 19 [.ref x, l1] (.ref x :: st) h := Rr_nx d_MMo_step_18 rfl
theorem fc_5_82 : fC 5 82 = some (0, 5, 0, MMo_lose) := rfl
theorem r_MMo_step_19 {a : Nat} (hO : qO a 5 = true) (hc : ckS st = true) : Rr X (d + 1) MMo_step 19 L (.ref a :: st) (Wd mu la ro et) = (Rr X d MMo_lose 0 [.ref a, mkU, mkU, mkU] [] (Wd mu la ro et)).bind fun q => Rr X (d + 1) MMo_step 22 L (psh q.1 st) q.2 := R_iv (av := []) d_MMo_step_19 fc_5_82 hO (ckS_le hc) rfl (Nat.le_of_ble_eq_true rfl) (Nat.le_of_ble_eq_true rfl)
theorem r_MMo_step_22 {l1 : Value} {x : Nat} : Rr X d MMo_step 22 [.ref x, l1] st h = Rr X d MMo_step 23 [.ref x, l1] (.ref x :: st) h := Rr_nx d_MMo_step_22 rfl
theorem r_MMo_step_23 {x : Nat} : Rr X d MMo_step 23 L (.ref x :: st) h = Rr X d MMo_step 24 L (.ref x :: .ref x :: st) h := Rr_nx d_MMo_step_23 rfl
theorem r_MMo_step_23i {x : Int32} : Rr X d MMo_step 23 L (.int x :: st) h = Rr X d MMo_step 24 L (.int x :: .int x :: st) h := Rr_nx d_MMo_step_23 rfl
theorem r_MMo_step_24 {a : Nat} (hq : qI a 5 13 = true) : Rr X d MMo_step 24 L (.ref a :: st) (Wd mu la ro et) = Rr X d MMo_step 27 L (.int (mu a 13) :: st) (Wd mu la ro et) := R_gfI d_MMo_step_24 ff_5_61 hq
theorem r_MMo_step_27 {l1 : Value} {x : Nat} : Rr X d MMo_step 27 [.ref x, l1] st h = Rr X d MMo_step 28 [.ref x, l1] (.ref x :: st) h := Rr_nx d_MMo_step_27 rfl
theorem r_MMo_step_28 {a : Nat} (hq : qI a 5 7 = true) : Rr X d MMo_step 28 L (.ref a :: st) (Wd mu la ro et) = Rr X d MMo_step 31 L (.int (mu a 7) :: st) (Wd mu la ro et) := R_gfI d_MMo_step_28 ff_5_38 hq
theorem r_MMo_step_31 {x y : Int32} : Rr X d MMo_step 31 L (.int y :: .int x :: st) h = Rr X d MMo_step 32 L (.int (x + y) :: st) h := Rr_nx d_MMo_step_31 rfl
theorem r_MMo_step_32 {a : Nat} {x : Int32} (hq : qI a 5 13 = true) : Rr X d MMo_step 32 L (.int x :: .ref a :: st) (Wd mu la ro et) = Rr X d MMo_step 35 L st (Wd (up2 mu a 13 x) la ro et) := R_pfI d_MMo_step_32 ff_5_61 hq
theorem r_MMo_step_35 {l1 : Value} {x : Nat} : Rr X d MMo_step 35 [.ref x, l1] st h = Rr X d MMo_step 36 [.ref x, l1] (.ref x :: st) h := Rr_nx d_MMo_step_35 rfl
theorem r_MMo_step_36 {a : Nat} (hq : qI a 5 7 = true) : Rr X d MMo_step 36 L (.ref a :: st) (Wd mu la ro et) = Rr X d MMo_step 39 L (.int (mu a 7) :: st) (Wd mu la ro et) := R_gfI d_MMo_step_36 ff_5_38 hq
theorem r_MMo_step_39 {y0 : Int32} (hc : ckS st = true) : Rr X (d + 1) MMo_step 39 L (.int y0 :: st) h = (Rr X d MIn_signum 0 [.int y0] [] h).bind fun q => Rr X (d + 1) MMo_step 42 L (psh q.1 st) q.2 := R_is (av := [.int y0]) d_MMo_step_39 (Or.inl fc_5_50) (ckS_le hc) rfl (Nat.le_of_ble_eq_true rfl) (Nat.le_of_ble_eq_true rfl)
theorem r_MMo_step_42 {l0 l1 : Value} {x : Int32} : Rr X d MMo_step 42 [l0, l1] (.int x :: st) h = Rr X d MMo_step 43 (sL [l0, l1] 1 (.int x)) st h := Rr_nx d_MMo_step_42 rfl
theorem r_MMo_step_43 {l0 : Value} {x : Int32} : Rr X d MMo_step 43 [l0, .int x] st h = Rr X d MMo_step 44 [l0, .int x] (.int x :: st) h := Rr_nx d_MMo_step_43 rfl
theorem r_MMo_step_44 {x : Int32} : Rr X d MMo_step 44 L (.int x :: st) h = if x = 0 then Rr X d MMo_step 71 L st h else Rr X d MMo_step 47 L st h := R_if_eq d_MMo_step_44 (by decide)
theorem r_MMo_step_47 {l0 : Value} {x : Int32} : Rr X d MMo_step 47 [l0, .int x] st h = Rr X d MMo_step 48 [l0, .int x] (.int x :: st) h := Rr_nx d_MMo_step_47 rfl
theorem r_MMo_step_48 {l1 : Value} {x : Nat} : Rr X d MMo_step 48 [.ref x, l1] st h = Rr X d MMo_step 49 [.ref x, l1] (.ref x :: st) h := Rr_nx d_MMo_step_48 rfl
theorem r_MMo_step_49 {a : Nat} (hq : qI a 5 11 = true) : Rr X d MMo_step 49 L (.ref a :: st) (Wd mu la ro et) = Rr X d MMo_step 52 L (.int (mu a 11) :: st) (Wd mu la ro et) := R_gfI d_MMo_step_49 ff_5_55 hq
theorem r_MMo_step_52 {x : Int32} : Rr X d MMo_step 52 L (.int x :: st) h = Rr X d MMo_step 53 L (.int (-x) :: st) h := Rr_nx d_MMo_step_52 rfl
theorem r_MMo_step_53 {x y : Int32} : Rr X d MMo_step 53 L (.int y :: .int x :: st) h = if ¬ x = y then Rr X d MMo_step 66 L st h else Rr X d MMo_step 56 L st h := R_ic_ne d_MMo_step_53 (by decide)
theorem r_MMo_step_56 {l1 : Value} {x : Nat} : Rr X d MMo_step 56 [.ref x, l1] st h = Rr X d MMo_step 57 [.ref x, l1] (.ref x :: st) h := Rr_nx d_MMo_step_56 rfl
theorem r_MMo_step_57 {x : Nat} : Rr X d MMo_step 57 L (.ref x :: st) h = Rr X d MMo_step 58 L (.ref x :: .ref x :: st) h := Rr_nx d_MMo_step_57 rfl
theorem r_MMo_step_57i {x : Int32} : Rr X d MMo_step 57 L (.int x :: st) h = Rr X d MMo_step 58 L (.int x :: .int x :: st) h := Rr_nx d_MMo_step_57 rfl
theorem r_MMo_step_58 {a : Nat} (hq : qI a 5 12 = true) : Rr X d MMo_step 58 L (.ref a :: st) (Wd mu la ro et) = Rr X d MMo_step 61 L (.int (mu a 12) :: st) (Wd mu la ro et) := R_gfI d_MMo_step_58 ff_5_58 hq
theorem r_MMo_step_61 : Rr X d MMo_step 61 L st h = Rr X d MMo_step 62 L (.int (1) :: st) h := Rr_nx d_MMo_step_61 rfl
theorem r_MMo_step_62 {x y : Int32} : Rr X d MMo_step 62 L (.int y :: .int x :: st) h = Rr X d MMo_step 63 L (.int (x + y) :: st) h := Rr_nx d_MMo_step_62 rfl
theorem r_MMo_step_63 {a : Nat} {x : Int32} (hq : qI a 5 12 = true) : Rr X d MMo_step 63 L (.int x :: .ref a :: st) (Wd mu la ro et) = Rr X d MMo_step 66 L st (Wd (up2 mu a 12 x) la ro et) := R_pfI d_MMo_step_63 ff_5_58 hq
theorem r_MMo_step_66 {l1 : Value} {x : Nat} : Rr X d MMo_step 66 [.ref x, l1] st h = Rr X d MMo_step 67 [.ref x, l1] (.ref x :: st) h := Rr_nx d_MMo_step_66 rfl
theorem r_MMo_step_67 {l0 : Value} {x : Int32} : Rr X d MMo_step 67 [l0, .int x] st h = Rr X d MMo_step 68 [l0, .int x] (.int x :: st) h := Rr_nx d_MMo_step_67 rfl
theorem r_MMo_step_68 {a : Nat} {x : Int32} (hq : qI a 5 11 = true) : Rr X d MMo_step 68 L (.int x :: .ref a :: st) (Wd mu la ro et) = Rr X d MMo_step 71 L st (Wd (up2 mu a 11 x) la ro et) := R_pfI d_MMo_step_68 ff_5_55 hq
theorem r_MMo_step_71 : Rr X d MMo_step 71 L [] h = some (none, h) := Rr_rt d_MMo_step_71 rfl
theorem d_MMo_growRattle_0 : decode MMo_growRattle.2.2.1 0 = .ok (.aload_n 0, 1) := lkT_ok tk_MMo_growRattle rfl
theorem d_MMo_growRattle_1 : decode MMo_growRattle.2.2.1 1 = .ok (.getfield 38, 3) := lkT_ok tk_MMo_growRattle rfl
theorem d_MMo_growRattle_4 : decode MMo_growRattle.2.2.1 4 = .ok (.aload_n 0, 1) := lkT_ok tk_MMo_growRattle rfl
theorem d_MMo_growRattle_5 : decode MMo_growRattle.2.2.1 5 = .ok (.getfield 7, 3) := lkT_ok tk_MMo_growRattle rfl
theorem d_MMo_growRattle_8 : decode MMo_growRattle.2.2.1 8 = .ok (.imul, 1) := lkT_ok tk_MMo_growRattle rfl
theorem d_MMo_growRattle_9 : decode MMo_growRattle.2.2.1 9 = .ok (.istore_n 1, 1) := lkT_ok tk_MMo_growRattle rfl
theorem d_MMo_growRattle_10 : decode MMo_growRattle.2.2.1 10 = .ok (.iload_n 1, 1) := lkT_ok tk_MMo_growRattle rfl
theorem d_MMo_growRattle_11 : decode MMo_growRattle.2.2.1 11 = .ok (.ifCond .le 45, 3) := lkT_ok tk_MMo_growRattle rfl
theorem d_MMo_growRattle_14 : decode MMo_growRattle.2.2.1 14 = .ok (.aload_n 0, 1) := lkT_ok tk_MMo_growRattle rfl
theorem d_MMo_growRattle_15 : decode MMo_growRattle.2.2.1 15 = .ok (.aload_n 0, 1) := lkT_ok tk_MMo_growRattle rfl
theorem d_MMo_growRattle_16 : decode MMo_growRattle.2.2.1 16 = .ok (.getfield 41, 3) := lkT_ok tk_MMo_growRattle rfl
theorem d_MMo_growRattle_19 : decode MMo_growRattle.2.2.1 19 = .ok (.iload_n 1, 1) := lkT_ok tk_MMo_growRattle rfl
theorem d_MMo_growRattle_20 : decode MMo_growRattle.2.2.1 20 = .ok (.aload_n 0, 1) := lkT_ok tk_MMo_growRattle rfl
theorem d_MMo_growRattle_21 : decode MMo_growRattle.2.2.1 21 = .ok (.getfield 19, 3) := lkT_ok tk_MMo_growRattle rfl
theorem d_MMo_growRattle_24 : decode MMo_growRattle.2.2.1 24 = .ok (.invokevirtual 85, 3) := lkT_ok tk_MMo_growRattle rfl
theorem d_MMo_growRattle_27 : decode MMo_growRattle.2.2.1 27 = .ok (.istore_n 2, 1) := lkT_ok tk_MMo_growRattle rfl
theorem d_MMo_growRattle_28 : decode MMo_growRattle.2.2.1 28 = .ok (.aload_n 0, 1) := lkT_ok tk_MMo_growRattle rfl
theorem d_MMo_growRattle_29 : decode MMo_growRattle.2.2.1 29 = .ok (.aload_n 0, 1) := lkT_ok tk_MMo_growRattle rfl
theorem d_MMo_growRattle_30 : decode MMo_growRattle.2.2.1 30 = .ok (.getfield 41, 3) := lkT_ok tk_MMo_growRattle rfl
theorem d_MMo_growRattle_33 : decode MMo_growRattle.2.2.1 33 = .ok (.iload_n 2, 1) := lkT_ok tk_MMo_growRattle rfl
theorem d_MMo_growRattle_34 : decode MMo_growRattle.2.2.1 34 = .ok (.iadd, 1) := lkT_ok tk_MMo_growRattle rfl
theorem d_MMo_growRattle_35 : decode MMo_growRattle.2.2.1 35 = .ok (.invokestatic 89, 3) := lkT_ok tk_MMo_growRattle rfl
theorem d_MMo_growRattle_38 : decode MMo_growRattle.2.2.1 38 = .ok (.putfield 41, 3) := lkT_ok tk_MMo_growRattle rfl
theorem d_MMo_growRattle_41 : decode MMo_growRattle.2.2.1 41 = .ok (.aload_n 0, 1) := lkT_ok tk_MMo_growRattle rfl
theorem d_MMo_growRattle_42 : decode MMo_growRattle.2.2.1 42 = .ok (.aload_n 0, 1) := lkT_ok tk_MMo_growRattle rfl
theorem d_MMo_growRattle_43 : decode MMo_growRattle.2.2.1 43 = .ok (.getfield 38, 3) := lkT_ok tk_MMo_growRattle rfl
theorem d_MMo_growRattle_46 : decode MMo_growRattle.2.2.1 46 = .ok (.iload_n 2, 1) := lkT_ok tk_MMo_growRattle rfl
theorem d_MMo_growRattle_47 : decode MMo_growRattle.2.2.1 47 = .ok (.invokestatic 92, 3) := lkT_ok tk_MMo_growRattle rfl
theorem d_MMo_growRattle_50 : decode MMo_growRattle.2.2.1 50 = .ok (.putfield 38, 3) := lkT_ok tk_MMo_growRattle rfl
theorem d_MMo_growRattle_53 : decode MMo_growRattle.2.2.1 53 = .ok (.goto 47, 3) := lkT_ok tk_MMo_growRattle rfl
theorem d_MMo_growRattle_56 : decode MMo_growRattle.2.2.1 56 = .ok (.iload_n 1, 1) := lkT_ok tk_MMo_growRattle rfl
theorem d_MMo_growRattle_57 : decode MMo_growRattle.2.2.1 57 = .ok (.ifCond .ge 43, 3) := lkT_ok tk_MMo_growRattle rfl
theorem d_MMo_growRattle_60 : decode MMo_growRattle.2.2.1 60 = .ok (.aload_n 0, 1) := lkT_ok tk_MMo_growRattle rfl
theorem d_MMo_growRattle_61 : decode MMo_growRattle.2.2.1 61 = .ok (.aload_n 0, 1) := lkT_ok tk_MMo_growRattle rfl
theorem d_MMo_growRattle_62 : decode MMo_growRattle.2.2.1 62 = .ok (.getfield 44, 3) := lkT_ok tk_MMo_growRattle rfl
theorem d_MMo_growRattle_65 : decode MMo_growRattle.2.2.1 65 = .ok (.iload_n 1, 1) := lkT_ok tk_MMo_growRattle rfl
theorem d_MMo_growRattle_66 : decode MMo_growRattle.2.2.1 66 = .ok (.ineg, 1) := lkT_ok tk_MMo_growRattle rfl
theorem d_MMo_growRattle_67 : decode MMo_growRattle.2.2.1 67 = .ok (.aload_n 0, 1) := lkT_ok tk_MMo_growRattle rfl
theorem d_MMo_growRattle_68 : decode MMo_growRattle.2.2.1 68 = .ok (.getfield 22, 3) := lkT_ok tk_MMo_growRattle rfl
theorem d_MMo_growRattle_71 : decode MMo_growRattle.2.2.1 71 = .ok (.invokevirtual 85, 3) := lkT_ok tk_MMo_growRattle rfl
theorem d_MMo_growRattle_74 : decode MMo_growRattle.2.2.1 74 = .ok (.istore_n 2, 1) := lkT_ok tk_MMo_growRattle rfl
theorem d_MMo_growRattle_75 : decode MMo_growRattle.2.2.1 75 = .ok (.aload_n 0, 1) := lkT_ok tk_MMo_growRattle rfl
theorem d_MMo_growRattle_76 : decode MMo_growRattle.2.2.1 76 = .ok (.aload_n 0, 1) := lkT_ok tk_MMo_growRattle rfl
theorem d_MMo_growRattle_77 : decode MMo_growRattle.2.2.1 77 = .ok (.getfield 44, 3) := lkT_ok tk_MMo_growRattle rfl
theorem d_MMo_growRattle_80 : decode MMo_growRattle.2.2.1 80 = .ok (.iload_n 2, 1) := lkT_ok tk_MMo_growRattle rfl
theorem d_MMo_growRattle_81 : decode MMo_growRattle.2.2.1 81 = .ok (.iadd, 1) := lkT_ok tk_MMo_growRattle rfl
theorem d_MMo_growRattle_82 : decode MMo_growRattle.2.2.1 82 = .ok (.invokestatic 89, 3) := lkT_ok tk_MMo_growRattle rfl
theorem d_MMo_growRattle_85 : decode MMo_growRattle.2.2.1 85 = .ok (.putfield 44, 3) := lkT_ok tk_MMo_growRattle rfl
theorem d_MMo_growRattle_88 : decode MMo_growRattle.2.2.1 88 = .ok (.aload_n 0, 1) := lkT_ok tk_MMo_growRattle rfl
theorem d_MMo_growRattle_89 : decode MMo_growRattle.2.2.1 89 = .ok (.aload_n 0, 1) := lkT_ok tk_MMo_growRattle rfl
theorem d_MMo_growRattle_90 : decode MMo_growRattle.2.2.1 90 = .ok (.getfield 38, 3) := lkT_ok tk_MMo_growRattle rfl
theorem d_MMo_growRattle_93 : decode MMo_growRattle.2.2.1 93 = .ok (.iload_n 2, 1) := lkT_ok tk_MMo_growRattle rfl
theorem d_MMo_growRattle_94 : decode MMo_growRattle.2.2.1 94 = .ok (.invokestatic 92, 3) := lkT_ok tk_MMo_growRattle rfl
theorem d_MMo_growRattle_97 : decode MMo_growRattle.2.2.1 97 = .ok (.putfield 38, 3) := lkT_ok tk_MMo_growRattle rfl
theorem d_MMo_growRattle_100 : decode MMo_growRattle.2.2.1 100 = .ok (.return_, 1) := lkT_ok tk_MMo_growRattle rfl
theorem r_MMo_growRattle_0 {l1 l2 : Value} {x : Nat} : Rr X d MMo_growRattle 0 [.ref x, l1, l2] st h = Rr X d MMo_growRattle 1 [.ref x, l1, l2] (.ref x :: st) h := Rr_nx d_MMo_growRattle_0 rfl
theorem r_MMo_growRattle_1 {a : Nat} (hq : qI a 5 7 = true) : Rr X d MMo_growRattle 1 L (.ref a :: st) (Wd mu la ro et) = Rr X d MMo_growRattle 4 L (.int (mu a 7) :: st) (Wd mu la ro et) := R_gfI d_MMo_growRattle_1 ff_5_38 hq
theorem r_MMo_growRattle_4 {l1 l2 : Value} {x : Nat} : Rr X d MMo_growRattle 4 [.ref x, l1, l2] st h = Rr X d MMo_growRattle 5 [.ref x, l1, l2] (.ref x :: st) h := Rr_nx d_MMo_growRattle_4 rfl
theorem r_MMo_growRattle_5 {a : Nat} (hq : qI a 5 0 = true) : Rr X d MMo_growRattle 5 L (.ref a :: st) (Wd mu la ro et) = Rr X d MMo_growRattle 8 L (.int (mu a 0) :: st) (Wd mu la ro et) := R_gfI d_MMo_growRattle_5 ff_5_7 hq
theorem r_MMo_growRattle_8 {x y : Int32} : Rr X d MMo_growRattle 8 L (.int y :: .int x :: st) h = Rr X d MMo_growRattle 9 L (.int (x * y) :: st) h := Rr_nx d_MMo_growRattle_8 rfl
theorem r_MMo_growRattle_9 {l0 l1 l2 : Value} {x : Int32} : Rr X d MMo_growRattle 9 [l0, l1, l2] (.int x :: st) h = Rr X d MMo_growRattle 10 (sL [l0, l1, l2] 1 (.int x)) st h := Rr_nx d_MMo_growRattle_9 rfl
theorem r_MMo_growRattle_10 {l0 l2 : Value} {x : Int32} : Rr X d MMo_growRattle 10 [l0, .int x, l2] st h = Rr X d MMo_growRattle 11 [l0, .int x, l2] (.int x :: st) h := Rr_nx d_MMo_growRattle_10 rfl
theorem r_MMo_growRattle_11 {x : Int32} : Rr X d MMo_growRattle 11 L (.int x :: st) h = if x ≤ 0 then Rr X d MMo_growRattle 56 L st h else Rr X d MMo_growRattle 14 L st h := R_if_le d_MMo_growRattle_11 (by decide)
theorem r_MMo_growRattle_14 {l1 l2 : Value} {x : Nat} : Rr X d MMo_growRattle 14 [.ref x, l1, l2] st h = Rr X d MMo_growRattle 15 [.ref x, l1, l2] (.ref x :: st) h := Rr_nx d_MMo_growRattle_14 rfl
theorem r_MMo_growRattle_15 {l1 l2 : Value} {x : Nat} : Rr X d MMo_growRattle 15 [.ref x, l1, l2] st h = Rr X d MMo_growRattle 16 [.ref x, l1, l2] (.ref x :: st) h := Rr_nx d_MMo_growRattle_15 rfl
theorem r_MMo_growRattle_16 {a : Nat} (hq : qI a 5 8 = true) : Rr X d MMo_growRattle 16 L (.ref a :: st) (Wd mu la ro et) = Rr X d MMo_growRattle 19 L (.int (mu a 8) :: st) (Wd mu la ro et) := R_gfI d_MMo_growRattle_16 ff_5_41 hq
theorem r_MMo_growRattle_19 {l0 l2 : Value} {x : Int32} : Rr X d MMo_growRattle 19 [l0, .int x, l2] st h = Rr X d MMo_growRattle 20 [l0, .int x, l2] (.int x :: st) h := Rr_nx d_MMo_growRattle_19 rfl
theorem r_MMo_growRattle_20 {l1 l2 : Value} {x : Nat} : Rr X d MMo_growRattle 20 [.ref x, l1, l2] st h = Rr X d MMo_growRattle 21 [.ref x, l1, l2] (.ref x :: st) h := Rr_nx d_MMo_growRattle_20 rfl
theorem r_MMo_growRattle_21 {a : Nat} (hq : qI a 5 1 = true) : Rr X d MMo_growRattle 21 L (.ref a :: st) (Wd mu la ro et) = Rr X d MMo_growRattle 24 L (.int (mu a 1) :: st) (Wd mu la ro et) := R_gfI d_MMo_growRattle_21 ff_5_19 hq
theorem fc_5_85 : fC 5 85 = some (0, 5, 3, MMo_grown) := rfl
theorem r_MMo_growRattle_24 {y0 : Int32} {y1 : Int32} {y2 : Int32} {a : Nat} (hO : qO a 5 = true) (hc : ckS st = true) : Rr X (d + 1) MMo_growRattle 24 L (.int y2 :: .int y1 :: .int y0 :: .ref a :: st) (Wd mu la ro et) = (Rr X d MMo_grown 0 [.ref a, .int y0, .int y1, .int y2] [] (Wd mu la ro et)).bind fun q => Rr X (d + 1) MMo_growRattle 27 L (psh q.1 st) q.2 := R_iv (av := [.int y2, .int y1, .int y0]) d_MMo_growRattle_24 fc_5_85 hO (ckS_le hc) rfl (Nat.le_of_ble_eq_true rfl) (Nat.le_of_ble_eq_true rfl)
theorem r_MMo_growRattle_27 {l0 l1 l2 : Value} {x : Int32} : Rr X d MMo_growRattle 27 [l0, l1, l2] (.int x :: st) h = Rr X d MMo_growRattle 28 (sL [l0, l1, l2] 2 (.int x)) st h := Rr_nx d_MMo_growRattle_27 rfl
theorem r_MMo_growRattle_28 {l1 l2 : Value} {x : Nat} : Rr X d MMo_growRattle 28 [.ref x, l1, l2] st h = Rr X d MMo_growRattle 29 [.ref x, l1, l2] (.ref x :: st) h := Rr_nx d_MMo_growRattle_28 rfl
theorem r_MMo_growRattle_29 {l1 l2 : Value} {x : Nat} : Rr X d MMo_growRattle 29 [.ref x, l1, l2] st h = Rr X d MMo_growRattle 30 [.ref x, l1, l2] (.ref x :: st) h := Rr_nx d_MMo_growRattle_29 rfl
theorem r_MMo_growRattle_30 {a : Nat} (hq : qI a 5 8 = true) : Rr X d MMo_growRattle 30 L (.ref a :: st) (Wd mu la ro et) = Rr X d MMo_growRattle 33 L (.int (mu a 8) :: st) (Wd mu la ro et) := R_gfI d_MMo_growRattle_30 ff_5_41 hq
theorem r_MMo_growRattle_33 {l0 l1 : Value} {x : Int32} : Rr X d MMo_growRattle 33 [l0, l1, .int x] st h = Rr X d MMo_growRattle 34 [l0, l1, .int x] (.int x :: st) h := Rr_nx d_MMo_growRattle_33 rfl
theorem r_MMo_growRattle_34 {x y : Int32} : Rr X d MMo_growRattle 34 L (.int y :: .int x :: st) h = Rr X d MMo_growRattle 35 L (.int (x + y) :: st) h := Rr_nx d_MMo_growRattle_34 rfl
theorem fc_5_89 : fC 5 89 = some (1, 0, 1, MMo_heldRattle) := rfl
theorem r_MMo_growRattle_35 {y0 : Int32} (hc : ckS st = true) : Rr X (d + 1) MMo_growRattle 35 L (.int y0 :: st) h = (Rr X d MMo_heldRattle 0 [.int y0] [] h).bind fun q => Rr X (d + 1) MMo_growRattle 38 L (psh q.1 st) q.2 := R_is (av := [.int y0]) d_MMo_growRattle_35 (Or.inl fc_5_89) (ckS_le hc) rfl (Nat.le_of_ble_eq_true rfl) (Nat.le_of_ble_eq_true rfl)
theorem r_MMo_growRattle_38 {a : Nat} {x : Int32} (hq : qI a 5 8 = true) : Rr X d MMo_growRattle 38 L (.int x :: .ref a :: st) (Wd mu la ro et) = Rr X d MMo_growRattle 41 L st (Wd (up2 mu a 8 x) la ro et) := R_pfI d_MMo_growRattle_38 ff_5_41 hq
theorem r_MMo_growRattle_41 {l1 l2 : Value} {x : Nat} : Rr X d MMo_growRattle 41 [.ref x, l1, l2] st h = Rr X d MMo_growRattle 42 [.ref x, l1, l2] (.ref x :: st) h := Rr_nx d_MMo_growRattle_41 rfl
theorem r_MMo_growRattle_42 {l1 l2 : Value} {x : Nat} : Rr X d MMo_growRattle 42 [.ref x, l1, l2] st h = Rr X d MMo_growRattle 43 [.ref x, l1, l2] (.ref x :: st) h := Rr_nx d_MMo_growRattle_42 rfl
theorem r_MMo_growRattle_43 {a : Nat} (hq : qI a 5 7 = true) : Rr X d MMo_growRattle 43 L (.ref a :: st) (Wd mu la ro et) = Rr X d MMo_growRattle 46 L (.int (mu a 7) :: st) (Wd mu la ro et) := R_gfI d_MMo_growRattle_43 ff_5_38 hq
theorem r_MMo_growRattle_46 {l0 l1 : Value} {x : Int32} : Rr X d MMo_growRattle 46 [l0, l1, .int x] st h = Rr X d MMo_growRattle 47 [l0, l1, .int x] (.int x :: st) h := Rr_nx d_MMo_growRattle_46 rfl
theorem fc_5_92 : fC 5 92 = some (1, 0, 2, MMo_nearer) := rfl
theorem r_MMo_growRattle_47 {y0 : Int32} {y1 : Int32} (hc : ckS st = true) : Rr X (d + 1) MMo_growRattle 47 L (.int y1 :: .int y0 :: st) h = (Rr X d MMo_nearer 0 [.int y0, .int y1] [] h).bind fun q => Rr X (d + 1) MMo_growRattle 50 L (psh q.1 st) q.2 := R_is (av := [.int y1, .int y0]) d_MMo_growRattle_47 (Or.inl fc_5_92) (ckS_le hc) rfl (Nat.le_of_ble_eq_true rfl) (Nat.le_of_ble_eq_true rfl)
theorem r_MMo_growRattle_50 {a : Nat} {x : Int32} (hq : qI a 5 7 = true) : Rr X d MMo_growRattle 50 L (.int x :: .ref a :: st) (Wd mu la ro et) = Rr X d MMo_growRattle 53 L st (Wd (up2 mu a 7 x) la ro et) := R_pfI d_MMo_growRattle_50 ff_5_38 hq
theorem r_MMo_growRattle_53 : Rr X d MMo_growRattle 53 L st h = Rr X d MMo_growRattle 100 L st h := R_goto d_MMo_growRattle_53 (by decide)
theorem r_MMo_growRattle_56 {l0 l2 : Value} {x : Int32} : Rr X d MMo_growRattle 56 [l0, .int x, l2] st h = Rr X d MMo_growRattle 57 [l0, .int x, l2] (.int x :: st) h := Rr_nx d_MMo_growRattle_56 rfl
theorem r_MMo_growRattle_57 {x : Int32} : Rr X d MMo_growRattle 57 L (.int x :: st) h = if 0 ≤ x then Rr X d MMo_growRattle 100 L st h else Rr X d MMo_growRattle 60 L st h := R_if_ge d_MMo_growRattle_57 (by decide)
theorem r_MMo_growRattle_60 {l1 l2 : Value} {x : Nat} : Rr X d MMo_growRattle 60 [.ref x, l1, l2] st h = Rr X d MMo_growRattle 61 [.ref x, l1, l2] (.ref x :: st) h := Rr_nx d_MMo_growRattle_60 rfl
theorem r_MMo_growRattle_61 {l1 l2 : Value} {x : Nat} : Rr X d MMo_growRattle 61 [.ref x, l1, l2] st h = Rr X d MMo_growRattle 62 [.ref x, l1, l2] (.ref x :: st) h := Rr_nx d_MMo_growRattle_61 rfl
theorem r_MMo_growRattle_62 {a : Nat} (hq : qI a 5 9 = true) : Rr X d MMo_growRattle 62 L (.ref a :: st) (Wd mu la ro et) = Rr X d MMo_growRattle 65 L (.int (mu a 9) :: st) (Wd mu la ro et) := R_gfI d_MMo_growRattle_62 ff_5_44 hq
theorem r_MMo_growRattle_65 {l0 l2 : Value} {x : Int32} : Rr X d MMo_growRattle 65 [l0, .int x, l2] st h = Rr X d MMo_growRattle 66 [l0, .int x, l2] (.int x :: st) h := Rr_nx d_MMo_growRattle_65 rfl
theorem r_MMo_growRattle_66 {x : Int32} : Rr X d MMo_growRattle 66 L (.int x :: st) h = Rr X d MMo_growRattle 67 L (.int (-x) :: st) h := Rr_nx d_MMo_growRattle_66 rfl
theorem r_MMo_growRattle_67 {l1 l2 : Value} {x : Nat} : Rr X d MMo_growRattle 67 [.ref x, l1, l2] st h = Rr X d MMo_growRattle 68 [.ref x, l1, l2] (.ref x :: st) h := Rr_nx d_MMo_growRattle_67 rfl
theorem r_MMo_growRattle_68 {a : Nat} (hq : qI a 5 2 = true) : Rr X d MMo_growRattle 68 L (.ref a :: st) (Wd mu la ro et) = Rr X d MMo_growRattle 71 L (.int (mu a 2) :: st) (Wd mu la ro et) := R_gfI d_MMo_growRattle_68 ff_5_22 hq
theorem r_MMo_growRattle_71 {y0 : Int32} {y1 : Int32} {y2 : Int32} {a : Nat} (hO : qO a 5 = true) (hc : ckS st = true) : Rr X (d + 1) MMo_growRattle 71 L (.int y2 :: .int y1 :: .int y0 :: .ref a :: st) (Wd mu la ro et) = (Rr X d MMo_grown 0 [.ref a, .int y0, .int y1, .int y2] [] (Wd mu la ro et)).bind fun q => Rr X (d + 1) MMo_growRattle 74 L (psh q.1 st) q.2 := R_iv (av := [.int y2, .int y1, .int y0]) d_MMo_growRattle_71 fc_5_85 hO (ckS_le hc) rfl (Nat.le_of_ble_eq_true rfl) (Nat.le_of_ble_eq_true rfl)
theorem r_MMo_growRattle_74 {l0 l1 l2 : Value} {x : Int32} : Rr X d MMo_growRattle 74 [l0, l1, l2] (.int x :: st) h = Rr X d MMo_growRattle 75 (sL [l0, l1, l2] 2 (.int x)) st h := Rr_nx d_MMo_growRattle_74 rfl
theorem r_MMo_growRattle_75 {l1 l2 : Value} {x : Nat} : Rr X d MMo_growRattle 75 [.ref x, l1, l2] st h = Rr X d MMo_growRattle 76 [.ref x, l1, l2] (.ref x :: st) h := Rr_nx d_MMo_growRattle_75 rfl
theorem r_MMo_growRattle_76 {l1 l2 : Value} {x : Nat} : Rr X d MMo_growRattle 76 [.ref x, l1, l2] st h = Rr X d MMo_growRattle 77 [.ref x, l1, l2] (.ref x :: st) h := Rr_nx d_MMo_growRattle_76 rfl
theorem r_MMo_growRattle_77 {a : Nat} (hq : qI a 5 9 = true) : Rr X d MMo_growRattle 77 L (.ref a :: st) (Wd mu la ro et) = Rr X d MMo_growRattle 80 L (.int (mu a 9) :: st) (Wd mu la ro et) := R_gfI d_MMo_growRattle_77 ff_5_44 hq
theorem r_MMo_growRattle_80 {l0 l1 : Value} {x : Int32} : Rr X d MMo_growRattle 80 [l0, l1, .int x] st h = Rr X d MMo_growRattle 81 [l0, l1, .int x] (.int x :: st) h := Rr_nx d_MMo_growRattle_80 rfl
theorem r_MMo_growRattle_81 {x y : Int32} : Rr X d MMo_growRattle 81 L (.int y :: .int x :: st) h = Rr X d MMo_growRattle 82 L (.int (x + y) :: st) h := Rr_nx d_MMo_growRattle_81 rfl
theorem r_MMo_growRattle_82 {y0 : Int32} (hc : ckS st = true) : Rr X (d + 1) MMo_growRattle 82 L (.int y0 :: st) h = (Rr X d MMo_heldRattle 0 [.int y0] [] h).bind fun q => Rr X (d + 1) MMo_growRattle 85 L (psh q.1 st) q.2 := R_is (av := [.int y0]) d_MMo_growRattle_82 (Or.inl fc_5_89) (ckS_le hc) rfl (Nat.le_of_ble_eq_true rfl) (Nat.le_of_ble_eq_true rfl)
theorem r_MMo_growRattle_85 {a : Nat} {x : Int32} (hq : qI a 5 9 = true) : Rr X d MMo_growRattle 85 L (.int x :: .ref a :: st) (Wd mu la ro et) = Rr X d MMo_growRattle 88 L st (Wd (up2 mu a 9 x) la ro et) := R_pfI d_MMo_growRattle_85 ff_5_44 hq
theorem r_MMo_growRattle_88 {l1 l2 : Value} {x : Nat} : Rr X d MMo_growRattle 88 [.ref x, l1, l2] st h = Rr X d MMo_growRattle 89 [.ref x, l1, l2] (.ref x :: st) h := Rr_nx d_MMo_growRattle_88 rfl
theorem r_MMo_growRattle_89 {l1 l2 : Value} {x : Nat} : Rr X d MMo_growRattle 89 [.ref x, l1, l2] st h = Rr X d MMo_growRattle 90 [.ref x, l1, l2] (.ref x :: st) h := Rr_nx d_MMo_growRattle_89 rfl
theorem r_MMo_growRattle_90 {a : Nat} (hq : qI a 5 7 = true) : Rr X d MMo_growRattle 90 L (.ref a :: st) (Wd mu la ro et) = Rr X d MMo_growRattle 93 L (.int (mu a 7) :: st) (Wd mu la ro et) := R_gfI d_MMo_growRattle_90 ff_5_38 hq
theorem r_MMo_growRattle_93 {l0 l1 : Value} {x : Int32} : Rr X d MMo_growRattle 93 [l0, l1, .int x] st h = Rr X d MMo_growRattle 94 [l0, l1, .int x] (.int x :: st) h := Rr_nx d_MMo_growRattle_93 rfl
theorem r_MMo_growRattle_94 {y0 : Int32} {y1 : Int32} (hc : ckS st = true) : Rr X (d + 1) MMo_growRattle 94 L (.int y1 :: .int y0 :: st) h = (Rr X d MMo_nearer 0 [.int y0, .int y1] [] h).bind fun q => Rr X (d + 1) MMo_growRattle 97 L (psh q.1 st) q.2 := R_is (av := [.int y1, .int y0]) d_MMo_growRattle_94 (Or.inl fc_5_92) (ckS_le hc) rfl (Nat.le_of_ble_eq_true rfl) (Nat.le_of_ble_eq_true rfl)
theorem r_MMo_growRattle_97 {a : Nat} {x : Int32} (hq : qI a 5 7 = true) : Rr X d MMo_growRattle 97 L (.int x :: .ref a :: st) (Wd mu la ro et) = Rr X d MMo_growRattle 100 L st (Wd (up2 mu a 7 x) la ro et) := R_pfI d_MMo_growRattle_97 ff_5_38 hq
theorem r_MMo_growRattle_100 : Rr X d MMo_growRattle 100 L [] h = some (none, h) := Rr_rt d_MMo_growRattle_100 rfl
theorem d_MMo_grown_0 : decode MMo_grown.2.2.1 0 = .ok (.aload_n 0, 1) := lkT_ok tk_MMo_grown rfl
theorem d_MMo_grown_1 : decode MMo_grown.2.2.1 1 = .ok (.getfield 38, 3) := lkT_ok tk_MMo_grown rfl
theorem d_MMo_grown_4 : decode MMo_grown.2.2.1 4 = .ok (.invokestatic 96, 3) := lkT_ok tk_MMo_grown rfl
theorem d_MMo_grown_7 : decode MMo_grown.2.2.1 7 = .ok (.i2l, 1) := lkT_ok tk_MMo_grown rfl
theorem d_MMo_grown_8 : decode MMo_grown.2.2.1 8 = .ok (.iload_n 1, 1) := lkT_ok tk_MMo_grown rfl
theorem d_MMo_grown_9 : decode MMo_grown.2.2.1 9 = .ok (.i2l, 1) := lkT_ok tk_MMo_grown rfl
theorem d_MMo_grown_10 : decode MMo_grown.2.2.1 10 = .ok (.iload_n 2, 1) := lkT_ok tk_MMo_grown rfl
theorem d_MMo_grown_11 : decode MMo_grown.2.2.1 11 = .ok (.i2l, 1) := lkT_ok tk_MMo_grown rfl
theorem d_MMo_grown_12 : decode MMo_grown.2.2.1 12 = .ok (.lmul, 1) := lkT_ok tk_MMo_grown rfl
theorem d_MMo_grown_13 : decode MMo_grown.2.2.1 13 = .ok (.iload_n 3, 1) := lkT_ok tk_MMo_grown rfl
theorem d_MMo_grown_14 : decode MMo_grown.2.2.1 14 = .ok (.i2l, 1) := lkT_ok tk_MMo_grown rfl
theorem d_MMo_grown_15 : decode MMo_grown.2.2.1 15 = .ok (.lmul, 1) := lkT_ok tk_MMo_grown rfl
theorem d_MMo_grown_16 : decode MMo_grown.2.2.1 16 = .ok (.ldc2_w 101, 3) := lkT_ok tk_MMo_grown rfl
theorem d_MMo_grown_19 : decode MMo_grown.2.2.1 19 = .ok (.ldiv, 1) := lkT_ok tk_MMo_grown rfl
theorem d_MMo_grown_20 : decode MMo_grown.2.2.1 20 = .ok (.invokestatic 103, 3) := lkT_ok tk_MMo_grown rfl
theorem d_MMo_grown_23 : decode MMo_grown.2.2.1 23 = .ok (.l2i, 1) := lkT_ok tk_MMo_grown rfl
theorem d_MMo_grown_24 : decode MMo_grown.2.2.1 24 = .ok (.ireturn, 1) := lkT_ok tk_MMo_grown rfl
theorem r_MMo_grown_0 {l1 l2 l3 : Value} {x : Nat} : Rr X d MMo_grown 0 [.ref x, l1, l2, l3] st h = Rr X d MMo_grown 1 [.ref x, l1, l2, l3] (.ref x :: st) h := Rr_nx d_MMo_grown_0 rfl
theorem r_MMo_grown_1 {a : Nat} (hq : qI a 5 7 = true) : Rr X d MMo_grown 1 L (.ref a :: st) (Wd mu la ro et) = Rr X d MMo_grown 4 L (.int (mu a 7) :: st) (Wd mu la ro et) := R_gfI d_MMo_grown_1 ff_5_38 hq
theorem fc_5_96 : fC 5 96 = some (8, 0, 0, mI 0) := rfl
theorem r_MMo_grown_4 {x : Int32} (hc : ckS st = true) : Rr X (d + 1) MMo_grown 4 L (.int x :: st) h = Rr X (d + 1) MMo_grown 7 L (.int (if 0 ≤ x then x else 0 - x) :: st) h := R_abs d_MMo_grown_4 fc_5_96 (ckS_le hc)
theorem r_MMo_grown_7 {x : Int32} : Rr X d MMo_grown 7 L (.int x :: st) h = Rr X d MMo_grown 8 L (.long x.toInt64 :: st) h := Rr_nx d_MMo_grown_7 rfl
theorem r_MMo_grown_8 {l0 l2 l3 : Value} {x : Int32} : Rr X d MMo_grown 8 [l0, .int x, l2, l3] st h = Rr X d MMo_grown 9 [l0, .int x, l2, l3] (.int x :: st) h := Rr_nx d_MMo_grown_8 rfl
theorem r_MMo_grown_9 {x : Int32} : Rr X d MMo_grown 9 L (.int x :: st) h = Rr X d MMo_grown 10 L (.long x.toInt64 :: st) h := Rr_nx d_MMo_grown_9 rfl
theorem r_MMo_grown_10 {l0 l1 l3 : Value} {x : Int32} : Rr X d MMo_grown 10 [l0, l1, .int x, l3] st h = Rr X d MMo_grown 11 [l0, l1, .int x, l3] (.int x :: st) h := Rr_nx d_MMo_grown_10 rfl
theorem r_MMo_grown_11 {x : Int32} : Rr X d MMo_grown 11 L (.int x :: st) h = Rr X d MMo_grown 12 L (.long x.toInt64 :: st) h := Rr_nx d_MMo_grown_11 rfl
theorem r_MMo_grown_12 {x y : Int64} : Rr X d MMo_grown 12 L (.long y :: .long x :: st) h = Rr X d MMo_grown 13 L (.long (x * y) :: st) h := Rr_nx d_MMo_grown_12 rfl
theorem r_MMo_grown_13 {l0 l1 l2 : Value} {x : Int32} : Rr X d MMo_grown 13 [l0, l1, l2, .int x] st h = Rr X d MMo_grown 14 [l0, l1, l2, .int x] (.int x :: st) h := Rr_nx d_MMo_grown_13 rfl
theorem r_MMo_grown_14 {x : Int32} : Rr X d MMo_grown 14 L (.int x :: st) h = Rr X d MMo_grown 15 L (.long x.toInt64 :: st) h := Rr_nx d_MMo_grown_14 rfl
theorem r_MMo_grown_15 {x y : Int64} : Rr X d MMo_grown 15 L (.long y :: .long x :: st) h = Rr X d MMo_grown 16 L (.long (x * y) :: st) h := Rr_nx d_MMo_grown_15 rfl
theorem r_MMo_grown_16 : Rr X d MMo_grown 16 L st h = Rr X d MMo_grown 19 L (.long (1000000) :: st) h := Rr_nx d_MMo_grown_16 rfl
theorem r_MMo_grown_19 {x y : Int64} : Rr X d MMo_grown 19 L (.long y :: .long x :: st) h = if y = 0 then none else Rr X d MMo_grown 20 L (.long (x / y) :: st) h := R_ldv d_MMo_grown_19
theorem fc_5_103 : fC 5 103 = some (9, 0, 0, mI 0) := rfl
theorem r_MMo_grown_20 {x y : Int64} (hc : ckS st = true) : Rr X (d + 1) MMo_grown 20 L (.long y :: .long x :: st) h = Rr X (d + 1) MMo_grown 23 L (.long (if y < x then y else x) :: st) h := R_minL d_MMo_grown_20 fc_5_103 (ckS_le hc)
theorem r_MMo_grown_23 {x : Int64} : Rr X d MMo_grown 23 L (.long x :: st) h = Rr X d MMo_grown 24 L (.int x.toInt32 :: st) h := Rr_nx d_MMo_grown_23 rfl
theorem r_MMo_grown_24 {x : Int32} : Rr X d MMo_grown 24 L [.int x] h = some (some (.int x), h) := R_ir d_MMo_grown_24 rfl
theorem d_MMo_pushTurn_0 : decode MMo_pushTurn.2.2.1 0 = .ok (.aload_n 0, 1) := lkT_ok tk_MMo_pushTurn rfl
theorem d_MMo_pushTurn_1 : decode MMo_pushTurn.2.2.1 1 = .ok (.getfield 7, 3) := lkT_ok tk_MMo_pushTurn rfl
theorem d_MMo_pushTurn_4 : decode MMo_pushTurn.2.2.1 4 = .ok (.invokestatic 50, 3) := lkT_ok tk_MMo_pushTurn rfl
theorem d_MMo_pushTurn_7 : decode MMo_pushTurn.2.2.1 7 = .ok (.istore_n 1, 1) := lkT_ok tk_MMo_pushTurn rfl
theorem d_MMo_pushTurn_8 : decode MMo_pushTurn.2.2.1 8 = .ok (.iload_n 1, 1) := lkT_ok tk_MMo_pushTurn rfl
theorem d_MMo_pushTurn_9 : decode MMo_pushTurn.2.2.1 9 = .ok (.ifCond .ne 4, 3) := lkT_ok tk_MMo_pushTurn rfl
theorem d_MMo_pushTurn_12 : decode MMo_pushTurn.2.2.1 12 = .ok (.return_, 1) := lkT_ok tk_MMo_pushTurn rfl
theorem d_MMo_pushTurn_13 : decode MMo_pushTurn.2.2.1 13 = .ok (.aload_n 0, 1) := lkT_ok tk_MMo_pushTurn rfl
theorem d_MMo_pushTurn_14 : decode MMo_pushTurn.2.2.1 14 = .ok (.getfield 41, 3) := lkT_ok tk_MMo_pushTurn rfl
theorem d_MMo_pushTurn_17 : decode MMo_pushTurn.2.2.1 17 = .ok (.aload_n 0, 1) := lkT_ok tk_MMo_pushTurn rfl
theorem d_MMo_pushTurn_18 : decode MMo_pushTurn.2.2.1 18 = .ok (.getfield 25, 3) := lkT_ok tk_MMo_pushTurn rfl
theorem d_MMo_pushTurn_21 : decode MMo_pushTurn.2.2.1 21 = .ok (.imul, 1) := lkT_ok tk_MMo_pushTurn rfl
theorem d_MMo_pushTurn_22 : decode MMo_pushTurn.2.2.1 22 = .ok (.bipush 100, 2) := lkT_ok tk_MMo_pushTurn rfl
theorem d_MMo_pushTurn_24 : decode MMo_pushTurn.2.2.1 24 = .ok (.idiv, 1) := lkT_ok tk_MMo_pushTurn rfl
theorem d_MMo_pushTurn_25 : decode MMo_pushTurn.2.2.1 25 = .ok (.istore_n 2, 1) := lkT_ok tk_MMo_pushTurn rfl
theorem d_MMo_pushTurn_26 : decode MMo_pushTurn.2.2.1 26 = .ok (.aload_n 0, 1) := lkT_ok tk_MMo_pushTurn rfl
theorem d_MMo_pushTurn_27 : decode MMo_pushTurn.2.2.1 27 = .ok (.dup, 1) := lkT_ok tk_MMo_pushTurn rfl
theorem d_MMo_pushTurn_28 : decode MMo_pushTurn.2.2.1 28 = .ok (.getfield 41, 3) := lkT_ok tk_MMo_pushTurn rfl
theorem d_MMo_pushTurn_31 : decode MMo_pushTurn.2.2.1 31 = .ok (.iload_n 2, 1) := lkT_ok tk_MMo_pushTurn rfl
theorem d_MMo_pushTurn_32 : decode MMo_pushTurn.2.2.1 32 = .ok (.isub, 1) := lkT_ok tk_MMo_pushTurn rfl
theorem d_MMo_pushTurn_33 : decode MMo_pushTurn.2.2.1 33 = .ok (.putfield 41, 3) := lkT_ok tk_MMo_pushTurn rfl
theorem d_MMo_pushTurn_36 : decode MMo_pushTurn.2.2.1 36 = .ok (.aload_n 0, 1) := lkT_ok tk_MMo_pushTurn rfl
theorem d_MMo_pushTurn_37 : decode MMo_pushTurn.2.2.1 37 = .ok (.aload_n 0, 1) := lkT_ok tk_MMo_pushTurn rfl
theorem d_MMo_pushTurn_38 : decode MMo_pushTurn.2.2.1 38 = .ok (.getfield 38, 3) := lkT_ok tk_MMo_pushTurn rfl
theorem d_MMo_pushTurn_41 : decode MMo_pushTurn.2.2.1 41 = .ok (.iload_n 1, 1) := lkT_ok tk_MMo_pushTurn rfl
theorem d_MMo_pushTurn_42 : decode MMo_pushTurn.2.2.1 42 = .ok (.iload_n 2, 1) := lkT_ok tk_MMo_pushTurn rfl
theorem d_MMo_pushTurn_43 : decode MMo_pushTurn.2.2.1 43 = .ok (.imul, 1) := lkT_ok tk_MMo_pushTurn rfl
theorem d_MMo_pushTurn_44 : decode MMo_pushTurn.2.2.1 44 = .ok (.isub, 1) := lkT_ok tk_MMo_pushTurn rfl
theorem d_MMo_pushTurn_45 : decode MMo_pushTurn.2.2.1 45 = .ok (.invokestatic 107, 3) := lkT_ok tk_MMo_pushTurn rfl
theorem d_MMo_pushTurn_48 : decode MMo_pushTurn.2.2.1 48 = .ok (.putfield 38, 3) := lkT_ok tk_MMo_pushTurn rfl
theorem d_MMo_pushTurn_51 : decode MMo_pushTurn.2.2.1 51 = .ok (.aload_n 0, 1) := lkT_ok tk_MMo_pushTurn rfl
theorem d_MMo_pushTurn_52 : decode MMo_pushTurn.2.2.1 52 = .ok (.getfield 44, 3) := lkT_ok tk_MMo_pushTurn rfl
theorem d_MMo_pushTurn_55 : decode MMo_pushTurn.2.2.1 55 = .ok (.aload_n 0, 1) := lkT_ok tk_MMo_pushTurn rfl
theorem d_MMo_pushTurn_56 : decode MMo_pushTurn.2.2.1 56 = .ok (.getfield 28, 3) := lkT_ok tk_MMo_pushTurn rfl
theorem d_MMo_pushTurn_59 : decode MMo_pushTurn.2.2.1 59 = .ok (.imul, 1) := lkT_ok tk_MMo_pushTurn rfl
theorem d_MMo_pushTurn_60 : decode MMo_pushTurn.2.2.1 60 = .ok (.bipush 100, 2) := lkT_ok tk_MMo_pushTurn rfl
theorem d_MMo_pushTurn_62 : decode MMo_pushTurn.2.2.1 62 = .ok (.idiv, 1) := lkT_ok tk_MMo_pushTurn rfl
theorem d_MMo_pushTurn_63 : decode MMo_pushTurn.2.2.1 63 = .ok (.istore_n 3, 1) := lkT_ok tk_MMo_pushTurn rfl
theorem d_MMo_pushTurn_64 : decode MMo_pushTurn.2.2.1 64 = .ok (.aload_n 0, 1) := lkT_ok tk_MMo_pushTurn rfl
theorem d_MMo_pushTurn_65 : decode MMo_pushTurn.2.2.1 65 = .ok (.dup, 1) := lkT_ok tk_MMo_pushTurn rfl
theorem d_MMo_pushTurn_66 : decode MMo_pushTurn.2.2.1 66 = .ok (.getfield 44, 3) := lkT_ok tk_MMo_pushTurn rfl
theorem d_MMo_pushTurn_69 : decode MMo_pushTurn.2.2.1 69 = .ok (.iload_n 3, 1) := lkT_ok tk_MMo_pushTurn rfl
theorem d_MMo_pushTurn_70 : decode MMo_pushTurn.2.2.1 70 = .ok (.isub, 1) := lkT_ok tk_MMo_pushTurn rfl
theorem d_MMo_pushTurn_71 : decode MMo_pushTurn.2.2.1 71 = .ok (.putfield 44, 3) := lkT_ok tk_MMo_pushTurn rfl
theorem d_MMo_pushTurn_74 : decode MMo_pushTurn.2.2.1 74 = .ok (.aload_n 0, 1) := lkT_ok tk_MMo_pushTurn rfl
theorem d_MMo_pushTurn_75 : decode MMo_pushTurn.2.2.1 75 = .ok (.aload_n 0, 1) := lkT_ok tk_MMo_pushTurn rfl
theorem d_MMo_pushTurn_76 : decode MMo_pushTurn.2.2.1 76 = .ok (.getfield 38, 3) := lkT_ok tk_MMo_pushTurn rfl
theorem d_MMo_pushTurn_79 : decode MMo_pushTurn.2.2.1 79 = .ok (.iload_n 1, 1) := lkT_ok tk_MMo_pushTurn rfl
theorem d_MMo_pushTurn_80 : decode MMo_pushTurn.2.2.1 80 = .ok (.iload_n 3, 1) := lkT_ok tk_MMo_pushTurn rfl
theorem d_MMo_pushTurn_81 : decode MMo_pushTurn.2.2.1 81 = .ok (.imul, 1) := lkT_ok tk_MMo_pushTurn rfl
theorem d_MMo_pushTurn_82 : decode MMo_pushTurn.2.2.1 82 = .ok (.iadd, 1) := lkT_ok tk_MMo_pushTurn rfl
theorem d_MMo_pushTurn_83 : decode MMo_pushTurn.2.2.1 83 = .ok (.invokestatic 107, 3) := lkT_ok tk_MMo_pushTurn rfl
theorem d_MMo_pushTurn_86 : decode MMo_pushTurn.2.2.1 86 = .ok (.putfield 38, 3) := lkT_ok tk_MMo_pushTurn rfl
theorem d_MMo_pushTurn_89 : decode MMo_pushTurn.2.2.1 89 = .ok (.return_, 1) := lkT_ok tk_MMo_pushTurn rfl
theorem r_MMo_pushTurn_0 {l1 l2 l3 : Value} {x : Nat} : Rr X d MMo_pushTurn 0 [.ref x, l1, l2, l3] st h = Rr X d MMo_pushTurn 1 [.ref x, l1, l2, l3] (.ref x :: st) h := Rr_nx d_MMo_pushTurn_0 rfl
theorem r_MMo_pushTurn_1 {a : Nat} (hq : qI a 5 0 = true) : Rr X d MMo_pushTurn 1 L (.ref a :: st) (Wd mu la ro et) = Rr X d MMo_pushTurn 4 L (.int (mu a 0) :: st) (Wd mu la ro et) := R_gfI d_MMo_pushTurn_1 ff_5_7 hq
theorem r_MMo_pushTurn_4 {y0 : Int32} (hc : ckS st = true) : Rr X (d + 1) MMo_pushTurn 4 L (.int y0 :: st) h = (Rr X d MIn_signum 0 [.int y0] [] h).bind fun q => Rr X (d + 1) MMo_pushTurn 7 L (psh q.1 st) q.2 := R_is (av := [.int y0]) d_MMo_pushTurn_4 (Or.inl fc_5_50) (ckS_le hc) rfl (Nat.le_of_ble_eq_true rfl) (Nat.le_of_ble_eq_true rfl)
theorem r_MMo_pushTurn_7 {l0 l1 l2 l3 : Value} {x : Int32} : Rr X d MMo_pushTurn 7 [l0, l1, l2, l3] (.int x :: st) h = Rr X d MMo_pushTurn 8 (sL [l0, l1, l2, l3] 1 (.int x)) st h := Rr_nx d_MMo_pushTurn_7 rfl
theorem r_MMo_pushTurn_8 {l0 l2 l3 : Value} {x : Int32} : Rr X d MMo_pushTurn 8 [l0, .int x, l2, l3] st h = Rr X d MMo_pushTurn 9 [l0, .int x, l2, l3] (.int x :: st) h := Rr_nx d_MMo_pushTurn_8 rfl
theorem r_MMo_pushTurn_9 {x : Int32} : Rr X d MMo_pushTurn 9 L (.int x :: st) h = if ¬ x = 0 then Rr X d MMo_pushTurn 13 L st h else Rr X d MMo_pushTurn 12 L st h := R_if_ne d_MMo_pushTurn_9 (by decide)
theorem r_MMo_pushTurn_12 : Rr X d MMo_pushTurn 12 L [] h = some (none, h) := Rr_rt d_MMo_pushTurn_12 rfl
theorem r_MMo_pushTurn_13 {l1 l2 l3 : Value} {x : Nat} : Rr X d MMo_pushTurn 13 [.ref x, l1, l2, l3] st h = Rr X d MMo_pushTurn 14 [.ref x, l1, l2, l3] (.ref x :: st) h := Rr_nx d_MMo_pushTurn_13 rfl
theorem r_MMo_pushTurn_14 {a : Nat} (hq : qI a 5 8 = true) : Rr X d MMo_pushTurn 14 L (.ref a :: st) (Wd mu la ro et) = Rr X d MMo_pushTurn 17 L (.int (mu a 8) :: st) (Wd mu la ro et) := R_gfI d_MMo_pushTurn_14 ff_5_41 hq
theorem r_MMo_pushTurn_17 {l1 l2 l3 : Value} {x : Nat} : Rr X d MMo_pushTurn 17 [.ref x, l1, l2, l3] st h = Rr X d MMo_pushTurn 18 [.ref x, l1, l2, l3] (.ref x :: st) h := Rr_nx d_MMo_pushTurn_17 rfl
theorem r_MMo_pushTurn_18 {a : Nat} (hq : qI a 5 3 = true) : Rr X d MMo_pushTurn 18 L (.ref a :: st) (Wd mu la ro et) = Rr X d MMo_pushTurn 21 L (.int (mu a 3) :: st) (Wd mu la ro et) := R_gfI d_MMo_pushTurn_18 ff_5_25 hq
theorem r_MMo_pushTurn_21 {x y : Int32} : Rr X d MMo_pushTurn 21 L (.int y :: .int x :: st) h = Rr X d MMo_pushTurn 22 L (.int (x * y) :: st) h := Rr_nx d_MMo_pushTurn_21 rfl
theorem r_MMo_pushTurn_22 : Rr X d MMo_pushTurn 22 L st h = Rr X d MMo_pushTurn 24 L (.int (100) :: st) h := Rr_nx d_MMo_pushTurn_22 rfl
theorem r_MMo_pushTurn_24 {x y : Int32} : Rr X d MMo_pushTurn 24 L (.int y :: .int x :: st) h = if y = 0 then none else Rr X d MMo_pushTurn 25 L (.int (x / y) :: st) h := R_dv d_MMo_pushTurn_24
theorem r_MMo_pushTurn_25 {l0 l1 l2 l3 : Value} {x : Int32} : Rr X d MMo_pushTurn 25 [l0, l1, l2, l3] (.int x :: st) h = Rr X d MMo_pushTurn 26 (sL [l0, l1, l2, l3] 2 (.int x)) st h := Rr_nx d_MMo_pushTurn_25 rfl
theorem r_MMo_pushTurn_26 {l1 l2 l3 : Value} {x : Nat} : Rr X d MMo_pushTurn 26 [.ref x, l1, l2, l3] st h = Rr X d MMo_pushTurn 27 [.ref x, l1, l2, l3] (.ref x :: st) h := Rr_nx d_MMo_pushTurn_26 rfl
theorem r_MMo_pushTurn_27 {x : Nat} : Rr X d MMo_pushTurn 27 L (.ref x :: st) h = Rr X d MMo_pushTurn 28 L (.ref x :: .ref x :: st) h := Rr_nx d_MMo_pushTurn_27 rfl
theorem r_MMo_pushTurn_27i {x : Int32} : Rr X d MMo_pushTurn 27 L (.int x :: st) h = Rr X d MMo_pushTurn 28 L (.int x :: .int x :: st) h := Rr_nx d_MMo_pushTurn_27 rfl
theorem r_MMo_pushTurn_28 {a : Nat} (hq : qI a 5 8 = true) : Rr X d MMo_pushTurn 28 L (.ref a :: st) (Wd mu la ro et) = Rr X d MMo_pushTurn 31 L (.int (mu a 8) :: st) (Wd mu la ro et) := R_gfI d_MMo_pushTurn_28 ff_5_41 hq
theorem r_MMo_pushTurn_31 {l0 l1 l3 : Value} {x : Int32} : Rr X d MMo_pushTurn 31 [l0, l1, .int x, l3] st h = Rr X d MMo_pushTurn 32 [l0, l1, .int x, l3] (.int x :: st) h := Rr_nx d_MMo_pushTurn_31 rfl
theorem r_MMo_pushTurn_32 {x y : Int32} : Rr X d MMo_pushTurn 32 L (.int y :: .int x :: st) h = Rr X d MMo_pushTurn 33 L (.int (x - y) :: st) h := Rr_nx d_MMo_pushTurn_32 rfl
theorem r_MMo_pushTurn_33 {a : Nat} {x : Int32} (hq : qI a 5 8 = true) : Rr X d MMo_pushTurn 33 L (.int x :: .ref a :: st) (Wd mu la ro et) = Rr X d MMo_pushTurn 36 L st (Wd (up2 mu a 8 x) la ro et) := R_pfI d_MMo_pushTurn_33 ff_5_41 hq
theorem r_MMo_pushTurn_36 {l1 l2 l3 : Value} {x : Nat} : Rr X d MMo_pushTurn 36 [.ref x, l1, l2, l3] st h = Rr X d MMo_pushTurn 37 [.ref x, l1, l2, l3] (.ref x :: st) h := Rr_nx d_MMo_pushTurn_36 rfl
theorem r_MMo_pushTurn_37 {l1 l2 l3 : Value} {x : Nat} : Rr X d MMo_pushTurn 37 [.ref x, l1, l2, l3] st h = Rr X d MMo_pushTurn 38 [.ref x, l1, l2, l3] (.ref x :: st) h := Rr_nx d_MMo_pushTurn_37 rfl
theorem r_MMo_pushTurn_38 {a : Nat} (hq : qI a 5 7 = true) : Rr X d MMo_pushTurn 38 L (.ref a :: st) (Wd mu la ro et) = Rr X d MMo_pushTurn 41 L (.int (mu a 7) :: st) (Wd mu la ro et) := R_gfI d_MMo_pushTurn_38 ff_5_38 hq
theorem r_MMo_pushTurn_41 {l0 l2 l3 : Value} {x : Int32} : Rr X d MMo_pushTurn 41 [l0, .int x, l2, l3] st h = Rr X d MMo_pushTurn 42 [l0, .int x, l2, l3] (.int x :: st) h := Rr_nx d_MMo_pushTurn_41 rfl
theorem r_MMo_pushTurn_42 {l0 l1 l3 : Value} {x : Int32} : Rr X d MMo_pushTurn 42 [l0, l1, .int x, l3] st h = Rr X d MMo_pushTurn 43 [l0, l1, .int x, l3] (.int x :: st) h := Rr_nx d_MMo_pushTurn_42 rfl
theorem r_MMo_pushTurn_43 {x y : Int32} : Rr X d MMo_pushTurn 43 L (.int y :: .int x :: st) h = Rr X d MMo_pushTurn 44 L (.int (x * y) :: st) h := Rr_nx d_MMo_pushTurn_43 rfl
theorem r_MMo_pushTurn_44 {x y : Int32} : Rr X d MMo_pushTurn 44 L (.int y :: .int x :: st) h = Rr X d MMo_pushTurn 45 L (.int (x - y) :: st) h := Rr_nx d_MMo_pushTurn_44 rfl
theorem fc_5_107 : fC 5 107 = some (1, 0, 1, MMo_heldTurn) := rfl
theorem r_MMo_pushTurn_45 {y0 : Int32} (hc : ckS st = true) : Rr X (d + 1) MMo_pushTurn 45 L (.int y0 :: st) h = (Rr X d MMo_heldTurn 0 [.int y0] [] h).bind fun q => Rr X (d + 1) MMo_pushTurn 48 L (psh q.1 st) q.2 := R_is (av := [.int y0]) d_MMo_pushTurn_45 (Or.inl fc_5_107) (ckS_le hc) rfl (Nat.le_of_ble_eq_true rfl) (Nat.le_of_ble_eq_true rfl)
theorem r_MMo_pushTurn_48 {a : Nat} {x : Int32} (hq : qI a 5 7 = true) : Rr X d MMo_pushTurn 48 L (.int x :: .ref a :: st) (Wd mu la ro et) = Rr X d MMo_pushTurn 51 L st (Wd (up2 mu a 7 x) la ro et) := R_pfI d_MMo_pushTurn_48 ff_5_38 hq
theorem r_MMo_pushTurn_51 {l1 l2 l3 : Value} {x : Nat} : Rr X d MMo_pushTurn 51 [.ref x, l1, l2, l3] st h = Rr X d MMo_pushTurn 52 [.ref x, l1, l2, l3] (.ref x :: st) h := Rr_nx d_MMo_pushTurn_51 rfl
theorem r_MMo_pushTurn_52 {a : Nat} (hq : qI a 5 9 = true) : Rr X d MMo_pushTurn 52 L (.ref a :: st) (Wd mu la ro et) = Rr X d MMo_pushTurn 55 L (.int (mu a 9) :: st) (Wd mu la ro et) := R_gfI d_MMo_pushTurn_52 ff_5_44 hq
theorem r_MMo_pushTurn_55 {l1 l2 l3 : Value} {x : Nat} : Rr X d MMo_pushTurn 55 [.ref x, l1, l2, l3] st h = Rr X d MMo_pushTurn 56 [.ref x, l1, l2, l3] (.ref x :: st) h := Rr_nx d_MMo_pushTurn_55 rfl
theorem r_MMo_pushTurn_56 {a : Nat} (hq : qI a 5 4 = true) : Rr X d MMo_pushTurn 56 L (.ref a :: st) (Wd mu la ro et) = Rr X d MMo_pushTurn 59 L (.int (mu a 4) :: st) (Wd mu la ro et) := R_gfI d_MMo_pushTurn_56 ff_5_28 hq
theorem r_MMo_pushTurn_59 {x y : Int32} : Rr X d MMo_pushTurn 59 L (.int y :: .int x :: st) h = Rr X d MMo_pushTurn 60 L (.int (x * y) :: st) h := Rr_nx d_MMo_pushTurn_59 rfl
theorem r_MMo_pushTurn_60 : Rr X d MMo_pushTurn 60 L st h = Rr X d MMo_pushTurn 62 L (.int (100) :: st) h := Rr_nx d_MMo_pushTurn_60 rfl
theorem r_MMo_pushTurn_62 {x y : Int32} : Rr X d MMo_pushTurn 62 L (.int y :: .int x :: st) h = if y = 0 then none else Rr X d MMo_pushTurn 63 L (.int (x / y) :: st) h := R_dv d_MMo_pushTurn_62
theorem r_MMo_pushTurn_63 {l0 l1 l2 l3 : Value} {x : Int32} : Rr X d MMo_pushTurn 63 [l0, l1, l2, l3] (.int x :: st) h = Rr X d MMo_pushTurn 64 (sL [l0, l1, l2, l3] 3 (.int x)) st h := Rr_nx d_MMo_pushTurn_63 rfl
theorem r_MMo_pushTurn_64 {l1 l2 l3 : Value} {x : Nat} : Rr X d MMo_pushTurn 64 [.ref x, l1, l2, l3] st h = Rr X d MMo_pushTurn 65 [.ref x, l1, l2, l3] (.ref x :: st) h := Rr_nx d_MMo_pushTurn_64 rfl
theorem r_MMo_pushTurn_65 {x : Nat} : Rr X d MMo_pushTurn 65 L (.ref x :: st) h = Rr X d MMo_pushTurn 66 L (.ref x :: .ref x :: st) h := Rr_nx d_MMo_pushTurn_65 rfl
theorem r_MMo_pushTurn_65i {x : Int32} : Rr X d MMo_pushTurn 65 L (.int x :: st) h = Rr X d MMo_pushTurn 66 L (.int x :: .int x :: st) h := Rr_nx d_MMo_pushTurn_65 rfl
theorem r_MMo_pushTurn_66 {a : Nat} (hq : qI a 5 9 = true) : Rr X d MMo_pushTurn 66 L (.ref a :: st) (Wd mu la ro et) = Rr X d MMo_pushTurn 69 L (.int (mu a 9) :: st) (Wd mu la ro et) := R_gfI d_MMo_pushTurn_66 ff_5_44 hq
theorem r_MMo_pushTurn_69 {l0 l1 l2 : Value} {x : Int32} : Rr X d MMo_pushTurn 69 [l0, l1, l2, .int x] st h = Rr X d MMo_pushTurn 70 [l0, l1, l2, .int x] (.int x :: st) h := Rr_nx d_MMo_pushTurn_69 rfl
theorem r_MMo_pushTurn_70 {x y : Int32} : Rr X d MMo_pushTurn 70 L (.int y :: .int x :: st) h = Rr X d MMo_pushTurn 71 L (.int (x - y) :: st) h := Rr_nx d_MMo_pushTurn_70 rfl
theorem r_MMo_pushTurn_71 {a : Nat} {x : Int32} (hq : qI a 5 9 = true) : Rr X d MMo_pushTurn 71 L (.int x :: .ref a :: st) (Wd mu la ro et) = Rr X d MMo_pushTurn 74 L st (Wd (up2 mu a 9 x) la ro et) := R_pfI d_MMo_pushTurn_71 ff_5_44 hq
theorem r_MMo_pushTurn_74 {l1 l2 l3 : Value} {x : Nat} : Rr X d MMo_pushTurn 74 [.ref x, l1, l2, l3] st h = Rr X d MMo_pushTurn 75 [.ref x, l1, l2, l3] (.ref x :: st) h := Rr_nx d_MMo_pushTurn_74 rfl
theorem r_MMo_pushTurn_75 {l1 l2 l3 : Value} {x : Nat} : Rr X d MMo_pushTurn 75 [.ref x, l1, l2, l3] st h = Rr X d MMo_pushTurn 76 [.ref x, l1, l2, l3] (.ref x :: st) h := Rr_nx d_MMo_pushTurn_75 rfl
theorem r_MMo_pushTurn_76 {a : Nat} (hq : qI a 5 7 = true) : Rr X d MMo_pushTurn 76 L (.ref a :: st) (Wd mu la ro et) = Rr X d MMo_pushTurn 79 L (.int (mu a 7) :: st) (Wd mu la ro et) := R_gfI d_MMo_pushTurn_76 ff_5_38 hq
theorem r_MMo_pushTurn_79 {l0 l2 l3 : Value} {x : Int32} : Rr X d MMo_pushTurn 79 [l0, .int x, l2, l3] st h = Rr X d MMo_pushTurn 80 [l0, .int x, l2, l3] (.int x :: st) h := Rr_nx d_MMo_pushTurn_79 rfl
theorem r_MMo_pushTurn_80 {l0 l1 l2 : Value} {x : Int32} : Rr X d MMo_pushTurn 80 [l0, l1, l2, .int x] st h = Rr X d MMo_pushTurn 81 [l0, l1, l2, .int x] (.int x :: st) h := Rr_nx d_MMo_pushTurn_80 rfl
theorem r_MMo_pushTurn_81 {x y : Int32} : Rr X d MMo_pushTurn 81 L (.int y :: .int x :: st) h = Rr X d MMo_pushTurn 82 L (.int (x * y) :: st) h := Rr_nx d_MMo_pushTurn_81 rfl
theorem r_MMo_pushTurn_82 {x y : Int32} : Rr X d MMo_pushTurn 82 L (.int y :: .int x :: st) h = Rr X d MMo_pushTurn 83 L (.int (x + y) :: st) h := Rr_nx d_MMo_pushTurn_82 rfl
theorem r_MMo_pushTurn_83 {y0 : Int32} (hc : ckS st = true) : Rr X (d + 1) MMo_pushTurn 83 L (.int y0 :: st) h = (Rr X d MMo_heldTurn 0 [.int y0] [] h).bind fun q => Rr X (d + 1) MMo_pushTurn 86 L (psh q.1 st) q.2 := R_is (av := [.int y0]) d_MMo_pushTurn_83 (Or.inl fc_5_107) (ckS_le hc) rfl (Nat.le_of_ble_eq_true rfl) (Nat.le_of_ble_eq_true rfl)
theorem r_MMo_pushTurn_86 {a : Nat} {x : Int32} (hq : qI a 5 7 = true) : Rr X d MMo_pushTurn 86 L (.int x :: .ref a :: st) (Wd mu la ro et) = Rr X d MMo_pushTurn 89 L st (Wd (up2 mu a 7 x) la ro et) := R_pfI d_MMo_pushTurn_86 ff_5_38 hq
theorem r_MMo_pushTurn_89 : Rr X d MMo_pushTurn 89 L [] h = some (none, h) := Rr_rt d_MMo_pushTurn_89 rfl
theorem d_MMo_lose_0 : decode MMo_lose.2.2.1 0 = .ok (.aload_n 0, 1) := lkT_ok tk_MMo_lose rfl
theorem d_MMo_lose_1 : decode MMo_lose.2.2.1 1 = .ok (.getfield 31, 3) := lkT_ok tk_MMo_lose rfl
theorem d_MMo_lose_4 : decode MMo_lose.2.2.1 4 = .ok (.ifnull 26, 3) := lkT_ok tk_MMo_lose rfl
theorem d_MMo_lose_7 : decode MMo_lose.2.2.1 7 = .ok (.aload_n 0, 1) := lkT_ok tk_MMo_lose rfl
theorem d_MMo_lose_8 : decode MMo_lose.2.2.1 8 = .ok (.getfield 31, 3) := lkT_ok tk_MMo_lose rfl
theorem d_MMo_lose_11 : decode MMo_lose.2.2.1 11 = .ok (.aload_n 0, 1) := lkT_ok tk_MMo_lose rfl
theorem d_MMo_lose_12 : decode MMo_lose.2.2.1 12 = .ok (.getfield 38, 3) := lkT_ok tk_MMo_lose rfl
theorem d_MMo_lose_15 : decode MMo_lose.2.2.1 15 = .ok (.aload_n 0, 1) := lkT_ok tk_MMo_lose rfl
theorem d_MMo_lose_16 : decode MMo_lose.2.2.1 16 = .ok (.getfield 41, 3) := lkT_ok tk_MMo_lose rfl
theorem d_MMo_lose_19 : decode MMo_lose.2.2.1 19 = .ok (.aload_n 0, 1) := lkT_ok tk_MMo_lose rfl
theorem d_MMo_lose_20 : decode MMo_lose.2.2.1 20 = .ok (.getfield 44, 3) := lkT_ok tk_MMo_lose rfl
theorem d_MMo_lose_23 : decode MMo_lose.2.2.1 23 = .ok (.aload_n 0, 1) := lkT_ok tk_MMo_lose rfl
theorem d_MMo_lose_24 : decode MMo_lose.2.2.1 24 = .ok (.getfield 47, 3) := lkT_ok tk_MMo_lose rfl
theorem d_MMo_lose_27 : decode MMo_lose.2.2.1 27 = .ok (.invokevirtual 110, 3) := lkT_ok tk_MMo_lose rfl
theorem d_MMo_lose_30 : decode MMo_lose.2.2.1 30 = .ok (.aload_n 0, 1) := lkT_ok tk_MMo_lose rfl
theorem d_MMo_lose_31 : decode MMo_lose.2.2.1 31 = .ok (.iconst 0, 1) := lkT_ok tk_MMo_lose rfl
theorem d_MMo_lose_32 : decode MMo_lose.2.2.1 32 = .ok (.aload_n 0, 1) := lkT_ok tk_MMo_lose rfl
theorem d_MMo_lose_33 : decode MMo_lose.2.2.1 33 = .ok (.getfield 38, 3) := lkT_ok tk_MMo_lose rfl
theorem d_MMo_lose_36 : decode MMo_lose.2.2.1 36 = .ok (.invokestatic 96, 3) := lkT_ok tk_MMo_lose rfl
theorem d_MMo_lose_39 : decode MMo_lose.2.2.1 39 = .ok (.invokevirtual 116, 3) := lkT_ok tk_MMo_lose rfl
theorem d_MMo_lose_42 : decode MMo_lose.2.2.1 42 = .ok (.istore_n 1, 1) := lkT_ok tk_MMo_lose rfl
theorem d_MMo_lose_43 : decode MMo_lose.2.2.1 43 = .ok (.aload_n 0, 1) := lkT_ok tk_MMo_lose rfl
theorem d_MMo_lose_44 : decode MMo_lose.2.2.1 44 = .ok (.iconst 1, 1) := lkT_ok tk_MMo_lose rfl
theorem d_MMo_lose_45 : decode MMo_lose.2.2.1 45 = .ok (.aload_n 0, 1) := lkT_ok tk_MMo_lose rfl
theorem d_MMo_lose_46 : decode MMo_lose.2.2.1 46 = .ok (.getfield 41, 3) := lkT_ok tk_MMo_lose rfl
theorem d_MMo_lose_49 : decode MMo_lose.2.2.1 49 = .ok (.invokevirtual 116, 3) := lkT_ok tk_MMo_lose rfl
theorem d_MMo_lose_52 : decode MMo_lose.2.2.1 52 = .ok (.istore_n 2, 1) := lkT_ok tk_MMo_lose rfl
theorem d_MMo_lose_53 : decode MMo_lose.2.2.1 53 = .ok (.aload_n 0, 1) := lkT_ok tk_MMo_lose rfl
theorem d_MMo_lose_54 : decode MMo_lose.2.2.1 54 = .ok (.iconst 2, 1) := lkT_ok tk_MMo_lose rfl
theorem d_MMo_lose_55 : decode MMo_lose.2.2.1 55 = .ok (.aload_n 0, 1) := lkT_ok tk_MMo_lose rfl
theorem d_MMo_lose_56 : decode MMo_lose.2.2.1 56 = .ok (.getfield 44, 3) := lkT_ok tk_MMo_lose rfl
theorem d_MMo_lose_59 : decode MMo_lose.2.2.1 59 = .ok (.invokevirtual 116, 3) := lkT_ok tk_MMo_lose rfl
theorem d_MMo_lose_62 : decode MMo_lose.2.2.1 62 = .ok (.istore_n 3, 1) := lkT_ok tk_MMo_lose rfl
theorem d_MMo_lose_63 : decode MMo_lose.2.2.1 63 = .ok (.aload_n 0, 1) := lkT_ok tk_MMo_lose rfl
theorem d_MMo_lose_64 : decode MMo_lose.2.2.1 64 = .ok (.aload_n 0, 1) := lkT_ok tk_MMo_lose rfl
theorem d_MMo_lose_65 : decode MMo_lose.2.2.1 65 = .ok (.getfield 38, 3) := lkT_ok tk_MMo_lose rfl
theorem d_MMo_lose_68 : decode MMo_lose.2.2.1 68 = .ok (.iload_n 1, 1) := lkT_ok tk_MMo_lose rfl
theorem d_MMo_lose_69 : decode MMo_lose.2.2.1 69 = .ok (.invokestatic 92, 3) := lkT_ok tk_MMo_lose rfl
theorem d_MMo_lose_72 : decode MMo_lose.2.2.1 72 = .ok (.putfield 38, 3) := lkT_ok tk_MMo_lose rfl
theorem d_MMo_lose_75 : decode MMo_lose.2.2.1 75 = .ok (.aload_n 0, 1) := lkT_ok tk_MMo_lose rfl
theorem d_MMo_lose_76 : decode MMo_lose.2.2.1 76 = .ok (.dup, 1) := lkT_ok tk_MMo_lose rfl
theorem d_MMo_lose_77 : decode MMo_lose.2.2.1 77 = .ok (.getfield 41, 3) := lkT_ok tk_MMo_lose rfl
theorem d_MMo_lose_80 : decode MMo_lose.2.2.1 80 = .ok (.iload_n 2, 1) := lkT_ok tk_MMo_lose rfl
theorem d_MMo_lose_81 : decode MMo_lose.2.2.1 81 = .ok (.isub, 1) := lkT_ok tk_MMo_lose rfl
theorem d_MMo_lose_82 : decode MMo_lose.2.2.1 82 = .ok (.putfield 41, 3) := lkT_ok tk_MMo_lose rfl
theorem d_MMo_lose_85 : decode MMo_lose.2.2.1 85 = .ok (.aload_n 0, 1) := lkT_ok tk_MMo_lose rfl
theorem d_MMo_lose_86 : decode MMo_lose.2.2.1 86 = .ok (.dup, 1) := lkT_ok tk_MMo_lose rfl
theorem d_MMo_lose_87 : decode MMo_lose.2.2.1 87 = .ok (.getfield 44, 3) := lkT_ok tk_MMo_lose rfl
theorem d_MMo_lose_90 : decode MMo_lose.2.2.1 90 = .ok (.iload_n 3, 1) := lkT_ok tk_MMo_lose rfl
theorem d_MMo_lose_91 : decode MMo_lose.2.2.1 91 = .ok (.isub, 1) := lkT_ok tk_MMo_lose rfl
theorem d_MMo_lose_92 : decode MMo_lose.2.2.1 92 = .ok (.putfield 44, 3) := lkT_ok tk_MMo_lose rfl
theorem d_MMo_lose_95 : decode MMo_lose.2.2.1 95 = .ok (.aload_n 0, 1) := lkT_ok tk_MMo_lose rfl
theorem d_MMo_lose_96 : decode MMo_lose.2.2.1 96 = .ok (.dup, 1) := lkT_ok tk_MMo_lose rfl
theorem d_MMo_lose_97 : decode MMo_lose.2.2.1 97 = .ok (.getfield 64, 3) := lkT_ok tk_MMo_lose rfl
theorem d_MMo_lose_100 : decode MMo_lose.2.2.1 100 = .ok (.iload_n 1, 1) := lkT_ok tk_MMo_lose rfl
theorem d_MMo_lose_101 : decode MMo_lose.2.2.1 101 = .ok (.iadd, 1) := lkT_ok tk_MMo_lose rfl
theorem d_MMo_lose_102 : decode MMo_lose.2.2.1 102 = .ok (.putfield 64, 3) := lkT_ok tk_MMo_lose rfl
theorem d_MMo_lose_105 : decode MMo_lose.2.2.1 105 = .ok (.aload_n 0, 1) := lkT_ok tk_MMo_lose rfl
theorem d_MMo_lose_106 : decode MMo_lose.2.2.1 106 = .ok (.dup, 1) := lkT_ok tk_MMo_lose rfl
theorem d_MMo_lose_107 : decode MMo_lose.2.2.1 107 = .ok (.getfield 67, 3) := lkT_ok tk_MMo_lose rfl
theorem d_MMo_lose_110 : decode MMo_lose.2.2.1 110 = .ok (.iload_n 2, 1) := lkT_ok tk_MMo_lose rfl
theorem d_MMo_lose_111 : decode MMo_lose.2.2.1 111 = .ok (.iadd, 1) := lkT_ok tk_MMo_lose rfl
theorem d_MMo_lose_112 : decode MMo_lose.2.2.1 112 = .ok (.putfield 67, 3) := lkT_ok tk_MMo_lose rfl
theorem d_MMo_lose_115 : decode MMo_lose.2.2.1 115 = .ok (.aload_n 0, 1) := lkT_ok tk_MMo_lose rfl
theorem d_MMo_lose_116 : decode MMo_lose.2.2.1 116 = .ok (.dup, 1) := lkT_ok tk_MMo_lose rfl
theorem d_MMo_lose_117 : decode MMo_lose.2.2.1 117 = .ok (.getfield 70, 3) := lkT_ok tk_MMo_lose rfl
theorem d_MMo_lose_120 : decode MMo_lose.2.2.1 120 = .ok (.iload_n 3, 1) := lkT_ok tk_MMo_lose rfl
theorem d_MMo_lose_121 : decode MMo_lose.2.2.1 121 = .ok (.iadd, 1) := lkT_ok tk_MMo_lose rfl
theorem d_MMo_lose_122 : decode MMo_lose.2.2.1 122 = .ok (.putfield 70, 3) := lkT_ok tk_MMo_lose rfl
theorem d_MMo_lose_125 : decode MMo_lose.2.2.1 125 = .ok (.return_, 1) := lkT_ok tk_MMo_lose rfl
theorem r_MMo_lose_0 {l1 l2 l3 : Value} {x : Nat} : Rr X d MMo_lose 0 [.ref x, l1, l2, l3] st h = Rr X d MMo_lose 1 [.ref x, l1, l2, l3] (.ref x :: st) h := Rr_nx d_MMo_lose_0 rfl
theorem r_MMo_lose_1 {a : Nat} (hq : qM a 5 5 = true) : Rr X d MMo_lose 1 L (.ref a :: st) (Wd mu la ro et) = Rr X d MMo_lose 4 L (va_rf (ro a 5) :: st) (Wd mu la ro et) := R_gfM d_MMo_lose_1 ff_5_31 hq
theorem r_MMo_lose_4 {x : Nat} : Rr X d MMo_lose 4 L (.ref x :: st) h = Rr X d MMo_lose 7 L st h := R_nul1 d_MMo_lose_4
theorem r_MMo_lose_4n : Rr X d MMo_lose 4 L (.null :: st) h = Rr X d MMo_lose 30 L st h := R_nul0 d_MMo_lose_4 (by decide)
theorem r_MMo_lose_7 {l1 l2 l3 : Value} {x : Nat} : Rr X d MMo_lose 7 [.ref x, l1, l2, l3] st h = Rr X d MMo_lose 8 [.ref x, l1, l2, l3] (.ref x :: st) h := Rr_nx d_MMo_lose_7 rfl
theorem r_MMo_lose_8 {a : Nat} (hq : qM a 5 5 = true) : Rr X d MMo_lose 8 L (.ref a :: st) (Wd mu la ro et) = Rr X d MMo_lose 11 L (va_rf (ro a 5) :: st) (Wd mu la ro et) := R_gfM d_MMo_lose_8 ff_5_31 hq
theorem r_MMo_lose_11 {l1 l2 l3 : Value} {x : Nat} : Rr X d MMo_lose 11 [.ref x, l1, l2, l3] st h = Rr X d MMo_lose 12 [.ref x, l1, l2, l3] (.ref x :: st) h := Rr_nx d_MMo_lose_11 rfl
theorem r_MMo_lose_12 {a : Nat} (hq : qI a 5 7 = true) : Rr X d MMo_lose 12 L (.ref a :: st) (Wd mu la ro et) = Rr X d MMo_lose 15 L (.int (mu a 7) :: st) (Wd mu la ro et) := R_gfI d_MMo_lose_12 ff_5_38 hq
theorem r_MMo_lose_15 {l1 l2 l3 : Value} {x : Nat} : Rr X d MMo_lose 15 [.ref x, l1, l2, l3] st h = Rr X d MMo_lose 16 [.ref x, l1, l2, l3] (.ref x :: st) h := Rr_nx d_MMo_lose_15 rfl
theorem r_MMo_lose_16 {a : Nat} (hq : qI a 5 8 = true) : Rr X d MMo_lose 16 L (.ref a :: st) (Wd mu la ro et) = Rr X d MMo_lose 19 L (.int (mu a 8) :: st) (Wd mu la ro et) := R_gfI d_MMo_lose_16 ff_5_41 hq
theorem r_MMo_lose_19 {l1 l2 l3 : Value} {x : Nat} : Rr X d MMo_lose 19 [.ref x, l1, l2, l3] st h = Rr X d MMo_lose 20 [.ref x, l1, l2, l3] (.ref x :: st) h := Rr_nx d_MMo_lose_19 rfl
theorem r_MMo_lose_20 {a : Nat} (hq : qI a 5 9 = true) : Rr X d MMo_lose 20 L (.ref a :: st) (Wd mu la ro et) = Rr X d MMo_lose 23 L (.int (mu a 9) :: st) (Wd mu la ro et) := R_gfI d_MMo_lose_20 ff_5_44 hq
theorem r_MMo_lose_23 {l1 l2 l3 : Value} {x : Nat} : Rr X d MMo_lose 23 [.ref x, l1, l2, l3] st h = Rr X d MMo_lose 24 [.ref x, l1, l2, l3] (.ref x :: st) h := Rr_nx d_MMo_lose_23 rfl
theorem r_MMo_lose_24 {a : Nat} (hq : qI a 5 10 = true) : Rr X d MMo_lose 24 L (.ref a :: st) (Wd mu la ro et) = Rr X d MMo_lose 27 L (.int (mu a 10) :: st) (Wd mu la ro et) := R_gfI d_MMo_lose_24 ff_5_47 hq
theorem fc_5_110 : fC 5 110 = some (0, 3, 4, MFl_name) := rfl
theorem r_MMo_lose_27 {y0 : Int32} {y1 : Int32} {y2 : Int32} {y3 : Int32} {a : Nat} (hO : qO a 3 = true) (hc : ckS st = true) : Rr X (d + 1) MMo_lose 27 L (.int y3 :: .int y2 :: .int y1 :: .int y0 :: .ref a :: st) (Wd mu la ro et) = (Rr X d MFl_name 0 [.ref a, .int y0, .int y1, .int y2, .int y3] [] (Wd mu la ro et)).bind fun q => Rr X (d + 1) MMo_lose 30 L (psh q.1 st) q.2 := R_iv (av := [.int y3, .int y2, .int y1, .int y0]) d_MMo_lose_27 fc_5_110 hO (ckS_le hc) rfl (Nat.le_of_ble_eq_true rfl) (Nat.le_of_ble_eq_true rfl)
theorem r_MMo_lose_30 {l1 l2 l3 : Value} {x : Nat} : Rr X d MMo_lose 30 [.ref x, l1, l2, l3] st h = Rr X d MMo_lose 31 [.ref x, l1, l2, l3] (.ref x :: st) h := Rr_nx d_MMo_lose_30 rfl
theorem r_MMo_lose_31 : Rr X d MMo_lose 31 L st h = Rr X d MMo_lose 32 L (.int (0) :: st) h := Rr_nx d_MMo_lose_31 rfl
theorem r_MMo_lose_32 {l1 l2 l3 : Value} {x : Nat} : Rr X d MMo_lose 32 [.ref x, l1, l2, l3] st h = Rr X d MMo_lose 33 [.ref x, l1, l2, l3] (.ref x :: st) h := Rr_nx d_MMo_lose_32 rfl
theorem r_MMo_lose_33 {a : Nat} (hq : qI a 5 7 = true) : Rr X d MMo_lose 33 L (.ref a :: st) (Wd mu la ro et) = Rr X d MMo_lose 36 L (.int (mu a 7) :: st) (Wd mu la ro et) := R_gfI d_MMo_lose_33 ff_5_38 hq
theorem r_MMo_lose_36 {x : Int32} (hc : ckS st = true) : Rr X (d + 1) MMo_lose 36 L (.int x :: st) h = Rr X (d + 1) MMo_lose 39 L (.int (if 0 ≤ x then x else 0 - x) :: st) h := R_abs d_MMo_lose_36 fc_5_96 (ckS_le hc)
theorem fc_5_116 : fC 5 116 = some (0, 5, 2, MMo_lossOf) := rfl
theorem r_MMo_lose_39 {y0 : Int32} {y1 : Int32} {a : Nat} (hO : qO a 5 = true) (hc : ckS st = true) : Rr X (d + 1) MMo_lose 39 L (.int y1 :: .int y0 :: .ref a :: st) (Wd mu la ro et) = (Rr X d MMo_lossOf 0 [.ref a, .int y0, .int y1] [] (Wd mu la ro et)).bind fun q => Rr X (d + 1) MMo_lose 42 L (psh q.1 st) q.2 := R_iv (av := [.int y1, .int y0]) d_MMo_lose_39 fc_5_116 hO (ckS_le hc) rfl (Nat.le_of_ble_eq_true rfl) (Nat.le_of_ble_eq_true rfl)
theorem r_MMo_lose_42 {l0 l1 l2 l3 : Value} {x : Int32} : Rr X d MMo_lose 42 [l0, l1, l2, l3] (.int x :: st) h = Rr X d MMo_lose 43 (sL [l0, l1, l2, l3] 1 (.int x)) st h := Rr_nx d_MMo_lose_42 rfl
theorem r_MMo_lose_43 {l1 l2 l3 : Value} {x : Nat} : Rr X d MMo_lose 43 [.ref x, l1, l2, l3] st h = Rr X d MMo_lose 44 [.ref x, l1, l2, l3] (.ref x :: st) h := Rr_nx d_MMo_lose_43 rfl
theorem r_MMo_lose_44 : Rr X d MMo_lose 44 L st h = Rr X d MMo_lose 45 L (.int (1) :: st) h := Rr_nx d_MMo_lose_44 rfl
theorem r_MMo_lose_45 {l1 l2 l3 : Value} {x : Nat} : Rr X d MMo_lose 45 [.ref x, l1, l2, l3] st h = Rr X d MMo_lose 46 [.ref x, l1, l2, l3] (.ref x :: st) h := Rr_nx d_MMo_lose_45 rfl
theorem r_MMo_lose_46 {a : Nat} (hq : qI a 5 8 = true) : Rr X d MMo_lose 46 L (.ref a :: st) (Wd mu la ro et) = Rr X d MMo_lose 49 L (.int (mu a 8) :: st) (Wd mu la ro et) := R_gfI d_MMo_lose_46 ff_5_41 hq
theorem r_MMo_lose_49 {y0 : Int32} {y1 : Int32} {a : Nat} (hO : qO a 5 = true) (hc : ckS st = true) : Rr X (d + 1) MMo_lose 49 L (.int y1 :: .int y0 :: .ref a :: st) (Wd mu la ro et) = (Rr X d MMo_lossOf 0 [.ref a, .int y0, .int y1] [] (Wd mu la ro et)).bind fun q => Rr X (d + 1) MMo_lose 52 L (psh q.1 st) q.2 := R_iv (av := [.int y1, .int y0]) d_MMo_lose_49 fc_5_116 hO (ckS_le hc) rfl (Nat.le_of_ble_eq_true rfl) (Nat.le_of_ble_eq_true rfl)
theorem r_MMo_lose_52 {l0 l1 l2 l3 : Value} {x : Int32} : Rr X d MMo_lose 52 [l0, l1, l2, l3] (.int x :: st) h = Rr X d MMo_lose 53 (sL [l0, l1, l2, l3] 2 (.int x)) st h := Rr_nx d_MMo_lose_52 rfl
theorem r_MMo_lose_53 {l1 l2 l3 : Value} {x : Nat} : Rr X d MMo_lose 53 [.ref x, l1, l2, l3] st h = Rr X d MMo_lose 54 [.ref x, l1, l2, l3] (.ref x :: st) h := Rr_nx d_MMo_lose_53 rfl
theorem r_MMo_lose_54 : Rr X d MMo_lose 54 L st h = Rr X d MMo_lose 55 L (.int (2) :: st) h := Rr_nx d_MMo_lose_54 rfl
theorem r_MMo_lose_55 {l1 l2 l3 : Value} {x : Nat} : Rr X d MMo_lose 55 [.ref x, l1, l2, l3] st h = Rr X d MMo_lose 56 [.ref x, l1, l2, l3] (.ref x :: st) h := Rr_nx d_MMo_lose_55 rfl
theorem r_MMo_lose_56 {a : Nat} (hq : qI a 5 9 = true) : Rr X d MMo_lose 56 L (.ref a :: st) (Wd mu la ro et) = Rr X d MMo_lose 59 L (.int (mu a 9) :: st) (Wd mu la ro et) := R_gfI d_MMo_lose_56 ff_5_44 hq
theorem r_MMo_lose_59 {y0 : Int32} {y1 : Int32} {a : Nat} (hO : qO a 5 = true) (hc : ckS st = true) : Rr X (d + 1) MMo_lose 59 L (.int y1 :: .int y0 :: .ref a :: st) (Wd mu la ro et) = (Rr X d MMo_lossOf 0 [.ref a, .int y0, .int y1] [] (Wd mu la ro et)).bind fun q => Rr X (d + 1) MMo_lose 62 L (psh q.1 st) q.2 := R_iv (av := [.int y1, .int y0]) d_MMo_lose_59 fc_5_116 hO (ckS_le hc) rfl (Nat.le_of_ble_eq_true rfl) (Nat.le_of_ble_eq_true rfl)
theorem r_MMo_lose_62 {l0 l1 l2 l3 : Value} {x : Int32} : Rr X d MMo_lose 62 [l0, l1, l2, l3] (.int x :: st) h = Rr X d MMo_lose 63 (sL [l0, l1, l2, l3] 3 (.int x)) st h := Rr_nx d_MMo_lose_62 rfl
theorem r_MMo_lose_63 {l1 l2 l3 : Value} {x : Nat} : Rr X d MMo_lose 63 [.ref x, l1, l2, l3] st h = Rr X d MMo_lose 64 [.ref x, l1, l2, l3] (.ref x :: st) h := Rr_nx d_MMo_lose_63 rfl
theorem r_MMo_lose_64 {l1 l2 l3 : Value} {x : Nat} : Rr X d MMo_lose 64 [.ref x, l1, l2, l3] st h = Rr X d MMo_lose 65 [.ref x, l1, l2, l3] (.ref x :: st) h := Rr_nx d_MMo_lose_64 rfl
theorem r_MMo_lose_65 {a : Nat} (hq : qI a 5 7 = true) : Rr X d MMo_lose 65 L (.ref a :: st) (Wd mu la ro et) = Rr X d MMo_lose 68 L (.int (mu a 7) :: st) (Wd mu la ro et) := R_gfI d_MMo_lose_65 ff_5_38 hq
theorem r_MMo_lose_68 {l0 l2 l3 : Value} {x : Int32} : Rr X d MMo_lose 68 [l0, .int x, l2, l3] st h = Rr X d MMo_lose 69 [l0, .int x, l2, l3] (.int x :: st) h := Rr_nx d_MMo_lose_68 rfl
theorem r_MMo_lose_69 {y0 : Int32} {y1 : Int32} (hc : ckS st = true) : Rr X (d + 1) MMo_lose 69 L (.int y1 :: .int y0 :: st) h = (Rr X d MMo_nearer 0 [.int y0, .int y1] [] h).bind fun q => Rr X (d + 1) MMo_lose 72 L (psh q.1 st) q.2 := R_is (av := [.int y1, .int y0]) d_MMo_lose_69 (Or.inl fc_5_92) (ckS_le hc) rfl (Nat.le_of_ble_eq_true rfl) (Nat.le_of_ble_eq_true rfl)
theorem r_MMo_lose_72 {a : Nat} {x : Int32} (hq : qI a 5 7 = true) : Rr X d MMo_lose 72 L (.int x :: .ref a :: st) (Wd mu la ro et) = Rr X d MMo_lose 75 L st (Wd (up2 mu a 7 x) la ro et) := R_pfI d_MMo_lose_72 ff_5_38 hq
theorem r_MMo_lose_75 {l1 l2 l3 : Value} {x : Nat} : Rr X d MMo_lose 75 [.ref x, l1, l2, l3] st h = Rr X d MMo_lose 76 [.ref x, l1, l2, l3] (.ref x :: st) h := Rr_nx d_MMo_lose_75 rfl
theorem r_MMo_lose_76 {x : Nat} : Rr X d MMo_lose 76 L (.ref x :: st) h = Rr X d MMo_lose 77 L (.ref x :: .ref x :: st) h := Rr_nx d_MMo_lose_76 rfl
theorem r_MMo_lose_76i {x : Int32} : Rr X d MMo_lose 76 L (.int x :: st) h = Rr X d MMo_lose 77 L (.int x :: .int x :: st) h := Rr_nx d_MMo_lose_76 rfl
theorem r_MMo_lose_77 {a : Nat} (hq : qI a 5 8 = true) : Rr X d MMo_lose 77 L (.ref a :: st) (Wd mu la ro et) = Rr X d MMo_lose 80 L (.int (mu a 8) :: st) (Wd mu la ro et) := R_gfI d_MMo_lose_77 ff_5_41 hq
theorem r_MMo_lose_80 {l0 l1 l3 : Value} {x : Int32} : Rr X d MMo_lose 80 [l0, l1, .int x, l3] st h = Rr X d MMo_lose 81 [l0, l1, .int x, l3] (.int x :: st) h := Rr_nx d_MMo_lose_80 rfl
theorem r_MMo_lose_81 {x y : Int32} : Rr X d MMo_lose 81 L (.int y :: .int x :: st) h = Rr X d MMo_lose 82 L (.int (x - y) :: st) h := Rr_nx d_MMo_lose_81 rfl
theorem r_MMo_lose_82 {a : Nat} {x : Int32} (hq : qI a 5 8 = true) : Rr X d MMo_lose 82 L (.int x :: .ref a :: st) (Wd mu la ro et) = Rr X d MMo_lose 85 L st (Wd (up2 mu a 8 x) la ro et) := R_pfI d_MMo_lose_82 ff_5_41 hq
theorem r_MMo_lose_85 {l1 l2 l3 : Value} {x : Nat} : Rr X d MMo_lose 85 [.ref x, l1, l2, l3] st h = Rr X d MMo_lose 86 [.ref x, l1, l2, l3] (.ref x :: st) h := Rr_nx d_MMo_lose_85 rfl
theorem r_MMo_lose_86 {x : Nat} : Rr X d MMo_lose 86 L (.ref x :: st) h = Rr X d MMo_lose 87 L (.ref x :: .ref x :: st) h := Rr_nx d_MMo_lose_86 rfl
theorem r_MMo_lose_86i {x : Int32} : Rr X d MMo_lose 86 L (.int x :: st) h = Rr X d MMo_lose 87 L (.int x :: .int x :: st) h := Rr_nx d_MMo_lose_86 rfl
theorem r_MMo_lose_87 {a : Nat} (hq : qI a 5 9 = true) : Rr X d MMo_lose 87 L (.ref a :: st) (Wd mu la ro et) = Rr X d MMo_lose 90 L (.int (mu a 9) :: st) (Wd mu la ro et) := R_gfI d_MMo_lose_87 ff_5_44 hq
theorem r_MMo_lose_90 {l0 l1 l2 : Value} {x : Int32} : Rr X d MMo_lose 90 [l0, l1, l2, .int x] st h = Rr X d MMo_lose 91 [l0, l1, l2, .int x] (.int x :: st) h := Rr_nx d_MMo_lose_90 rfl
theorem r_MMo_lose_91 {x y : Int32} : Rr X d MMo_lose 91 L (.int y :: .int x :: st) h = Rr X d MMo_lose 92 L (.int (x - y) :: st) h := Rr_nx d_MMo_lose_91 rfl
theorem r_MMo_lose_92 {a : Nat} {x : Int32} (hq : qI a 5 9 = true) : Rr X d MMo_lose 92 L (.int x :: .ref a :: st) (Wd mu la ro et) = Rr X d MMo_lose 95 L st (Wd (up2 mu a 9 x) la ro et) := R_pfI d_MMo_lose_92 ff_5_44 hq
theorem r_MMo_lose_95 {l1 l2 l3 : Value} {x : Nat} : Rr X d MMo_lose 95 [.ref x, l1, l2, l3] st h = Rr X d MMo_lose 96 [.ref x, l1, l2, l3] (.ref x :: st) h := Rr_nx d_MMo_lose_95 rfl
theorem r_MMo_lose_96 {x : Nat} : Rr X d MMo_lose 96 L (.ref x :: st) h = Rr X d MMo_lose 97 L (.ref x :: .ref x :: st) h := Rr_nx d_MMo_lose_96 rfl
theorem r_MMo_lose_96i {x : Int32} : Rr X d MMo_lose 96 L (.int x :: st) h = Rr X d MMo_lose 97 L (.int x :: .int x :: st) h := Rr_nx d_MMo_lose_96 rfl
theorem r_MMo_lose_97 {a : Nat} (hq : qI a 5 14 = true) : Rr X d MMo_lose 97 L (.ref a :: st) (Wd mu la ro et) = Rr X d MMo_lose 100 L (.int (mu a 14) :: st) (Wd mu la ro et) := R_gfI d_MMo_lose_97 ff_5_64 hq
theorem r_MMo_lose_100 {l0 l2 l3 : Value} {x : Int32} : Rr X d MMo_lose 100 [l0, .int x, l2, l3] st h = Rr X d MMo_lose 101 [l0, .int x, l2, l3] (.int x :: st) h := Rr_nx d_MMo_lose_100 rfl
theorem r_MMo_lose_101 {x y : Int32} : Rr X d MMo_lose 101 L (.int y :: .int x :: st) h = Rr X d MMo_lose 102 L (.int (x + y) :: st) h := Rr_nx d_MMo_lose_101 rfl
theorem r_MMo_lose_102 {a : Nat} {x : Int32} (hq : qI a 5 14 = true) : Rr X d MMo_lose 102 L (.int x :: .ref a :: st) (Wd mu la ro et) = Rr X d MMo_lose 105 L st (Wd (up2 mu a 14 x) la ro et) := R_pfI d_MMo_lose_102 ff_5_64 hq
theorem r_MMo_lose_105 {l1 l2 l3 : Value} {x : Nat} : Rr X d MMo_lose 105 [.ref x, l1, l2, l3] st h = Rr X d MMo_lose 106 [.ref x, l1, l2, l3] (.ref x :: st) h := Rr_nx d_MMo_lose_105 rfl
theorem r_MMo_lose_106 {x : Nat} : Rr X d MMo_lose 106 L (.ref x :: st) h = Rr X d MMo_lose 107 L (.ref x :: .ref x :: st) h := Rr_nx d_MMo_lose_106 rfl
theorem r_MMo_lose_106i {x : Int32} : Rr X d MMo_lose 106 L (.int x :: st) h = Rr X d MMo_lose 107 L (.int x :: .int x :: st) h := Rr_nx d_MMo_lose_106 rfl
theorem r_MMo_lose_107 {a : Nat} (hq : qI a 5 15 = true) : Rr X d MMo_lose 107 L (.ref a :: st) (Wd mu la ro et) = Rr X d MMo_lose 110 L (.int (mu a 15) :: st) (Wd mu la ro et) := R_gfI d_MMo_lose_107 ff_5_67 hq
theorem r_MMo_lose_110 {l0 l1 l3 : Value} {x : Int32} : Rr X d MMo_lose 110 [l0, l1, .int x, l3] st h = Rr X d MMo_lose 111 [l0, l1, .int x, l3] (.int x :: st) h := Rr_nx d_MMo_lose_110 rfl
theorem r_MMo_lose_111 {x y : Int32} : Rr X d MMo_lose 111 L (.int y :: .int x :: st) h = Rr X d MMo_lose 112 L (.int (x + y) :: st) h := Rr_nx d_MMo_lose_111 rfl
theorem r_MMo_lose_112 {a : Nat} {x : Int32} (hq : qI a 5 15 = true) : Rr X d MMo_lose 112 L (.int x :: .ref a :: st) (Wd mu la ro et) = Rr X d MMo_lose 115 L st (Wd (up2 mu a 15 x) la ro et) := R_pfI d_MMo_lose_112 ff_5_67 hq
theorem r_MMo_lose_115 {l1 l2 l3 : Value} {x : Nat} : Rr X d MMo_lose 115 [.ref x, l1, l2, l3] st h = Rr X d MMo_lose 116 [.ref x, l1, l2, l3] (.ref x :: st) h := Rr_nx d_MMo_lose_115 rfl
theorem r_MMo_lose_116 {x : Nat} : Rr X d MMo_lose 116 L (.ref x :: st) h = Rr X d MMo_lose 117 L (.ref x :: .ref x :: st) h := Rr_nx d_MMo_lose_116 rfl
theorem r_MMo_lose_116i {x : Int32} : Rr X d MMo_lose 116 L (.int x :: st) h = Rr X d MMo_lose 117 L (.int x :: .int x :: st) h := Rr_nx d_MMo_lose_116 rfl
theorem r_MMo_lose_117 {a : Nat} (hq : qI a 5 16 = true) : Rr X d MMo_lose 117 L (.ref a :: st) (Wd mu la ro et) = Rr X d MMo_lose 120 L (.int (mu a 16) :: st) (Wd mu la ro et) := R_gfI d_MMo_lose_117 ff_5_70 hq
theorem r_MMo_lose_120 {l0 l1 l2 : Value} {x : Int32} : Rr X d MMo_lose 120 [l0, l1, l2, .int x] st h = Rr X d MMo_lose 121 [l0, l1, l2, .int x] (.int x :: st) h := Rr_nx d_MMo_lose_120 rfl
theorem r_MMo_lose_121 {x y : Int32} : Rr X d MMo_lose 121 L (.int y :: .int x :: st) h = Rr X d MMo_lose 122 L (.int (x + y) :: st) h := Rr_nx d_MMo_lose_121 rfl
theorem r_MMo_lose_122 {a : Nat} {x : Int32} (hq : qI a 5 16 = true) : Rr X d MMo_lose 122 L (.int x :: .ref a :: st) (Wd mu la ro et) = Rr X d MMo_lose 125 L st (Wd (up2 mu a 16 x) la ro et) := R_pfI d_MMo_lose_122 ff_5_70 hq
theorem r_MMo_lose_125 : Rr X d MMo_lose 125 L [] h = some (none, h) := Rr_rt d_MMo_lose_125 rfl
theorem d_MMo_lossOf_0 : decode MMo_lossOf.2.2.1 0 = .ok (.aload_n 0, 1) := lkT_ok tk_MMo_lossOf rfl
theorem d_MMo_lossOf_1 : decode MMo_lossOf.2.2.1 1 = .ok (.getfield 31, 3) := lkT_ok tk_MMo_lossOf rfl
theorem d_MMo_lossOf_4 : decode MMo_lossOf.2.2.1 4 = .ok (.ifnull 15, 3) := lkT_ok tk_MMo_lossOf rfl
theorem d_MMo_lossOf_7 : decode MMo_lossOf.2.2.1 7 = .ok (.aload_n 0, 1) := lkT_ok tk_MMo_lossOf rfl
theorem d_MMo_lossOf_8 : decode MMo_lossOf.2.2.1 8 = .ok (.getfield 31, 3) := lkT_ok tk_MMo_lossOf rfl
theorem d_MMo_lossOf_11 : decode MMo_lossOf.2.2.1 11 = .ok (.iload_n 1, 1) := lkT_ok tk_MMo_lossOf rfl
theorem d_MMo_lossOf_12 : decode MMo_lossOf.2.2.1 12 = .ok (.iload_n 2, 1) := lkT_ok tk_MMo_lossOf rfl
theorem d_MMo_lossOf_13 : decode MMo_lossOf.2.2.1 13 = .ok (.invokevirtual 119, 3) := lkT_ok tk_MMo_lossOf rfl
theorem d_MMo_lossOf_16 : decode MMo_lossOf.2.2.1 16 = .ok (.goto 15, 3) := lkT_ok tk_MMo_lossOf rfl
theorem d_MMo_lossOf_19 : decode MMo_lossOf.2.2.1 19 = .ok (.iload_n 2, 1) := lkT_ok tk_MMo_lossOf rfl
theorem d_MMo_lossOf_20 : decode MMo_lossOf.2.2.1 20 = .ok (.aload_n 0, 1) := lkT_ok tk_MMo_lossOf rfl
theorem d_MMo_lossOf_21 : decode MMo_lossOf.2.2.1 21 = .ok (.getfield 35, 3) := lkT_ok tk_MMo_lossOf rfl
theorem d_MMo_lossOf_24 : decode MMo_lossOf.2.2.1 24 = .ok (.imul, 1) := lkT_ok tk_MMo_lossOf rfl
theorem d_MMo_lossOf_25 : decode MMo_lossOf.2.2.1 25 = .ok (.bipush 99, 2) := lkT_ok tk_MMo_lossOf rfl
theorem d_MMo_lossOf_27 : decode MMo_lossOf.2.2.1 27 = .ok (.iadd, 1) := lkT_ok tk_MMo_lossOf rfl
theorem d_MMo_lossOf_28 : decode MMo_lossOf.2.2.1 28 = .ok (.bipush 100, 2) := lkT_ok tk_MMo_lossOf rfl
theorem d_MMo_lossOf_30 : decode MMo_lossOf.2.2.1 30 = .ok (.idiv, 1) := lkT_ok tk_MMo_lossOf rfl
theorem d_MMo_lossOf_31 : decode MMo_lossOf.2.2.1 31 = .ok (.ireturn, 1) := lkT_ok tk_MMo_lossOf rfl
theorem r_MMo_lossOf_0 {l1 l2 : Value} {x : Nat} : Rr X d MMo_lossOf 0 [.ref x, l1, l2] st h = Rr X d MMo_lossOf 1 [.ref x, l1, l2] (.ref x :: st) h := Rr_nx d_MMo_lossOf_0 rfl
theorem r_MMo_lossOf_1 {a : Nat} (hq : qM a 5 5 = true) : Rr X d MMo_lossOf 1 L (.ref a :: st) (Wd mu la ro et) = Rr X d MMo_lossOf 4 L (va_rf (ro a 5) :: st) (Wd mu la ro et) := R_gfM d_MMo_lossOf_1 ff_5_31 hq
theorem r_MMo_lossOf_4 {x : Nat} : Rr X d MMo_lossOf 4 L (.ref x :: st) h = Rr X d MMo_lossOf 7 L st h := R_nul1 d_MMo_lossOf_4
theorem r_MMo_lossOf_4n : Rr X d MMo_lossOf 4 L (.null :: st) h = Rr X d MMo_lossOf 19 L st h := R_nul0 d_MMo_lossOf_4 (by decide)
theorem r_MMo_lossOf_7 {l1 l2 : Value} {x : Nat} : Rr X d MMo_lossOf 7 [.ref x, l1, l2] st h = Rr X d MMo_lossOf 8 [.ref x, l1, l2] (.ref x :: st) h := Rr_nx d_MMo_lossOf_7 rfl
theorem r_MMo_lossOf_8 {a : Nat} (hq : qM a 5 5 = true) : Rr X d MMo_lossOf 8 L (.ref a :: st) (Wd mu la ro et) = Rr X d MMo_lossOf 11 L (va_rf (ro a 5) :: st) (Wd mu la ro et) := R_gfM d_MMo_lossOf_8 ff_5_31 hq
theorem r_MMo_lossOf_11 {l0 l2 : Value} {x : Int32} : Rr X d MMo_lossOf 11 [l0, .int x, l2] st h = Rr X d MMo_lossOf 12 [l0, .int x, l2] (.int x :: st) h := Rr_nx d_MMo_lossOf_11 rfl
theorem r_MMo_lossOf_12 {l0 l1 : Value} {x : Int32} : Rr X d MMo_lossOf 12 [l0, l1, .int x] st h = Rr X d MMo_lossOf 13 [l0, l1, .int x] (.int x :: st) h := Rr_nx d_MMo_lossOf_12 rfl
theorem fc_5_119 : fC 5 119 = some (0, 3, 2, MFl_takes) := rfl
theorem r_MMo_lossOf_13 {y0 : Int32} {y1 : Int32} {a : Nat} (hO : qO a 3 = true) (hc : ckS st = true) : Rr X (d + 1) MMo_lossOf 13 L (.int y1 :: .int y0 :: .ref a :: st) (Wd mu la ro et) = (Rr X d MFl_takes 0 [.ref a, .int y0, .int y1, mkU, mkU, mkU, mkU] [] (Wd mu la ro et)).bind fun q => Rr X (d + 1) MMo_lossOf 16 L (psh q.1 st) q.2 := R_iv (av := [.int y1, .int y0]) d_MMo_lossOf_13 fc_5_119 hO (ckS_le hc) rfl (Nat.le_of_ble_eq_true rfl) (Nat.le_of_ble_eq_true rfl)
theorem r_MMo_lossOf_16 : Rr X d MMo_lossOf 16 L st h = Rr X d MMo_lossOf 31 L st h := R_goto d_MMo_lossOf_16 (by decide)
theorem r_MMo_lossOf_19 {l0 l1 : Value} {x : Int32} : Rr X d MMo_lossOf 19 [l0, l1, .int x] st h = Rr X d MMo_lossOf 20 [l0, l1, .int x] (.int x :: st) h := Rr_nx d_MMo_lossOf_19 rfl
theorem r_MMo_lossOf_20 {l1 l2 : Value} {x : Nat} : Rr X d MMo_lossOf 20 [.ref x, l1, l2] st h = Rr X d MMo_lossOf 21 [.ref x, l1, l2] (.ref x :: st) h := Rr_nx d_MMo_lossOf_20 rfl
theorem r_MMo_lossOf_21 {a : Nat} (hq : qI a 5 6 = true) : Rr X d MMo_lossOf 21 L (.ref a :: st) (Wd mu la ro et) = Rr X d MMo_lossOf 24 L (.int (mu a 6) :: st) (Wd mu la ro et) := R_gfI d_MMo_lossOf_21 ff_5_35 hq
theorem r_MMo_lossOf_24 {x y : Int32} : Rr X d MMo_lossOf 24 L (.int y :: .int x :: st) h = Rr X d MMo_lossOf 25 L (.int (x * y) :: st) h := Rr_nx d_MMo_lossOf_24 rfl
theorem r_MMo_lossOf_25 : Rr X d MMo_lossOf 25 L st h = Rr X d MMo_lossOf 27 L (.int (99) :: st) h := Rr_nx d_MMo_lossOf_25 rfl
theorem r_MMo_lossOf_27 {x y : Int32} : Rr X d MMo_lossOf 27 L (.int y :: .int x :: st) h = Rr X d MMo_lossOf 28 L (.int (x + y) :: st) h := Rr_nx d_MMo_lossOf_27 rfl
theorem r_MMo_lossOf_28 : Rr X d MMo_lossOf 28 L st h = Rr X d MMo_lossOf 30 L (.int (100) :: st) h := Rr_nx d_MMo_lossOf_28 rfl
theorem r_MMo_lossOf_30 {x y : Int32} : Rr X d MMo_lossOf 30 L (.int y :: .int x :: st) h = if y = 0 then none else Rr X d MMo_lossOf 31 L (.int (x / y) :: st) h := R_dv d_MMo_lossOf_30
theorem r_MMo_lossOf_31 {x : Int32} : Rr X d MMo_lossOf 31 L [.int x] h = some (some (.int x), h) := R_ir d_MMo_lossOf_31 rfl
theorem d_MMo_nearer_0 : decode MMo_nearer.2.2.1 0 = .ok (.iload_n 0, 1) := lkT_ok tk_MMo_nearer rfl
theorem d_MMo_nearer_1 : decode MMo_nearer.2.2.1 1 = .ok (.ifCond .le 9, 3) := lkT_ok tk_MMo_nearer rfl
theorem d_MMo_nearer_4 : decode MMo_nearer.2.2.1 4 = .ok (.iload_n 0, 1) := lkT_ok tk_MMo_nearer rfl
theorem d_MMo_nearer_5 : decode MMo_nearer.2.2.1 5 = .ok (.iload_n 1, 1) := lkT_ok tk_MMo_nearer rfl
theorem d_MMo_nearer_6 : decode MMo_nearer.2.2.1 6 = .ok (.isub, 1) := lkT_ok tk_MMo_nearer rfl
theorem d_MMo_nearer_7 : decode MMo_nearer.2.2.1 7 = .ok (.goto 6, 3) := lkT_ok tk_MMo_nearer rfl
theorem d_MMo_nearer_10 : decode MMo_nearer.2.2.1 10 = .ok (.iload_n 0, 1) := lkT_ok tk_MMo_nearer rfl
theorem d_MMo_nearer_11 : decode MMo_nearer.2.2.1 11 = .ok (.iload_n 1, 1) := lkT_ok tk_MMo_nearer rfl
theorem d_MMo_nearer_12 : decode MMo_nearer.2.2.1 12 = .ok (.iadd, 1) := lkT_ok tk_MMo_nearer rfl
theorem d_MMo_nearer_13 : decode MMo_nearer.2.2.1 13 = .ok (.ireturn, 1) := lkT_ok tk_MMo_nearer rfl
theorem r_MMo_nearer_0 {l1 : Value} {x : Int32} : Rr X d MMo_nearer 0 [.int x, l1] st h = Rr X d MMo_nearer 1 [.int x, l1] (.int x :: st) h := Rr_nx d_MMo_nearer_0 rfl
theorem r_MMo_nearer_1 {x : Int32} : Rr X d MMo_nearer 1 L (.int x :: st) h = if x ≤ 0 then Rr X d MMo_nearer 10 L st h else Rr X d MMo_nearer 4 L st h := R_if_le d_MMo_nearer_1 (by decide)
theorem r_MMo_nearer_4 {l1 : Value} {x : Int32} : Rr X d MMo_nearer 4 [.int x, l1] st h = Rr X d MMo_nearer 5 [.int x, l1] (.int x :: st) h := Rr_nx d_MMo_nearer_4 rfl
theorem r_MMo_nearer_5 {l0 : Value} {x : Int32} : Rr X d MMo_nearer 5 [l0, .int x] st h = Rr X d MMo_nearer 6 [l0, .int x] (.int x :: st) h := Rr_nx d_MMo_nearer_5 rfl
theorem r_MMo_nearer_6 {x y : Int32} : Rr X d MMo_nearer 6 L (.int y :: .int x :: st) h = Rr X d MMo_nearer 7 L (.int (x - y) :: st) h := Rr_nx d_MMo_nearer_6 rfl
theorem r_MMo_nearer_7 : Rr X d MMo_nearer 7 L st h = Rr X d MMo_nearer 13 L st h := R_goto d_MMo_nearer_7 (by decide)
theorem r_MMo_nearer_10 {l1 : Value} {x : Int32} : Rr X d MMo_nearer 10 [.int x, l1] st h = Rr X d MMo_nearer 11 [.int x, l1] (.int x :: st) h := Rr_nx d_MMo_nearer_10 rfl
theorem r_MMo_nearer_11 {l0 : Value} {x : Int32} : Rr X d MMo_nearer 11 [l0, .int x] st h = Rr X d MMo_nearer 12 [l0, .int x] (.int x :: st) h := Rr_nx d_MMo_nearer_11 rfl
theorem r_MMo_nearer_12 {x y : Int32} : Rr X d MMo_nearer 12 L (.int y :: .int x :: st) h = Rr X d MMo_nearer 13 L (.int (x + y) :: st) h := Rr_nx d_MMo_nearer_12 rfl
theorem r_MMo_nearer_13 {x : Int32} : Rr X d MMo_nearer 13 L [.int x] h = some (some (.int x), h) := R_ir d_MMo_nearer_13 rfl
theorem d_MMo_heldTurn_0 : decode MMo_heldTurn.2.2.1 0 = .ok (.sipush (-9999), 3) := lkT_ok tk_MMo_heldTurn rfl
theorem d_MMo_heldTurn_3 : decode MMo_heldTurn.2.2.1 3 = .ok (.sipush 9999, 3) := lkT_ok tk_MMo_heldTurn rfl
theorem d_MMo_heldTurn_6 : decode MMo_heldTurn.2.2.1 6 = .ok (.iload_n 0, 1) := lkT_ok tk_MMo_heldTurn rfl
theorem d_MMo_heldTurn_7 : decode MMo_heldTurn.2.2.1 7 = .ok (.invokestatic 122, 3) := lkT_ok tk_MMo_heldTurn rfl
theorem d_MMo_heldTurn_10 : decode MMo_heldTurn.2.2.1 10 = .ok (.invokestatic 124, 3) := lkT_ok tk_MMo_heldTurn rfl
theorem d_MMo_heldTurn_13 : decode MMo_heldTurn.2.2.1 13 = .ok (.ireturn, 1) := lkT_ok tk_MMo_heldTurn rfl
theorem r_MMo_heldTurn_0 : Rr X d MMo_heldTurn 0 L st h = Rr X d MMo_heldTurn 3 L (.int (-9999) :: st) h := Rr_nx d_MMo_heldTurn_0 rfl
theorem r_MMo_heldTurn_3 : Rr X d MMo_heldTurn 3 L st h = Rr X d MMo_heldTurn 6 L (.int (9999) :: st) h := Rr_nx d_MMo_heldTurn_3 rfl
theorem r_MMo_heldTurn_6 {x : Int32} : Rr X d MMo_heldTurn 6 [.int x] st h = Rr X d MMo_heldTurn 7 [.int x] (.int x :: st) h := Rr_nx d_MMo_heldTurn_6 rfl
theorem fc_5_122 : fC 5 122 = some (7, 0, 0, mI 0) := rfl
theorem r_MMo_heldTurn_7 {x y : Int32} (hc : ckS st = true) : Rr X (d + 1) MMo_heldTurn 7 L (.int y :: .int x :: st) h = Rr X (d + 1) MMo_heldTurn 10 L (.int (if y < x then y else x) :: st) h := R_min d_MMo_heldTurn_7 fc_5_122 (ckS_le hc)
theorem fc_5_124 : fC 5 124 = some (6, 0, 0, mI 0) := rfl
theorem r_MMo_heldTurn_10 {x y : Int32} (hc : ckS st = true) : Rr X (d + 1) MMo_heldTurn 10 L (.int y :: .int x :: st) h = Rr X (d + 1) MMo_heldTurn 13 L (.int (if x < y then y else x) :: st) h := R_max d_MMo_heldTurn_10 fc_5_124 (ckS_le hc)
theorem r_MMo_heldTurn_13 {x : Int32} : Rr X d MMo_heldTurn 13 L [.int x] h = some (some (.int x), h) := R_ir d_MMo_heldTurn_13 rfl
theorem d_MMo_heldRattle_0 : decode MMo_heldRattle.2.2.1 0 = .ok (.iconst 0, 1) := lkT_ok tk_MMo_heldRattle rfl
theorem d_MMo_heldRattle_1 : decode MMo_heldRattle.2.2.1 1 = .ok (.sipush 9999, 3) := lkT_ok tk_MMo_heldRattle rfl
theorem d_MMo_heldRattle_4 : decode MMo_heldRattle.2.2.1 4 = .ok (.iload_n 0, 1) := lkT_ok tk_MMo_heldRattle rfl
theorem d_MMo_heldRattle_5 : decode MMo_heldRattle.2.2.1 5 = .ok (.invokestatic 122, 3) := lkT_ok tk_MMo_heldRattle rfl
theorem d_MMo_heldRattle_8 : decode MMo_heldRattle.2.2.1 8 = .ok (.invokestatic 124, 3) := lkT_ok tk_MMo_heldRattle rfl
theorem d_MMo_heldRattle_11 : decode MMo_heldRattle.2.2.1 11 = .ok (.ireturn, 1) := lkT_ok tk_MMo_heldRattle rfl
theorem r_MMo_heldRattle_0 : Rr X d MMo_heldRattle 0 L st h = Rr X d MMo_heldRattle 1 L (.int (0) :: st) h := Rr_nx d_MMo_heldRattle_0 rfl
theorem r_MMo_heldRattle_1 : Rr X d MMo_heldRattle 1 L st h = Rr X d MMo_heldRattle 4 L (.int (9999) :: st) h := Rr_nx d_MMo_heldRattle_1 rfl
theorem r_MMo_heldRattle_4 {x : Int32} : Rr X d MMo_heldRattle 4 [.int x] st h = Rr X d MMo_heldRattle 5 [.int x] (.int x :: st) h := Rr_nx d_MMo_heldRattle_4 rfl
theorem r_MMo_heldRattle_5 {x y : Int32} (hc : ckS st = true) : Rr X (d + 1) MMo_heldRattle 5 L (.int y :: .int x :: st) h = Rr X (d + 1) MMo_heldRattle 8 L (.int (if y < x then y else x) :: st) h := R_min d_MMo_heldRattle_5 fc_5_122 (ckS_le hc)
theorem r_MMo_heldRattle_8 {x y : Int32} (hc : ckS st = true) : Rr X (d + 1) MMo_heldRattle 8 L (.int y :: .int x :: st) h = Rr X (d + 1) MMo_heldRattle 11 L (.int (if x < y then y else x) :: st) h := R_max d_MMo_heldRattle_8 fc_5_124 (ckS_le hc)
theorem r_MMo_heldRattle_11 {x : Int32} : Rr X d MMo_heldRattle 11 L [.int x] h = some (some (.int x), h) := R_ir d_MMo_heldRattle_11 rfl
theorem d_MMo_run_0 : decode MMo_run.2.2.1 0 = .ok (.iconst 0, 1) := lkT_ok tk_MMo_run rfl
theorem d_MMo_run_1 : decode MMo_run.2.2.1 1 = .ok (.istore_n 2, 1) := lkT_ok tk_MMo_run rfl
theorem d_MMo_run_2 : decode MMo_run.2.2.1 2 = .ok (.iload_n 2, 1) := lkT_ok tk_MMo_run rfl
theorem d_MMo_run_3 : decode MMo_run.2.2.1 3 = .ok (.iload_n 1, 1) := lkT_ok tk_MMo_run rfl
theorem d_MMo_run_4 : decode MMo_run.2.2.1 4 = .ok (.if_icmp .ge 13, 3) := lkT_ok tk_MMo_run rfl
theorem d_MMo_run_7 : decode MMo_run.2.2.1 7 = .ok (.aload_n 0, 1) := lkT_ok tk_MMo_run rfl
theorem d_MMo_run_8 : decode MMo_run.2.2.1 8 = .ok (.invokevirtual 73, 3) := lkT_ok tk_MMo_run rfl
theorem d_MMo_run_11 : decode MMo_run.2.2.1 11 = .ok (.iinc 2 1, 3) := lkT_ok tk_MMo_run rfl
theorem d_MMo_run_14 : decode MMo_run.2.2.1 14 = .ok (.goto (-12), 3) := lkT_ok tk_MMo_run rfl
theorem d_MMo_run_17 : decode MMo_run.2.2.1 17 = .ok (.return_, 1) := lkT_ok tk_MMo_run rfl
theorem r_MMo_run_0 : Rr X d MMo_run 0 L st h = Rr X d MMo_run 1 L (.int (0) :: st) h := Rr_nx d_MMo_run_0 rfl
theorem r_MMo_run_1 {l0 l1 l2 : Value} {x : Int32} : Rr X d MMo_run 1 [l0, l1, l2] (.int x :: st) h = Rr X d MMo_run 2 (sL [l0, l1, l2] 2 (.int x)) st h := Rr_nx d_MMo_run_1 rfl
theorem r_MMo_run_2 {l0 l1 : Value} {x : Int32} : Rr X d MMo_run 2 [l0, l1, .int x] st h = Rr X d MMo_run 3 [l0, l1, .int x] (.int x :: st) h := Rr_nx d_MMo_run_2 rfl
theorem r_MMo_run_3 {l0 l2 : Value} {x : Int32} : Rr X d MMo_run 3 [l0, .int x, l2] st h = Rr X d MMo_run 4 [l0, .int x, l2] (.int x :: st) h := Rr_nx d_MMo_run_3 rfl
theorem r_MMo_run_4 {x y : Int32} : Rr X d MMo_run 4 L (.int y :: .int x :: st) h = if y ≤ x then Rr X d MMo_run 17 L st h else Rr X d MMo_run 7 L st h := R_ic_ge d_MMo_run_4 (by decide)
theorem r_MMo_run_7 {l1 l2 : Value} {x : Nat} : Rr X d MMo_run 7 [.ref x, l1, l2] st h = Rr X d MMo_run 8 [.ref x, l1, l2] (.ref x :: st) h := Rr_nx d_MMo_run_7 rfl
theorem fc_5_73 : fC 5 73 = some (0, 5, 0, MMo_step) := rfl
theorem r_MMo_run_8 {a : Nat} (hO : qO a 5 = true) (hc : ckS st = true) : Rr X (d + 1) MMo_run 8 L (.ref a :: st) (Wd mu la ro et) = (Rr X d MMo_step 0 [.ref a, mkU] [] (Wd mu la ro et)).bind fun q => Rr X (d + 1) MMo_run 11 L (psh q.1 st) q.2 := R_iv (av := []) d_MMo_run_8 fc_5_73 hO (ckS_le hc) rfl (Nat.le_of_ble_eq_true rfl) (Nat.le_of_ble_eq_true rfl)
theorem r_MMo_run_11 {l0 l1 : Value} {x : Int32} : Rr X d MMo_run 11 [l0, l1, .int x] st h = Rr X d MMo_run 14 (sL [l0, l1, .int x] 2 (.int (x + (1)))) st h := Rr_nx d_MMo_run_11 rfl
theorem r_MMo_run_14 : Rr X d MMo_run 14 L st h = Rr X d MMo_run 2 L st h := R_goto d_MMo_run_14 (by decide)
theorem r_MMo_run_17 : Rr X d MMo_run 17 L [] h = some (none, h) := Rr_rt d_MMo_run_17 rfl
end RULES
