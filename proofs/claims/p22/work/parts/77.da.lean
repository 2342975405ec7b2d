section RULES
variable {X : Tok} {d : Nat} {st L : List Value} {h : Hp} {mu : Nat → Nat → Int32} {la : Nat → Nat → Int64} {ro : Nat → Nat → Option Nat} {et : Nat → Option va_E}
theorem d_MTo_keep_0 : decode MTo_keep.2.2.1 0 = .ok (.aload_n 0, 1) := lkT_ok tk_MTo_keep rfl
theorem d_MTo_keep_1 : decode MTo_keep.2.2.1 1 = .ok (.iload_n 1, 1) := lkT_ok tk_MTo_keep rfl
theorem d_MTo_keep_2 : decode MTo_keep.2.2.1 2 = .ok (.invokevirtual 212, 3) := lkT_ok tk_MTo_keep rfl
theorem d_MTo_keep_5 : decode MTo_keep.2.2.1 5 = .ok (.astore_n 3, 1) := lkT_ok tk_MTo_keep rfl
theorem d_MTo_keep_6 : decode MTo_keep.2.2.1 6 = .ok (.aload_n 3, 1) := lkT_ok tk_MTo_keep rfl
theorem d_MTo_keep_7 : decode MTo_keep.2.2.1 7 = .ok (.ifnull 20, 3) := lkT_ok tk_MTo_keep rfl
theorem d_MTo_keep_10 : decode MTo_keep.2.2.1 10 = .ok (.iload_n 2, 1) := lkT_ok tk_MTo_keep rfl
theorem d_MTo_keep_11 : decode MTo_keep.2.2.1 11 = .ok (.iconst (-1), 1) := lkT_ok tk_MTo_keep rfl
theorem d_MTo_keep_12 : decode MTo_keep.2.2.1 12 = .ok (.aload_n 0, 1) := lkT_ok tk_MTo_keep rfl
theorem d_MTo_keep_13 : decode MTo_keep.2.2.1 13 = .ok (.getfield 65, 3) := lkT_ok tk_MTo_keep rfl
theorem d_MTo_keep_16 : decode MTo_keep.2.2.1 16 = .ok (.getfield 248, 3) := lkT_ok tk_MTo_keep rfl
theorem d_MTo_keep_19 : decode MTo_keep.2.2.1 19 = .ok (.iconst 1, 1) := lkT_ok tk_MTo_keep rfl
theorem d_MTo_keep_20 : decode MTo_keep.2.2.1 20 = .ok (.isub, 1) := lkT_ok tk_MTo_keep rfl
theorem d_MTo_keep_21 : decode MTo_keep.2.2.1 21 = .ok (.invokestatic 72, 3) := lkT_ok tk_MTo_keep rfl
theorem d_MTo_keep_24 : decode MTo_keep.2.2.1 24 = .ok (.ifCond .ne 5, 3) := lkT_ok tk_MTo_keep rfl
theorem d_MTo_keep_27 : decode MTo_keep.2.2.1 27 = .ok (.iconst (-1), 1) := lkT_ok tk_MTo_keep rfl
theorem d_MTo_keep_28 : decode MTo_keep.2.2.1 28 = .ok (.ireturn, 1) := lkT_ok tk_MTo_keep rfl
theorem d_MTo_keep_29 : decode MTo_keep.2.2.1 29 = .ok (.aload_n 3, 1) := lkT_ok tk_MTo_keep rfl
theorem d_MTo_keep_30 : decode MTo_keep.2.2.1 30 = .ok (.iload_n 2, 1) := lkT_ok tk_MTo_keep rfl
theorem d_MTo_keep_31 : decode MTo_keep.2.2.1 31 = .ok (.invokevirtual 255, 3) := lkT_ok tk_MTo_keep rfl
theorem d_MTo_keep_34 : decode MTo_keep.2.2.1 34 = .ok (.iconst 1, 1) := lkT_ok tk_MTo_keep rfl
theorem d_MTo_keep_35 : decode MTo_keep.2.2.1 35 = .ok (.ireturn, 1) := lkT_ok tk_MTo_keep rfl
theorem r_MTo_keep_0 {l1 l2 l3 : Value} {x : Nat} : Rr X d MTo_keep 0 [.ref x, l1, l2, l3] st h = Rr X d MTo_keep 1 [.ref x, l1, l2, l3] (.ref x :: st) h := Rr_nx d_MTo_keep_0 rfl
theorem r_MTo_keep_1 {l0 l2 l3 : Value} {x : Int32} : Rr X d MTo_keep 1 [l0, .int x, l2, l3] st h = Rr X d MTo_keep 2 [l0, .int x, l2, l3] (.int x :: st) h := Rr_nx d_MTo_keep_1 rfl
theorem r_MTo_keep_2 {y0 : Int32} {a : Nat} (hO : qO a 9 = true) (hc : ckS st = true) : Rr X (d + 1) MTo_keep 2 L (.int y0 :: .ref a :: st) (Wd mu la ro et) = (Rr X d MTo_shelfAt 0 [.ref a, .int y0] [] (Wd mu la ro et)).bind fun q => Rr X (d + 1) MTo_keep 5 L (psh q.1 st) q.2 := R_iv (av := [.int y0]) d_MTo_keep_2 fc_9_212 hO (ckS_le hc) rfl (Nat.le_of_ble_eq_true rfl) (Nat.le_of_ble_eq_true rfl)
theorem r_MTo_keep_5 {l0 l1 l2 l3 : Value} {x : Nat} : Rr X d MTo_keep 5 [l0, l1, l2, l3] (.ref x :: st) h = Rr X d MTo_keep 6 (sL [l0, l1, l2, l3] 3 (.ref x)) st h := Rr_nx d_MTo_keep_5 rfl
theorem r_MTo_keep_5n {l0 l1 l2 l3 : Value} : Rr X d MTo_keep 5 [l0, l1, l2, l3] (.null :: st) h = Rr X d MTo_keep 6 (sL [l0, l1, l2, l3] 3 .null) st h := Rr_nx d_MTo_keep_5 rfl
theorem r_MTo_keep_6 {l0 l1 l2 : Value} {x : Nat} : Rr X d MTo_keep 6 [l0, l1, l2, .ref x] st h = Rr X d MTo_keep 7 [l0, l1, l2, .ref x] (.ref x :: st) h := Rr_nx d_MTo_keep_6 rfl
theorem r_MTo_keep_6n {l0 l1 l2 : Value} : Rr X d MTo_keep 6 [l0, l1, l2, .null] st h = Rr X d MTo_keep 7 [l0, l1, l2, .null] (.null :: st) h := Rr_nx d_MTo_keep_6 rfl
theorem r_MTo_keep_7 {x : Nat} : Rr X d MTo_keep 7 L (.ref x :: st) h = Rr X d MTo_keep 10 L st h := R_nul1 d_MTo_keep_7
theorem r_MTo_keep_7n : Rr X d MTo_keep 7 L (.null :: st) h = Rr X d MTo_keep 27 L st h := R_nul0 d_MTo_keep_7 (by decide)
theorem r_MTo_keep_10 {l0 l1 l3 : Value} {x : Int32} : Rr X d MTo_keep 10 [l0, l1, .int x, l3] st h = Rr X d MTo_keep 11 [l0, l1, .int x, l3] (.int x :: st) h := Rr_nx d_MTo_keep_10 rfl
theorem r_MTo_keep_11 : Rr X d MTo_keep 11 L st h = Rr X d MTo_keep 12 L (.int (-1) :: st) h := Rr_nx d_MTo_keep_11 rfl
theorem r_MTo_keep_12 {l1 l2 l3 : Value} {x : Nat} : Rr X d MTo_keep 12 [.ref x, l1, l2, l3] st h = Rr X d MTo_keep 13 [.ref x, l1, l2, l3] (.ref x :: st) h := Rr_nx d_MTo_keep_12 rfl
theorem r_MTo_keep_13 {a : Nat} (hq : (qR a 9 8).isSome = true) : Rr X d MTo_keep 13 L (.ref a :: st) (Wd mu la ro et) = Rr X d MTo_keep 16 L (.ref (qRd a 9 8) :: st) (Wd mu la ro et) := R_gfR d_MTo_keep_13 ff_9_65 hq
theorem ff_9_248 : fF 9 248 = some (0, 2, 0, 0) := rfl
theorem r_MTo_keep_16 {a : Nat} (hq : qI a 0 2 = true) : Rr X d MTo_keep 16 L (.ref a :: st) (Wd mu la ro et) = Rr X d MTo_keep 19 L (.int (mu a 2) :: st) (Wd mu la ro et) := R_gfI d_MTo_keep_16 ff_9_248 hq
theorem r_MTo_keep_19 : Rr X d MTo_keep 19 L st h = Rr X d MTo_keep 20 L (.int (1) :: st) h := Rr_nx d_MTo_keep_19 rfl
theorem r_MTo_keep_20 {x y : Int32} : Rr X d MTo_keep 20 L (.int y :: .int x :: st) h = Rr X d MTo_keep 21 L (.int (x - y) :: st) h := Rr_nx d_MTo_keep_20 rfl
theorem r_MTo_keep_21 {y0 : Int32} {y1 : Int32} {y2 : Int32} (hc : ckS st = true) : Rr X (d + 1) MTo_keep 21 L (.int y2 :: .int y1 :: .int y0 :: st) h = (Rr X d MTo_isWithin 0 [.int y0, .int y1, .int y2] [] h).bind fun q => Rr X (d + 1) MTo_keep 24 L (psh q.1 st) q.2 := R_is (av := [.int y2, .int y1, .int y0]) d_MTo_keep_21 (Or.inl fc_9_72) (ckS_le hc) rfl (Nat.le_of_ble_eq_true rfl) (Nat.le_of_ble_eq_true rfl)
theorem r_MTo_keep_24 {x : Int32} : Rr X d MTo_keep 24 L (.int x :: st) h = if ¬ x = 0 then Rr X d MTo_keep 29 L st h else Rr X d MTo_keep 27 L st h := R_if_ne d_MTo_keep_24 (by decide)
theorem r_MTo_keep_27 : Rr X d MTo_keep 27 L st h = Rr X d MTo_keep 28 L (.int (-1) :: st) h := Rr_nx d_MTo_keep_27 rfl
theorem r_MTo_keep_28 {x : Int32} : Rr X d MTo_keep 28 L [.int x] h = some (some (.int x), h) := R_ir d_MTo_keep_28 rfl
theorem r_MTo_keep_29 {l0 l1 l2 : Value} {x : Nat} : Rr X d MTo_keep 29 [l0, l1, l2, .ref x] st h = Rr X d MTo_keep 30 [l0, l1, l2, .ref x] (.ref x :: st) h := Rr_nx d_MTo_keep_29 rfl
theorem r_MTo_keep_29n {l0 l1 l2 : Value} : Rr X d MTo_keep 29 [l0, l1, l2, .null] st h = Rr X d MTo_keep 30 [l0, l1, l2, .null] (.null :: st) h := Rr_nx d_MTo_keep_29 rfl
theorem r_MTo_keep_30 {l0 l1 l3 : Value} {x : Int32} : Rr X d MTo_keep 30 [l0, l1, .int x, l3] st h = Rr X d MTo_keep 31 [l0, l1, .int x, l3] (.int x :: st) h := Rr_nx d_MTo_keep_30 rfl
theorem fc_9_255 : fC 9 255 = some (0, 6, 1, MSh_hold) := rfl
theorem r_MTo_keep_31 {y0 : Int32} {a : Nat} (hO : qO a 6 = true) (hc : ckS st = true) : Rr X (d + 1) MTo_keep 31 L (.int y0 :: .ref a :: st) (Wd mu la ro et) = (Rr X d MSh_hold 0 [.ref a, .int y0] [] (Wd mu la ro et)).bind fun q => Rr X (d + 1) MTo_keep 34 L (psh q.1 st) q.2 := R_iv (av := [.int y0]) d_MTo_keep_31 fc_9_255 hO (ckS_le hc) rfl (Nat.le_of_ble_eq_true rfl) (Nat.le_of_ble_eq_true rfl)
theorem r_MTo_keep_34 : Rr X d MTo_keep 34 L st h = Rr X d MTo_keep 35 L (.int (1) :: st) h := Rr_nx d_MTo_keep_34 rfl
theorem r_MTo_keep_35 {x : Int32} : Rr X d MTo_keep 35 L [.int x] h = some (some (.int x), h) := R_ir d_MTo_keep_35 rfl
theorem d_MTo_body_0 : decode MTo_body.2.2.1 0 = .ok (.iload_n 1, 1) := lkT_ok tk_MTo_body rfl
theorem d_MTo_body_1 : decode MTo_body.2.2.1 1 = .ok (.iconst 0, 1) := lkT_ok tk_MTo_body rfl
theorem d_MTo_body_2 : decode MTo_body.2.2.1 2 = .ok (.bipush 7, 2) := lkT_ok tk_MTo_body rfl
theorem d_MTo_body_4 : decode MTo_body.2.2.1 4 = .ok (.invokestatic 72, 3) := lkT_ok tk_MTo_body rfl
theorem d_MTo_body_7 : decode MTo_body.2.2.1 7 = .ok (.ifCond .ne 5, 3) := lkT_ok tk_MTo_body rfl
theorem d_MTo_body_10 : decode MTo_body.2.2.1 10 = .ok (.iconst (-1), 1) := lkT_ok tk_MTo_body rfl
theorem d_MTo_body_11 : decode MTo_body.2.2.1 11 = .ok (.ireturn, 1) := lkT_ok tk_MTo_body rfl
theorem d_MTo_body_12 : decode MTo_body.2.2.1 12 = .ok (.aload_n 0, 1) := lkT_ok tk_MTo_body rfl
theorem d_MTo_body_13 : decode MTo_body.2.2.1 13 = .ok (.getfield 65, 3) := lkT_ok tk_MTo_body rfl
theorem d_MTo_body_16 : decode MTo_body.2.2.1 16 = .ok (.iload_n 1, 1) := lkT_ok tk_MTo_body rfl
theorem d_MTo_body_17 : decode MTo_body.2.2.1 17 = .ok (.invokevirtual 246, 3) := lkT_ok tk_MTo_body rfl
theorem d_MTo_body_20 : decode MTo_body.2.2.1 20 = .ok (.ifCond .eq 15, 3) := lkT_ok tk_MTo_body rfl
theorem d_MTo_body_23 : decode MTo_body.2.2.1 23 = .ok (.aload_n 0, 1) := lkT_ok tk_MTo_body rfl
theorem d_MTo_body_24 : decode MTo_body.2.2.1 24 = .ok (.getfield 65, 3) := lkT_ok tk_MTo_body rfl
theorem d_MTo_body_27 : decode MTo_body.2.2.1 27 = .ok (.getfield 248, 3) := lkT_ok tk_MTo_body rfl
theorem d_MTo_body_30 : decode MTo_body.2.2.1 30 = .ok (.iconst 1, 1) := lkT_ok tk_MTo_body rfl
theorem d_MTo_body_31 : decode MTo_body.2.2.1 31 = .ok (.isub, 1) := lkT_ok tk_MTo_body rfl
theorem d_MTo_body_32 : decode MTo_body.2.2.1 32 = .ok (.goto 5, 3) := lkT_ok tk_MTo_body rfl
theorem d_MTo_body_35 : decode MTo_body.2.2.1 35 = .ok (.bipush (-3), 2) := lkT_ok tk_MTo_body rfl
theorem d_MTo_body_37 : decode MTo_body.2.2.1 37 = .ok (.ireturn, 1) := lkT_ok tk_MTo_body rfl
theorem r_MTo_body_0 {l0 : Value} {x : Int32} : Rr X d MTo_body 0 [l0, .int x] st h = Rr X d MTo_body 1 [l0, .int x] (.int x :: st) h := Rr_nx d_MTo_body_0 rfl
theorem r_MTo_body_1 : Rr X d MTo_body 1 L st h = Rr X d MTo_body 2 L (.int (0) :: st) h := Rr_nx d_MTo_body_1 rfl
theorem r_MTo_body_2 : Rr X d MTo_body 2 L st h = Rr X d MTo_body 4 L (.int (7) :: st) h := Rr_nx d_MTo_body_2 rfl
theorem r_MTo_body_4 {y0 : Int32} {y1 : Int32} {y2 : Int32} (hc : ckS st = true) : Rr X (d + 1) MTo_body 4 L (.int y2 :: .int y1 :: .int y0 :: st) h = (Rr X d MTo_isWithin 0 [.int y0, .int y1, .int y2] [] h).bind fun q => Rr X (d + 1) MTo_body 7 L (psh q.1 st) q.2 := R_is (av := [.int y2, .int y1, .int y0]) d_MTo_body_4 (Or.inl fc_9_72) (ckS_le hc) rfl (Nat.le_of_ble_eq_true rfl) (Nat.le_of_ble_eq_true rfl)
theorem r_MTo_body_7 {x : Int32} : Rr X d MTo_body 7 L (.int x :: st) h = if ¬ x = 0 then Rr X d MTo_body 12 L st h else Rr X d MTo_body 10 L st h := R_if_ne d_MTo_body_7 (by decide)
theorem r_MTo_body_10 : Rr X d MTo_body 10 L st h = Rr X d MTo_body 11 L (.int (-1) :: st) h := Rr_nx d_MTo_body_10 rfl
theorem r_MTo_body_11 {x : Int32} : Rr X d MTo_body 11 L [.int x] h = some (some (.int x), h) := R_ir d_MTo_body_11 rfl
theorem r_MTo_body_12 {l1 : Value} {x : Nat} : Rr X d MTo_body 12 [.ref x, l1] st h = Rr X d MTo_body 13 [.ref x, l1] (.ref x :: st) h := Rr_nx d_MTo_body_12 rfl
theorem r_MTo_body_13 {a : Nat} (hq : (qR a 9 8).isSome = true) : Rr X d MTo_body 13 L (.ref a :: st) (Wd mu la ro et) = Rr X d MTo_body 16 L (.ref (qRd a 9 8) :: st) (Wd mu la ro et) := R_gfR d_MTo_body_13 ff_9_65 hq
theorem r_MTo_body_16 {l0 : Value} {x : Int32} : Rr X d MTo_body 16 [l0, .int x] st h = Rr X d MTo_body 17 [l0, .int x] (.int x :: st) h := Rr_nx d_MTo_body_16 rfl
theorem fc_9_246 : fC 9 246 = some (0, 0, 1, MBo_append) := rfl
theorem r_MTo_body_17 {y0 : Int32} {a : Nat} (hO : qO a 0 = true) (hc : ckS st = true) : Rr X (d + 1) MTo_body 17 L (.int y0 :: .ref a :: st) (Wd mu la ro et) = (Rr X d MBo_append 0 [.ref a, .int y0] [] (Wd mu la ro et)).bind fun q => Rr X (d + 1) MTo_body 20 L (psh q.1 st) q.2 := R_iv (av := [.int y0]) d_MTo_body_17 fc_9_246 hO (ckS_le hc) rfl (Nat.le_of_ble_eq_true rfl) (Nat.le_of_ble_eq_true rfl)
theorem r_MTo_body_20 {x : Int32} : Rr X d MTo_body 20 L (.int x :: st) h = if x = 0 then Rr X d MTo_body 35 L st h else Rr X d MTo_body 23 L st h := R_if_eq d_MTo_body_20 (by decide)
theorem r_MTo_body_23 {l1 : Value} {x : Nat} : Rr X d MTo_body 23 [.ref x, l1] st h = Rr X d MTo_body 24 [.ref x, l1] (.ref x :: st) h := Rr_nx d_MTo_body_23 rfl
theorem r_MTo_body_24 {a : Nat} (hq : (qR a 9 8).isSome = true) : Rr X d MTo_body 24 L (.ref a :: st) (Wd mu la ro et) = Rr X d MTo_body 27 L (.ref (qRd a 9 8) :: st) (Wd mu la ro et) := R_gfR d_MTo_body_24 ff_9_65 hq
theorem r_MTo_body_27 {a : Nat} (hq : qI a 0 2 = true) : Rr X d MTo_body 27 L (.ref a :: st) (Wd mu la ro et) = Rr X d MTo_body 30 L (.int (mu a 2) :: st) (Wd mu la ro et) := R_gfI d_MTo_body_27 ff_9_248 hq
theorem r_MTo_body_30 : Rr X d MTo_body 30 L st h = Rr X d MTo_body 31 L (.int (1) :: st) h := Rr_nx d_MTo_body_30 rfl
theorem r_MTo_body_31 {x y : Int32} : Rr X d MTo_body 31 L (.int y :: .int x :: st) h = Rr X d MTo_body 32 L (.int (x - y) :: st) h := Rr_nx d_MTo_body_31 rfl
theorem r_MTo_body_32 : Rr X d MTo_body 32 L st h = Rr X d MTo_body 37 L st h := R_goto d_MTo_body_32 (by decide)
theorem r_MTo_body_35 : Rr X d MTo_body 35 L st h = Rr X d MTo_body 37 L (.int (-3) :: st) h := Rr_nx d_MTo_body_35 rfl
theorem r_MTo_body_37 {x : Int32} : Rr X d MTo_body 37 L [.int x] h = some (some (.int x), h) := R_ir d_MTo_body_37 rfl
theorem d_MBo_append_0 : decode MBo_append.2.2.1 0 = .ok (.aload_n 0, 1) := lkT_ok tk_MBo_append rfl
theorem d_MBo_append_1 : decode MBo_append.2.2.1 1 = .ok (.getfield 18, 3) := lkT_ok tk_MBo_append rfl
theorem d_MBo_append_4 : decode MBo_append.2.2.1 4 = .ok (.ifCond .lt 12, 3) := lkT_ok tk_MBo_append rfl
theorem d_MBo_append_7 : decode MBo_append.2.2.1 7 = .ok (.aload_n 0, 1) := lkT_ok tk_MBo_append rfl
theorem d_MBo_append_8 : decode MBo_append.2.2.1 8 = .ok (.getfield 18, 3) := lkT_ok tk_MBo_append rfl
theorem d_MBo_append_11 : decode MBo_append.2.2.1 11 = .ok (.bipush 50, 2) := lkT_ok tk_MBo_append rfl
theorem d_MBo_append_13 : decode MBo_append.2.2.1 13 = .ok (.if_icmp .lt 5, 3) := lkT_ok tk_MBo_append rfl
theorem d_MBo_append_16 : decode MBo_append.2.2.1 16 = .ok (.iconst 0, 1) := lkT_ok tk_MBo_append rfl
theorem d_MBo_append_17 : decode MBo_append.2.2.1 17 = .ok (.ireturn, 1) := lkT_ok tk_MBo_append rfl
theorem d_MBo_append_18 : decode MBo_append.2.2.1 18 = .ok (.aload_n 0, 1) := lkT_ok tk_MBo_append rfl
theorem d_MBo_append_19 : decode MBo_append.2.2.1 19 = .ok (.getfield 11, 3) := lkT_ok tk_MBo_append rfl
theorem d_MBo_append_22 : decode MBo_append.2.2.1 22 = .ok (.aload_n 0, 1) := lkT_ok tk_MBo_append rfl
theorem d_MBo_append_23 : decode MBo_append.2.2.1 23 = .ok (.getfield 18, 3) := lkT_ok tk_MBo_append rfl
theorem d_MBo_append_26 : decode MBo_append.2.2.1 26 = .ok (.iload_n 1, 1) := lkT_ok tk_MBo_append rfl
theorem d_MBo_append_27 : decode MBo_append.2.2.1 27 = .ok (.iastore, 1) := lkT_ok tk_MBo_append rfl
theorem d_MBo_append_28 : decode MBo_append.2.2.1 28 = .ok (.aload_n 0, 1) := lkT_ok tk_MBo_append rfl
theorem d_MBo_append_29 : decode MBo_append.2.2.1 29 = .ok (.dup, 1) := lkT_ok tk_MBo_append rfl
theorem d_MBo_append_30 : decode MBo_append.2.2.1 30 = .ok (.getfield 18, 3) := lkT_ok tk_MBo_append rfl
theorem d_MBo_append_33 : decode MBo_append.2.2.1 33 = .ok (.iconst 1, 1) := lkT_ok tk_MBo_append rfl
theorem d_MBo_append_34 : decode MBo_append.2.2.1 34 = .ok (.iadd, 1) := lkT_ok tk_MBo_append rfl
theorem d_MBo_append_35 : decode MBo_append.2.2.1 35 = .ok (.putfield 18, 3) := lkT_ok tk_MBo_append rfl
theorem d_MBo_append_38 : decode MBo_append.2.2.1 38 = .ok (.iconst 1, 1) := lkT_ok tk_MBo_append rfl
theorem d_MBo_append_39 : decode MBo_append.2.2.1 39 = .ok (.ireturn, 1) := lkT_ok tk_MBo_append rfl
theorem r_MBo_append_0 {l1 : Value} {x : Nat} : Rr X d MBo_append 0 [.ref x, l1] st h = Rr X d MBo_append 1 [.ref x, l1] (.ref x :: st) h := Rr_nx d_MBo_append_0 rfl
theorem r_MBo_append_1 {a : Nat} (hq : qI a 0 2 = true) : Rr X d MBo_append 1 L (.ref a :: st) (Wd mu la ro et) = Rr X d MBo_append 4 L (.int (mu a 2) :: st) (Wd mu la ro et) := R_gfI d_MBo_append_1 ff_0_18 hq
theorem r_MBo_append_4 {x : Int32} : Rr X d MBo_append 4 L (.int x :: st) h = if x < 0 then Rr X d MBo_append 16 L st h else Rr X d MBo_append 7 L st h := R_if_lt d_MBo_append_4 (by decide)
theorem r_MBo_append_7 {l1 : Value} {x : Nat} : Rr X d MBo_append 7 [.ref x, l1] st h = Rr X d MBo_append 8 [.ref x, l1] (.ref x :: st) h := Rr_nx d_MBo_append_7 rfl
theorem r_MBo_append_8 {a : Nat} (hq : qI a 0 2 = true) : Rr X d MBo_append 8 L (.ref a :: st) (Wd mu la ro et) = Rr X d MBo_append 11 L (.int (mu a 2) :: st) (Wd mu la ro et) := R_gfI d_MBo_append_8 ff_0_18 hq
theorem r_MBo_append_11 : Rr X d MBo_append 11 L st h = Rr X d MBo_append 13 L (.int (50) :: st) h := Rr_nx d_MBo_append_11 rfl
theorem r_MBo_append_13 {x y : Int32} : Rr X d MBo_append 13 L (.int y :: .int x :: st) h = if x < y then Rr X d MBo_append 18 L st h else Rr X d MBo_append 16 L st h := R_ic_lt d_MBo_append_13 (by decide)
theorem r_MBo_append_16 : Rr X d MBo_append 16 L st h = Rr X d MBo_append 17 L (.int (0) :: st) h := Rr_nx d_MBo_append_16 rfl
theorem r_MBo_append_17 {x : Int32} : Rr X d MBo_append 17 L [.int x] h = if x = 0 ∨ x = 1 then some (some (.int x), h) else none := R_zr d_MBo_append_17 rfl
theorem r_MBo_append_18 {l1 : Value} {x : Nat} : Rr X d MBo_append 18 [.ref x, l1] st h = Rr X d MBo_append 19 [.ref x, l1] (.ref x :: st) h := Rr_nx d_MBo_append_18 rfl
theorem r_MBo_append_19 {a : Nat} (hq : (qR a 0 0).isSome = true) : Rr X d MBo_append 19 L (.ref a :: st) (Wd mu la ro et) = Rr X d MBo_append 22 L (.ref (qRd a 0 0) :: st) (Wd mu la ro et) := R_gfR d_MBo_append_19 ff_0_11 hq
theorem r_MBo_append_22 {l1 : Value} {x : Nat} : Rr X d MBo_append 22 [.ref x, l1] st h = Rr X d MBo_append 23 [.ref x, l1] (.ref x :: st) h := Rr_nx d_MBo_append_22 rfl
theorem r_MBo_append_23 {a : Nat} (hq : qI a 0 2 = true) : Rr X d MBo_append 23 L (.ref a :: st) (Wd mu la ro et) = Rr X d MBo_append 26 L (.int (mu a 2) :: st) (Wd mu la ro et) := R_gfI d_MBo_append_23 ff_0_18 hq
theorem r_MBo_append_26 {l0 : Value} {x : Int32} : Rr X d MBo_append 26 [l0, .int x] st h = Rr X d MBo_append 27 [l0, .int x] (.int x :: st) h := Rr_nx d_MBo_append_26 rfl
theorem r_MBo_append_27 {a : Nat} {j x : Int32} (hq : (qA a 0).isSome = true) : Rr X d MBo_append 27 L (.int x :: .int j :: .ref a :: st) (Wd mu la ro et) = if j < 0 ∨ qAd a 0 ≤ j.toNatClampNeg then none else Rr X d MBo_append 28 L st (Wd (up2 mu a j.toNatClampNeg (x)) la ro et) := R_iasW d_MBo_append_27 hq
theorem r_MBo_append_28 {l1 : Value} {x : Nat} : Rr X d MBo_append 28 [.ref x, l1] st h = Rr X d MBo_append 29 [.ref x, l1] (.ref x :: st) h := Rr_nx d_MBo_append_28 rfl
theorem r_MBo_append_29 {x : Nat} : Rr X d MBo_append 29 L (.ref x :: st) h = Rr X d MBo_append 30 L (.ref x :: .ref x :: st) h := Rr_nx d_MBo_append_29 rfl
theorem r_MBo_append_29i {x : Int32} : Rr X d MBo_append 29 L (.int x :: st) h = Rr X d MBo_append 30 L (.int x :: .int x :: st) h := Rr_nx d_MBo_append_29 rfl
theorem r_MBo_append_30 {a : Nat} (hq : qI a 0 2 = true) : Rr X d MBo_append 30 L (.ref a :: st) (Wd mu la ro et) = Rr X d MBo_append 33 L (.int (mu a 2) :: st) (Wd mu la ro et) := R_gfI d_MBo_append_30 ff_0_18 hq
theorem r_MBo_append_33 : Rr X d MBo_append 33 L st h = Rr X d MBo_append 34 L (.int (1) :: st) h := Rr_nx d_MBo_append_33 rfl
theorem r_MBo_append_34 {x y : Int32} : Rr X d MBo_append 34 L (.int y :: .int x :: st) h = Rr X d MBo_append 35 L (.int (x + y) :: st) h := Rr_nx d_MBo_append_34 rfl
theorem r_MBo_append_35 {a : Nat} {x : Int32} (hq : qI a 0 2 = true) : Rr X d MBo_append 35 L (.int x :: .ref a :: st) (Wd mu la ro et) = Rr X d MBo_append 38 L st (Wd (up2 mu a 2 x) la ro et) := R_pfI d_MBo_append_35 ff_0_18 hq
theorem r_MBo_append_38 : Rr X d MBo_append 38 L st h = Rr X d MBo_append 39 L (.int (1) :: st) h := Rr_nx d_MBo_append_38 rfl
theorem r_MBo_append_39 {x : Int32} : Rr X d MBo_append 39 L [.int x] h = if x = 0 ∨ x = 1 then some (some (.int x), h) else none := R_zr d_MBo_append_39 rfl
theorem d_MRm_keep_0 : decode MRm_keep.2.2.1 0 = .ok (.iload_n 1, 1) := lkT_ok tk_MRm_keep rfl
theorem d_MRm_keep_1 : decode MRm_keep.2.2.1 1 = .ok (.invokestatic 348, 3) := lkT_ok tk_MRm_keep rfl
theorem d_MRm_keep_4 : decode MRm_keep.2.2.1 4 = .ok (.ifCond .eq 16, 3) := lkT_ok tk_MRm_keep rfl
theorem d_MRm_keep_7 : decode MRm_keep.2.2.1 7 = .ok (.iload_n 2, 1) := lkT_ok tk_MRm_keep rfl
theorem d_MRm_keep_8 : decode MRm_keep.2.2.1 8 = .ok (.iconst (-1), 1) := lkT_ok tk_MRm_keep rfl
theorem d_MRm_keep_9 : decode MRm_keep.2.2.1 9 = .ok (.if_icmp .eq 13, 3) := lkT_ok tk_MRm_keep rfl
theorem d_MRm_keep_12 : decode MRm_keep.2.2.1 12 = .ok (.aload_n 0, 1) := lkT_ok tk_MRm_keep rfl
theorem d_MRm_keep_13 : decode MRm_keep.2.2.1 13 = .ok (.iload_n 2, 1) := lkT_ok tk_MRm_keep rfl
theorem d_MRm_keep_14 : decode MRm_keep.2.2.1 14 = .ok (.invokevirtual 395, 3) := lkT_ok tk_MRm_keep rfl
theorem d_MRm_keep_17 : decode MRm_keep.2.2.1 17 = .ok (.ifCond .ne 5, 3) := lkT_ok tk_MRm_keep rfl
theorem d_MRm_keep_20 : decode MRm_keep.2.2.1 20 = .ok (.iconst (-1), 1) := lkT_ok tk_MRm_keep rfl
theorem d_MRm_keep_21 : decode MRm_keep.2.2.1 21 = .ok (.ireturn, 1) := lkT_ok tk_MRm_keep rfl
theorem d_MRm_keep_22 : decode MRm_keep.2.2.1 22 = .ok (.aload_n 0, 1) := lkT_ok tk_MRm_keep rfl
theorem d_MRm_keep_23 : decode MRm_keep.2.2.1 23 = .ok (.getfield 92, 3) := lkT_ok tk_MRm_keep rfl
theorem d_MRm_keep_26 : decode MRm_keep.2.2.1 26 = .ok (.iload_n 1, 1) := lkT_ok tk_MRm_keep rfl
theorem d_MRm_keep_27 : decode MRm_keep.2.2.1 27 = .ok (.iload_n 2, 1) := lkT_ok tk_MRm_keep rfl
theorem d_MRm_keep_28 : decode MRm_keep.2.2.1 28 = .ok (.iastore, 1) := lkT_ok tk_MRm_keep rfl
theorem d_MRm_keep_29 : decode MRm_keep.2.2.1 29 = .ok (.iconst 1, 1) := lkT_ok tk_MRm_keep rfl
theorem d_MRm_keep_30 : decode MRm_keep.2.2.1 30 = .ok (.ireturn, 1) := lkT_ok tk_MRm_keep rfl
theorem r_MRm_keep_0 {l0 l2 : Value} {x : Int32} : Rr X d MRm_keep 0 [l0, .int x, l2] st h = Rr X d MRm_keep 1 [l0, .int x, l2] (.int x :: st) h := Rr_nx d_MRm_keep_0 rfl
theorem r_MRm_keep_1 {y0 : Int32} (hc : ckS st = true) : Rr X (d + 1) MRm_keep 1 L (.int y0 :: st) h = (Rr X d MRm_isShelf 0 [.int y0] [] h).bind fun q => Rr X (d + 1) MRm_keep 4 L (psh q.1 st) q.2 := R_is (av := [.int y0]) d_MRm_keep_1 (Or.inl fc_10_348) (ckS_le hc) rfl (Nat.le_of_ble_eq_true rfl) (Nat.le_of_ble_eq_true rfl)
theorem r_MRm_keep_4 {x : Int32} : Rr X d MRm_keep 4 L (.int x :: st) h = if x = 0 then Rr X d MRm_keep 20 L st h else Rr X d MRm_keep 7 L st h := R_if_eq d_MRm_keep_4 (by decide)
theorem r_MRm_keep_7 {l0 l1 : Value} {x : Int32} : Rr X d MRm_keep 7 [l0, l1, .int x] st h = Rr X d MRm_keep 8 [l0, l1, .int x] (.int x :: st) h := Rr_nx d_MRm_keep_7 rfl
theorem r_MRm_keep_8 : Rr X d MRm_keep 8 L st h = Rr X d MRm_keep 9 L (.int (-1) :: st) h := Rr_nx d_MRm_keep_8 rfl
theorem r_MRm_keep_9 {x y : Int32} : Rr X d MRm_keep 9 L (.int y :: .int x :: st) h = if x = y then Rr X d MRm_keep 22 L st h else Rr X d MRm_keep 12 L st h := R_ic_eq d_MRm_keep_9 (by decide)
theorem r_MRm_keep_12 {l1 l2 : Value} {x : Nat} : Rr X d MRm_keep 12 [.ref x, l1, l2] st h = Rr X d MRm_keep 13 [.ref x, l1, l2] (.ref x :: st) h := Rr_nx d_MRm_keep_12 rfl
theorem r_MRm_keep_13 {l0 l1 : Value} {x : Int32} : Rr X d MRm_keep 13 [l0, l1, .int x] st h = Rr X d MRm_keep 14 [l0, l1, .int x] (.int x :: st) h := Rr_nx d_MRm_keep_13 rfl
theorem r_MRm_keep_14 {y0 : Int32} {a : Nat} (hO : qO a 10 = true) (hc : ckS st = true) : Rr X (d + 1) MRm_keep 14 L (.int y0 :: .ref a :: st) (Wd mu la ro et) = (Rr X d MRm_isBody 0 [.ref a, .int y0] [] (Wd mu la ro et)).bind fun q => Rr X (d + 1) MRm_keep 17 L (psh q.1 st) q.2 := R_iv (av := [.int y0]) d_MRm_keep_14 fc_10_395 hO (ckS_le hc) rfl (Nat.le_of_ble_eq_true rfl) (Nat.le_of_ble_eq_true rfl)
theorem r_MRm_keep_17 {x : Int32} : Rr X d MRm_keep 17 L (.int x :: st) h = if ¬ x = 0 then Rr X d MRm_keep 22 L st h else Rr X d MRm_keep 20 L st h := R_if_ne d_MRm_keep_17 (by decide)
theorem r_MRm_keep_20 : Rr X d MRm_keep 20 L st h = Rr X d MRm_keep 21 L (.int (-1) :: st) h := Rr_nx d_MRm_keep_20 rfl
theorem r_MRm_keep_21 {x : Int32} : Rr X d MRm_keep 21 L [.int x] h = some (some (.int x), h) := R_ir d_MRm_keep_21 rfl
theorem r_MRm_keep_22 {l1 l2 : Value} {x : Nat} : Rr X d MRm_keep 22 [.ref x, l1, l2] st h = Rr X d MRm_keep 23 [.ref x, l1, l2] (.ref x :: st) h := Rr_nx d_MRm_keep_22 rfl
theorem r_MRm_keep_23 {a : Nat} (hq : (qR a 10 55).isSome = true) : Rr X d MRm_keep 23 L (.ref a :: st) (Wd mu la ro et) = Rr X d MRm_keep 26 L (.ref (qRd a 10 55) :: st) (Wd mu la ro et) := R_gfR d_MRm_keep_23 ff_10_92 hq
theorem r_MRm_keep_26 {l0 l2 : Value} {x : Int32} : Rr X d MRm_keep 26 [l0, .int x, l2] st h = Rr X d MRm_keep 27 [l0, .int x, l2] (.int x :: st) h := Rr_nx d_MRm_keep_26 rfl
theorem r_MRm_keep_27 {l0 l1 : Value} {x : Int32} : Rr X d MRm_keep 27 [l0, l1, .int x] st h = Rr X d MRm_keep 28 [l0, l1, .int x] (.int x :: st) h := Rr_nx d_MRm_keep_27 rfl
theorem r_MRm_keep_28 {a : Nat} {j x : Int32} (hq : (qA a 0).isSome = true) : Rr X d MRm_keep 28 L (.int x :: .int j :: .ref a :: st) (Wd mu la ro et) = if j < 0 ∨ qAd a 0 ≤ j.toNatClampNeg then none else Rr X d MRm_keep 29 L st (Wd (up2 mu a j.toNatClampNeg (x)) la ro et) := R_iasW d_MRm_keep_28 hq
theorem r_MRm_keep_29 : Rr X d MRm_keep 29 L st h = Rr X d MRm_keep 30 L (.int (1) :: st) h := Rr_nx d_MRm_keep_29 rfl
theorem r_MRm_keep_30 {x : Int32} : Rr X d MRm_keep 30 L [.int x] h = some (some (.int x), h) := R_ir d_MRm_keep_30 rfl
theorem d_MRm_body_0 : decode MRm_body.2.2.1 0 = .ok (.iload_n 1, 1) := lkT_ok tk_MRm_body rfl
theorem d_MRm_body_1 : decode MRm_body.2.2.1 1 = .ok (.iconst 0, 1) := lkT_ok tk_MRm_body rfl
theorem d_MRm_body_2 : decode MRm_body.2.2.1 2 = .ok (.bipush 7, 2) := lkT_ok tk_MRm_body rfl
theorem d_MRm_body_4 : decode MRm_body.2.2.1 4 = .ok (.invokestatic 107, 3) := lkT_ok tk_MRm_body rfl
theorem d_MRm_body_7 : decode MRm_body.2.2.1 7 = .ok (.ifCond .ne 5, 3) := lkT_ok tk_MRm_body rfl
theorem d_MRm_body_10 : decode MRm_body.2.2.1 10 = .ok (.iconst (-1), 1) := lkT_ok tk_MRm_body rfl
theorem d_MRm_body_11 : decode MRm_body.2.2.1 11 = .ok (.ireturn, 1) := lkT_ok tk_MRm_body rfl
theorem d_MRm_body_12 : decode MRm_body.2.2.1 12 = .ok (.aload_n 0, 1) := lkT_ok tk_MRm_body rfl
theorem d_MRm_body_13 : decode MRm_body.2.2.1 13 = .ok (.getfield 356, 3) := lkT_ok tk_MRm_body rfl
theorem d_MRm_body_16 : decode MRm_body.2.2.1 16 = .ok (.bipush 50, 2) := lkT_ok tk_MRm_body rfl
theorem d_MRm_body_18 : decode MRm_body.2.2.1 18 = .ok (.if_icmp .ne 6, 3) := lkT_ok tk_MRm_body rfl
theorem d_MRm_body_21 : decode MRm_body.2.2.1 21 = .ok (.bipush (-3), 2) := lkT_ok tk_MRm_body rfl
theorem d_MRm_body_23 : decode MRm_body.2.2.1 23 = .ok (.ireturn, 1) := lkT_ok tk_MRm_body rfl
theorem d_MRm_body_24 : decode MRm_body.2.2.1 24 = .ok (.aload_n 0, 1) := lkT_ok tk_MRm_body rfl
theorem d_MRm_body_25 : decode MRm_body.2.2.1 25 = .ok (.getfield 86, 3) := lkT_ok tk_MRm_body rfl
theorem d_MRm_body_28 : decode MRm_body.2.2.1 28 = .ok (.aload_n 0, 1) := lkT_ok tk_MRm_body rfl
theorem d_MRm_body_29 : decode MRm_body.2.2.1 29 = .ok (.getfield 356, 3) := lkT_ok tk_MRm_body rfl
theorem d_MRm_body_32 : decode MRm_body.2.2.1 32 = .ok (.iload_n 1, 1) := lkT_ok tk_MRm_body rfl
theorem d_MRm_body_33 : decode MRm_body.2.2.1 33 = .ok (.iastore, 1) := lkT_ok tk_MRm_body rfl
theorem d_MRm_body_34 : decode MRm_body.2.2.1 34 = .ok (.aload_n 0, 1) := lkT_ok tk_MRm_body rfl
theorem d_MRm_body_35 : decode MRm_body.2.2.1 35 = .ok (.dup, 1) := lkT_ok tk_MRm_body rfl
theorem d_MRm_body_36 : decode MRm_body.2.2.1 36 = .ok (.getfield 356, 3) := lkT_ok tk_MRm_body rfl
theorem d_MRm_body_39 : decode MRm_body.2.2.1 39 = .ok (.iconst 1, 1) := lkT_ok tk_MRm_body rfl
theorem d_MRm_body_40 : decode MRm_body.2.2.1 40 = .ok (.iadd, 1) := lkT_ok tk_MRm_body rfl
theorem d_MRm_body_41 : decode MRm_body.2.2.1 41 = .ok (.putfield 356, 3) := lkT_ok tk_MRm_body rfl
theorem d_MRm_body_44 : decode MRm_body.2.2.1 44 = .ok (.aload_n 0, 1) := lkT_ok tk_MRm_body rfl
theorem d_MRm_body_45 : decode MRm_body.2.2.1 45 = .ok (.getfield 356, 3) := lkT_ok tk_MRm_body rfl
theorem d_MRm_body_48 : decode MRm_body.2.2.1 48 = .ok (.iconst 1, 1) := lkT_ok tk_MRm_body rfl
theorem d_MRm_body_49 : decode MRm_body.2.2.1 49 = .ok (.isub, 1) := lkT_ok tk_MRm_body rfl
theorem d_MRm_body_50 : decode MRm_body.2.2.1 50 = .ok (.ireturn, 1) := lkT_ok tk_MRm_body rfl
theorem r_MRm_body_0 {l0 : Value} {x : Int32} : Rr X d MRm_body 0 [l0, .int x] st h = Rr X d MRm_body 1 [l0, .int x] (.int x :: st) h := Rr_nx d_MRm_body_0 rfl
theorem r_MRm_body_1 : Rr X d MRm_body 1 L st h = Rr X d MRm_body 2 L (.int (0) :: st) h := Rr_nx d_MRm_body_1 rfl
theorem r_MRm_body_2 : Rr X d MRm_body 2 L st h = Rr X d MRm_body 4 L (.int (7) :: st) h := Rr_nx d_MRm_body_2 rfl
theorem r_MRm_body_4 {y0 : Int32} {y1 : Int32} {y2 : Int32} (hc : ckS st = true) : Rr X (d + 1) MRm_body 4 L (.int y2 :: .int y1 :: .int y0 :: st) h = (Rr X d MRm_in 0 [.int y0, .int y1, .int y2] [] h).bind fun q => Rr X (d + 1) MRm_body 7 L (psh q.1 st) q.2 := R_is (av := [.int y2, .int y1, .int y0]) d_MRm_body_4 (Or.inl fc_10_107) (ckS_le hc) rfl (Nat.le_of_ble_eq_true rfl) (Nat.le_of_ble_eq_true rfl)
theorem r_MRm_body_7 {x : Int32} : Rr X d MRm_body 7 L (.int x :: st) h = if ¬ x = 0 then Rr X d MRm_body 12 L st h else Rr X d MRm_body 10 L st h := R_if_ne d_MRm_body_7 (by decide)
theorem r_MRm_body_10 : Rr X d MRm_body 10 L st h = Rr X d MRm_body 11 L (.int (-1) :: st) h := Rr_nx d_MRm_body_10 rfl
theorem r_MRm_body_11 {x : Int32} : Rr X d MRm_body 11 L [.int x] h = some (some (.int x), h) := R_ir d_MRm_body_11 rfl
theorem r_MRm_body_12 {l1 : Value} {x : Nat} : Rr X d MRm_body 12 [.ref x, l1] st h = Rr X d MRm_body 13 [.ref x, l1] (.ref x :: st) h := Rr_nx d_MRm_body_12 rfl
theorem r_MRm_body_13 {a : Nat} (hq : qI a 10 51 = true) : Rr X d MRm_body 13 L (.ref a :: st) (Wd mu la ro et) = Rr X d MRm_body 16 L (.int (mu a 51) :: st) (Wd mu la ro et) := R_gfI d_MRm_body_13 ff_10_356 hq
theorem r_MRm_body_16 : Rr X d MRm_body 16 L st h = Rr X d MRm_body 18 L (.int (50) :: st) h := Rr_nx d_MRm_body_16 rfl
theorem r_MRm_body_18 {x y : Int32} : Rr X d MRm_body 18 L (.int y :: .int x :: st) h = if ¬ x = y then Rr X d MRm_body 24 L st h else Rr X d MRm_body 21 L st h := R_ic_ne d_MRm_body_18 (by decide)
theorem r_MRm_body_21 : Rr X d MRm_body 21 L st h = Rr X d MRm_body 23 L (.int (-3) :: st) h := Rr_nx d_MRm_body_21 rfl
theorem r_MRm_body_23 {x : Int32} : Rr X d MRm_body 23 L [.int x] h = some (some (.int x), h) := R_ir d_MRm_body_23 rfl
theorem r_MRm_body_24 {l1 : Value} {x : Nat} : Rr X d MRm_body 24 [.ref x, l1] st h = Rr X d MRm_body 25 [.ref x, l1] (.ref x :: st) h := Rr_nx d_MRm_body_24 rfl
theorem r_MRm_body_25 {a : Nat} (hq : (qR a 10 52).isSome = true) : Rr X d MRm_body 25 L (.ref a :: st) (Wd mu la ro et) = Rr X d MRm_body 28 L (.ref (qRd a 10 52) :: st) (Wd mu la ro et) := R_gfR d_MRm_body_25 ff_10_86 hq
theorem r_MRm_body_28 {l1 : Value} {x : Nat} : Rr X d MRm_body 28 [.ref x, l1] st h = Rr X d MRm_body 29 [.ref x, l1] (.ref x :: st) h := Rr_nx d_MRm_body_28 rfl
theorem r_MRm_body_29 {a : Nat} (hq : qI a 10 51 = true) : Rr X d MRm_body 29 L (.ref a :: st) (Wd mu la ro et) = Rr X d MRm_body 32 L (.int (mu a 51) :: st) (Wd mu la ro et) := R_gfI d_MRm_body_29 ff_10_356 hq
theorem r_MRm_body_32 {l0 : Value} {x : Int32} : Rr X d MRm_body 32 [l0, .int x] st h = Rr X d MRm_body 33 [l0, .int x] (.int x :: st) h := Rr_nx d_MRm_body_32 rfl
theorem r_MRm_body_33 {a : Nat} {j x : Int32} (hq : (qA a 0).isSome = true) : Rr X d MRm_body 33 L (.int x :: .int j :: .ref a :: st) (Wd mu la ro et) = if j < 0 ∨ qAd a 0 ≤ j.toNatClampNeg then none else Rr X d MRm_body 34 L st (Wd (up2 mu a j.toNatClampNeg (x)) la ro et) := R_iasW d_MRm_body_33 hq
theorem r_MRm_body_34 {l1 : Value} {x : Nat} : Rr X d MRm_body 34 [.ref x, l1] st h = Rr X d MRm_body 35 [.ref x, l1] (.ref x :: st) h := Rr_nx d_MRm_body_34 rfl
theorem r_MRm_body_35 {x : Nat} : Rr X d MRm_body 35 L (.ref x :: st) h = Rr X d MRm_body 36 L (.ref x :: .ref x :: st) h := Rr_nx d_MRm_body_35 rfl
theorem r_MRm_body_35i {x : Int32} : Rr X d MRm_body 35 L (.int x :: st) h = Rr X d MRm_body 36 L (.int x :: .int x :: st) h := Rr_nx d_MRm_body_35 rfl
theorem r_MRm_body_36 {a : Nat} (hq : qI a 10 51 = true) : Rr X d MRm_body 36 L (.ref a :: st) (Wd mu la ro et) = Rr X d MRm_body 39 L (.int (mu a 51) :: st) (Wd mu la ro et) := R_gfI d_MRm_body_36 ff_10_356 hq
theorem r_MRm_body_39 : Rr X d MRm_body 39 L st h = Rr X d MRm_body 40 L (.int (1) :: st) h := Rr_nx d_MRm_body_39 rfl
theorem r_MRm_body_40 {x y : Int32} : Rr X d MRm_body 40 L (.int y :: .int x :: st) h = Rr X d MRm_body 41 L (.int (x + y) :: st) h := Rr_nx d_MRm_body_40 rfl
theorem r_MRm_body_41 {a : Nat} {x : Int32} (hq : qI a 10 51 = true) : Rr X d MRm_body 41 L (.int x :: .ref a :: st) (Wd mu la ro et) = Rr X d MRm_body 44 L st (Wd (up2 mu a 51 x) la ro et) := R_pfI d_MRm_body_41 ff_10_356 hq
theorem r_MRm_body_44 {l1 : Value} {x : Nat} : Rr X d MRm_body 44 [.ref x, l1] st h = Rr X d MRm_body 45 [.ref x, l1] (.ref x :: st) h := Rr_nx d_MRm_body_44 rfl
theorem r_MRm_body_45 {a : Nat} (hq : qI a 10 51 = true) : Rr X d MRm_body 45 L (.ref a :: st) (Wd mu la ro et) = Rr X d MRm_body 48 L (.int (mu a 51) :: st) (Wd mu la ro et) := R_gfI d_MRm_body_45 ff_10_356 hq
theorem r_MRm_body_48 : Rr X d MRm_body 48 L st h = Rr X d MRm_body 49 L (.int (1) :: st) h := Rr_nx d_MRm_body_48 rfl
theorem r_MRm_body_49 {x y : Int32} : Rr X d MRm_body 49 L (.int y :: .int x :: st) h = Rr X d MRm_body 50 L (.int (x - y) :: st) h := Rr_nx d_MRm_body_49 rfl
theorem r_MRm_body_50 {x : Int32} : Rr X d MRm_body 50 L [.int x] h = some (some (.int x), h) := R_ir d_MRm_body_50 rfl
theorem d_MSh_hold_0 : decode MSh_hold.2.2.1 0 = .ok (.aload_n 0, 1) := lkT_ok tk_MSh_hold rfl
theorem d_MSh_hold_1 : decode MSh_hold.2.2.1 1 = .ok (.iload_n 1, 1) := lkT_ok tk_MSh_hold rfl
theorem d_MSh_hold_2 : decode MSh_hold.2.2.1 2 = .ok (.putfield 15, 3) := lkT_ok tk_MSh_hold rfl
theorem d_MSh_hold_5 : decode MSh_hold.2.2.1 5 = .ok (.aload_n 0, 1) := lkT_ok tk_MSh_hold rfl
theorem d_MSh_hold_6 : decode MSh_hold.2.2.1 6 = .ok (.iconst (-1), 1) := lkT_ok tk_MSh_hold rfl
theorem d_MSh_hold_7 : decode MSh_hold.2.2.1 7 = .ok (.putfield 19, 3) := lkT_ok tk_MSh_hold rfl
theorem d_MSh_hold_10 : decode MSh_hold.2.2.1 10 = .ok (.aload_n 0, 1) := lkT_ok tk_MSh_hold rfl
theorem d_MSh_hold_11 : decode MSh_hold.2.2.1 11 = .ok (.iconst 0, 1) := lkT_ok tk_MSh_hold rfl
theorem d_MSh_hold_12 : decode MSh_hold.2.2.1 12 = .ok (.putfield 22, 3) := lkT_ok tk_MSh_hold rfl
theorem d_MSh_hold_15 : decode MSh_hold.2.2.1 15 = .ok (.return_, 1) := lkT_ok tk_MSh_hold rfl
theorem r_MSh_hold_0 {l1 : Value} {x : Nat} : Rr X d MSh_hold 0 [.ref x, l1] st h = Rr X d MSh_hold 1 [.ref x, l1] (.ref x :: st) h := Rr_nx d_MSh_hold_0 rfl
theorem r_MSh_hold_1 {l0 : Value} {x : Int32} : Rr X d MSh_hold 1 [l0, .int x] st h = Rr X d MSh_hold 2 [l0, .int x] (.int x :: st) h := Rr_nx d_MSh_hold_1 rfl
theorem r_MSh_hold_2 {a : Nat} {x : Int32} (hq : qI a 6 1 = true) : Rr X d MSh_hold 2 L (.int x :: .ref a :: st) (Wd mu la ro et) = Rr X d MSh_hold 5 L st (Wd (up2 mu a 1 x) la ro et) := R_pfI d_MSh_hold_2 ff_6_15 hq
theorem r_MSh_hold_5 {l1 : Value} {x : Nat} : Rr X d MSh_hold 5 [.ref x, l1] st h = Rr X d MSh_hold 6 [.ref x, l1] (.ref x :: st) h := Rr_nx d_MSh_hold_5 rfl
theorem r_MSh_hold_6 : Rr X d MSh_hold 6 L st h = Rr X d MSh_hold 7 L (.int (-1) :: st) h := Rr_nx d_MSh_hold_6 rfl
theorem r_MSh_hold_7 {a : Nat} {x : Int32} (hq : qI a 6 2 = true) : Rr X d MSh_hold 7 L (.int x :: .ref a :: st) (Wd mu la ro et) = Rr X d MSh_hold 10 L st (Wd (up2 mu a 2 x) la ro et) := R_pfI d_MSh_hold_7 ff_6_19 hq
theorem r_MSh_hold_10 {l1 : Value} {x : Nat} : Rr X d MSh_hold 10 [.ref x, l1] st h = Rr X d MSh_hold 11 [.ref x, l1] (.ref x :: st) h := Rr_nx d_MSh_hold_10 rfl
theorem r_MSh_hold_11 : Rr X d MSh_hold 11 L st h = Rr X d MSh_hold 12 L (.int (0) :: st) h := Rr_nx d_MSh_hold_11 rfl
theorem r_MSh_hold_12 {a : Nat} {x : Int32} (hq : qI a 6 3 = true) : Rr X d MSh_hold 12 L (.int x :: .ref a :: st) (Wd mu la ro et) = Rr X d MSh_hold 15 L st (Wd (up2 mu a 3 x) la ro et) := R_pfI d_MSh_hold_12 ff_6_22 hq
theorem r_MSh_hold_15 : Rr X d MSh_hold 15 L [] h = some (none, h) := Rr_rt d_MSh_hold_15 rfl
end RULES
