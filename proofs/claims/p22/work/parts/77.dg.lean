section RULES
variable {X : Tok} {d : Nat} {st L : List Value} {h : Hp} {mu : Nat → Nat → Int32} {la : Nat → Nat → Int64} {ro : Nat → Nat → Option Nat} {et : Nat → Option va_E}
theorem d_MSh_refusal_0 : decode MSh_refusal.2.2.1 0 = .ok (.aload_n 0, 1) := lkT_ok tk_MSh_refusal rfl
theorem d_MSh_refusal_1 : decode MSh_refusal.2.2.1 1 = .ok (.invokevirtual 29, 3) := lkT_ok tk_MSh_refusal rfl
theorem d_MSh_refusal_4 : decode MSh_refusal.2.2.1 4 = .ok (.ifCond .eq 6, 3) := lkT_ok tk_MSh_refusal rfl
theorem d_MSh_refusal_7 : decode MSh_refusal.2.2.1 7 = .ok (.bipush (-11), 2) := lkT_ok tk_MSh_refusal rfl
theorem d_MSh_refusal_9 : decode MSh_refusal.2.2.1 9 = .ok (.ireturn, 1) := lkT_ok tk_MSh_refusal rfl
theorem d_MSh_refusal_10 : decode MSh_refusal.2.2.1 10 = .ok (.aload_n 0, 1) := lkT_ok tk_MSh_refusal rfl
theorem d_MSh_refusal_11 : decode MSh_refusal.2.2.1 11 = .ok (.invokevirtual 25, 3) := lkT_ok tk_MSh_refusal rfl
theorem d_MSh_refusal_14 : decode MSh_refusal.2.2.1 14 = .ok (.ifCond .ne 6, 3) := lkT_ok tk_MSh_refusal rfl
theorem d_MSh_refusal_17 : decode MSh_refusal.2.2.1 17 = .ok (.bipush (-12), 2) := lkT_ok tk_MSh_refusal rfl
theorem d_MSh_refusal_19 : decode MSh_refusal.2.2.1 19 = .ok (.ireturn, 1) := lkT_ok tk_MSh_refusal rfl
theorem d_MSh_refusal_20 : decode MSh_refusal.2.2.1 20 = .ok (.aload_n 0, 1) := lkT_ok tk_MSh_refusal rfl
theorem d_MSh_refusal_21 : decode MSh_refusal.2.2.1 21 = .ok (.iload_n 1, 1) := lkT_ok tk_MSh_refusal rfl
theorem d_MSh_refusal_22 : decode MSh_refusal.2.2.1 22 = .ok (.iconst 1, 1) := lkT_ok tk_MSh_refusal rfl
theorem d_MSh_refusal_23 : decode MSh_refusal.2.2.1 23 = .ok (.invokevirtual 32, 3) := lkT_ok tk_MSh_refusal rfl
theorem d_MSh_refusal_26 : decode MSh_refusal.2.2.1 26 = .ok (.ifCond .eq 7, 3) := lkT_ok tk_MSh_refusal rfl
theorem d_MSh_refusal_29 : decode MSh_refusal.2.2.1 29 = .ok (.iconst 0, 1) := lkT_ok tk_MSh_refusal rfl
theorem d_MSh_refusal_30 : decode MSh_refusal.2.2.1 30 = .ok (.goto 5, 3) := lkT_ok tk_MSh_refusal rfl
theorem d_MSh_refusal_33 : decode MSh_refusal.2.2.1 33 = .ok (.bipush (-13), 2) := lkT_ok tk_MSh_refusal rfl
theorem d_MSh_refusal_35 : decode MSh_refusal.2.2.1 35 = .ok (.ireturn, 1) := lkT_ok tk_MSh_refusal rfl
theorem r_MSh_refusal_0 {l1 : Value} {x : Nat} : Rr X d MSh_refusal 0 [.ref x, l1] st h = Rr X d MSh_refusal 1 [.ref x, l1] (.ref x :: st) h := Rr_nx d_MSh_refusal_0 rfl
theorem fc_6_29 : fC 6 29 = some (0, 6, 0, MSh_isEmpty) := rfl
theorem r_MSh_refusal_1 {a : Nat} (hO : qO a 6 = true) (hc : ckS st = true) : Rr X (d + 1) MSh_refusal 1 L (.ref a :: st) (Wd mu la ro et) = (Rr X d MSh_isEmpty 0 [.ref a] [] (Wd mu la ro et)).bind fun q => Rr X (d + 1) MSh_refusal 4 L (psh q.1 st) q.2 := R_iv (av := []) d_MSh_refusal_1 fc_6_29 hO (ckS_le hc) rfl (Nat.le_of_ble_eq_true rfl) (Nat.le_of_ble_eq_true rfl)
theorem r_MSh_refusal_4 {x : Int32} : Rr X d MSh_refusal 4 L (.int x :: st) h = if x = 0 then Rr X d MSh_refusal 10 L st h else Rr X d MSh_refusal 7 L st h := R_if_eq d_MSh_refusal_4 (by decide)
theorem r_MSh_refusal_7 : Rr X d MSh_refusal 7 L st h = Rr X d MSh_refusal 9 L (.int (-11) :: st) h := Rr_nx d_MSh_refusal_7 rfl
theorem r_MSh_refusal_9 {x : Int32} : Rr X d MSh_refusal 9 L [.int x] h = some (some (.int x), h) := R_ir d_MSh_refusal_9 rfl
theorem r_MSh_refusal_10 {l1 : Value} {x : Nat} : Rr X d MSh_refusal 10 [.ref x, l1] st h = Rr X d MSh_refusal 11 [.ref x, l1] (.ref x :: st) h := Rr_nx d_MSh_refusal_10 rfl
theorem r_MSh_refusal_11 {a : Nat} (hO : qO a 6 = true) (hc : ckS st = true) : Rr X (d + 1) MSh_refusal 11 L (.ref a :: st) (Wd mu la ro et) = (Rr X d MSh_isRow 0 [.ref a] [] (Wd mu la ro et)).bind fun q => Rr X (d + 1) MSh_refusal 14 L (psh q.1 st) q.2 := R_iv (av := []) d_MSh_refusal_11 fc_6_25 hO (ckS_le hc) rfl (Nat.le_of_ble_eq_true rfl) (Nat.le_of_ble_eq_true rfl)
theorem r_MSh_refusal_14 {x : Int32} : Rr X d MSh_refusal 14 L (.int x :: st) h = if ¬ x = 0 then Rr X d MSh_refusal 20 L st h else Rr X d MSh_refusal 17 L st h := R_if_ne d_MSh_refusal_14 (by decide)
theorem r_MSh_refusal_17 : Rr X d MSh_refusal 17 L st h = Rr X d MSh_refusal 19 L (.int (-12) :: st) h := Rr_nx d_MSh_refusal_17 rfl
theorem r_MSh_refusal_19 {x : Int32} : Rr X d MSh_refusal 19 L [.int x] h = some (some (.int x), h) := R_ir d_MSh_refusal_19 rfl
theorem r_MSh_refusal_20 {l1 : Value} {x : Nat} : Rr X d MSh_refusal 20 [.ref x, l1] st h = Rr X d MSh_refusal 21 [.ref x, l1] (.ref x :: st) h := Rr_nx d_MSh_refusal_20 rfl
theorem r_MSh_refusal_21 {l0 : Value} {x : Int32} : Rr X d MSh_refusal 21 [l0, .int x] st h = Rr X d MSh_refusal 22 [l0, .int x] (.int x :: st) h := Rr_nx d_MSh_refusal_21 rfl
theorem r_MSh_refusal_22 : Rr X d MSh_refusal 22 L st h = Rr X d MSh_refusal 23 L (.int (1) :: st) h := Rr_nx d_MSh_refusal_22 rfl
theorem fc_6_32 : fC 6 32 = some (0, 6, 2, MSh_hasPlaces) := rfl
theorem r_MSh_refusal_23 {y0 : Int32} {y1 : Int32} {a : Nat} (hO : qO a 6 = true) (hc : ckS st = true) : Rr X (d + 1) MSh_refusal 23 L (.int y1 :: .int y0 :: .ref a :: st) (Wd mu la ro et) = (Rr X d MSh_hasPlaces 0 [.ref a, .int y0, .int y1] [] (Wd mu la ro et)).bind fun q => Rr X (d + 1) MSh_refusal 26 L (psh q.1 st) q.2 := R_iv (av := [.int y1, .int y0]) d_MSh_refusal_23 fc_6_32 hO (ckS_le hc) rfl (Nat.le_of_ble_eq_true rfl) (Nat.le_of_ble_eq_true rfl)
theorem r_MSh_refusal_26 {x : Int32} : Rr X d MSh_refusal 26 L (.int x :: st) h = if x = 0 then Rr X d MSh_refusal 33 L st h else Rr X d MSh_refusal 29 L st h := R_if_eq d_MSh_refusal_26 (by decide)
theorem r_MSh_refusal_29 : Rr X d MSh_refusal 29 L st h = Rr X d MSh_refusal 30 L (.int (0) :: st) h := Rr_nx d_MSh_refusal_29 rfl
theorem r_MSh_refusal_30 : Rr X d MSh_refusal 30 L st h = Rr X d MSh_refusal 35 L st h := R_goto d_MSh_refusal_30 (by decide)
theorem r_MSh_refusal_33 : Rr X d MSh_refusal 33 L st h = Rr X d MSh_refusal 35 L (.int (-13) :: st) h := Rr_nx d_MSh_refusal_33 rfl
theorem r_MSh_refusal_35 {x : Int32} : Rr X d MSh_refusal 35 L [.int x] h = some (some (.int x), h) := R_ir d_MSh_refusal_35 rfl
theorem d_MRm_whyNoPlace_0 : decode MRm_whyNoPlace.2.2.1 0 = .ok (.iload_n 1, 1) := lkT_ok tk_MRm_whyNoPlace rfl
theorem d_MRm_whyNoPlace_1 : decode MRm_whyNoPlace.2.2.1 1 = .ok (.invokestatic 348, 3) := lkT_ok tk_MRm_whyNoPlace rfl
theorem d_MRm_whyNoPlace_4 : decode MRm_whyNoPlace.2.2.1 4 = .ok (.ifCond .ne 5, 3) := lkT_ok tk_MRm_whyNoPlace rfl
theorem d_MRm_whyNoPlace_7 : decode MRm_whyNoPlace.2.2.1 7 = .ok (.iconst (-1), 1) := lkT_ok tk_MRm_whyNoPlace rfl
theorem d_MRm_whyNoPlace_8 : decode MRm_whyNoPlace.2.2.1 8 = .ok (.ireturn, 1) := lkT_ok tk_MRm_whyNoPlace rfl
theorem d_MRm_whyNoPlace_9 : decode MRm_whyNoPlace.2.2.1 9 = .ok (.aload_n 0, 1) := lkT_ok tk_MRm_whyNoPlace rfl
theorem d_MRm_whyNoPlace_10 : decode MRm_whyNoPlace.2.2.1 10 = .ok (.getfield 92, 3) := lkT_ok tk_MRm_whyNoPlace rfl
theorem d_MRm_whyNoPlace_13 : decode MRm_whyNoPlace.2.2.1 13 = .ok (.iload_n 1, 1) := lkT_ok tk_MRm_whyNoPlace rfl
theorem d_MRm_whyNoPlace_14 : decode MRm_whyNoPlace.2.2.1 14 = .ok (.iaload, 1) := lkT_ok tk_MRm_whyNoPlace rfl
theorem d_MRm_whyNoPlace_15 : decode MRm_whyNoPlace.2.2.1 15 = .ok (.iconst (-1), 1) := lkT_ok tk_MRm_whyNoPlace rfl
theorem d_MRm_whyNoPlace_16 : decode MRm_whyNoPlace.2.2.1 16 = .ok (.if_icmp .ne 6, 3) := lkT_ok tk_MRm_whyNoPlace rfl
theorem d_MRm_whyNoPlace_19 : decode MRm_whyNoPlace.2.2.1 19 = .ok (.bipush (-11), 2) := lkT_ok tk_MRm_whyNoPlace rfl
theorem d_MRm_whyNoPlace_21 : decode MRm_whyNoPlace.2.2.1 21 = .ok (.ireturn, 1) := lkT_ok tk_MRm_whyNoPlace rfl
theorem d_MRm_whyNoPlace_22 : decode MRm_whyNoPlace.2.2.1 22 = .ok (.aload_n 0, 1) := lkT_ok tk_MRm_whyNoPlace rfl
theorem d_MRm_whyNoPlace_23 : decode MRm_whyNoPlace.2.2.1 23 = .ok (.getfield 92, 3) := lkT_ok tk_MRm_whyNoPlace rfl
theorem d_MRm_whyNoPlace_26 : decode MRm_whyNoPlace.2.2.1 26 = .ok (.iload_n 1, 1) := lkT_ok tk_MRm_whyNoPlace rfl
theorem d_MRm_whyNoPlace_27 : decode MRm_whyNoPlace.2.2.1 27 = .ok (.iaload, 1) := lkT_ok tk_MRm_whyNoPlace rfl
theorem d_MRm_whyNoPlace_28 : decode MRm_whyNoPlace.2.2.1 28 = .ok (.ifCond .lt 6, 3) := lkT_ok tk_MRm_whyNoPlace rfl
theorem d_MRm_whyNoPlace_31 : decode MRm_whyNoPlace.2.2.1 31 = .ok (.bipush (-12), 2) := lkT_ok tk_MRm_whyNoPlace rfl
theorem d_MRm_whyNoPlace_33 : decode MRm_whyNoPlace.2.2.1 33 = .ok (.ireturn, 1) := lkT_ok tk_MRm_whyNoPlace rfl
theorem d_MRm_whyNoPlace_34 : decode MRm_whyNoPlace.2.2.1 34 = .ok (.iload_n 2, 1) := lkT_ok tk_MRm_whyNoPlace rfl
theorem d_MRm_whyNoPlace_35 : decode MRm_whyNoPlace.2.2.1 35 = .ok (.iconst 0, 1) := lkT_ok tk_MRm_whyNoPlace rfl
theorem d_MRm_whyNoPlace_36 : decode MRm_whyNoPlace.2.2.1 36 = .ok (.aload_n 0, 1) := lkT_ok tk_MRm_whyNoPlace rfl
theorem d_MRm_whyNoPlace_37 : decode MRm_whyNoPlace.2.2.1 37 = .ok (.getfield 95, 3) := lkT_ok tk_MRm_whyNoPlace rfl
theorem d_MRm_whyNoPlace_40 : decode MRm_whyNoPlace.2.2.1 40 = .ok (.iload_n 1, 1) := lkT_ok tk_MRm_whyNoPlace rfl
theorem d_MRm_whyNoPlace_41 : decode MRm_whyNoPlace.2.2.1 41 = .ok (.iaload, 1) := lkT_ok tk_MRm_whyNoPlace rfl
theorem d_MRm_whyNoPlace_42 : decode MRm_whyNoPlace.2.2.1 42 = .ok (.iconst 1, 1) := lkT_ok tk_MRm_whyNoPlace rfl
theorem d_MRm_whyNoPlace_43 : decode MRm_whyNoPlace.2.2.1 43 = .ok (.isub, 1) := lkT_ok tk_MRm_whyNoPlace rfl
theorem d_MRm_whyNoPlace_44 : decode MRm_whyNoPlace.2.2.1 44 = .ok (.invokestatic 107, 3) := lkT_ok tk_MRm_whyNoPlace rfl
theorem d_MRm_whyNoPlace_47 : decode MRm_whyNoPlace.2.2.1 47 = .ok (.ifCond .eq 7, 3) := lkT_ok tk_MRm_whyNoPlace rfl
theorem d_MRm_whyNoPlace_50 : decode MRm_whyNoPlace.2.2.1 50 = .ok (.iconst 0, 1) := lkT_ok tk_MRm_whyNoPlace rfl
theorem d_MRm_whyNoPlace_51 : decode MRm_whyNoPlace.2.2.1 51 = .ok (.goto 5, 3) := lkT_ok tk_MRm_whyNoPlace rfl
theorem d_MRm_whyNoPlace_54 : decode MRm_whyNoPlace.2.2.1 54 = .ok (.bipush (-13), 2) := lkT_ok tk_MRm_whyNoPlace rfl
theorem d_MRm_whyNoPlace_56 : decode MRm_whyNoPlace.2.2.1 56 = .ok (.ireturn, 1) := lkT_ok tk_MRm_whyNoPlace rfl
theorem r_MRm_whyNoPlace_0 {l0 l2 : Value} {x : Int32} : Rr X d MRm_whyNoPlace 0 [l0, .int x, l2] st h = Rr X d MRm_whyNoPlace 1 [l0, .int x, l2] (.int x :: st) h := Rr_nx d_MRm_whyNoPlace_0 rfl
theorem r_MRm_whyNoPlace_1 {y0 : Int32} (hc : ckS st = true) : Rr X (d + 1) MRm_whyNoPlace 1 L (.int y0 :: st) h = (Rr X d MRm_isShelf 0 [.int y0] [] h).bind fun q => Rr X (d + 1) MRm_whyNoPlace 4 L (psh q.1 st) q.2 := R_is (av := [.int y0]) d_MRm_whyNoPlace_1 (Or.inl fc_10_348) (ckS_le hc) rfl (Nat.le_of_ble_eq_true rfl) (Nat.le_of_ble_eq_true rfl)
theorem r_MRm_whyNoPlace_4 {x : Int32} : Rr X d MRm_whyNoPlace 4 L (.int x :: st) h = if ¬ x = 0 then Rr X d MRm_whyNoPlace 9 L st h else Rr X d MRm_whyNoPlace 7 L st h := R_if_ne d_MRm_whyNoPlace_4 (by decide)
theorem r_MRm_whyNoPlace_7 : Rr X d MRm_whyNoPlace 7 L st h = Rr X d MRm_whyNoPlace 8 L (.int (-1) :: st) h := Rr_nx d_MRm_whyNoPlace_7 rfl
theorem r_MRm_whyNoPlace_8 {x : Int32} : Rr X d MRm_whyNoPlace 8 L [.int x] h = some (some (.int x), h) := R_ir d_MRm_whyNoPlace_8 rfl
theorem r_MRm_whyNoPlace_9 {l1 l2 : Value} {x : Nat} : Rr X d MRm_whyNoPlace 9 [.ref x, l1, l2] st h = Rr X d MRm_whyNoPlace 10 [.ref x, l1, l2] (.ref x :: st) h := Rr_nx d_MRm_whyNoPlace_9 rfl
theorem r_MRm_whyNoPlace_10 {a : Nat} (hq : (qR a 10 55).isSome = true) : Rr X d MRm_whyNoPlace 10 L (.ref a :: st) (Wd mu la ro et) = Rr X d MRm_whyNoPlace 13 L (.ref (qRd a 10 55) :: st) (Wd mu la ro et) := R_gfR d_MRm_whyNoPlace_10 ff_10_92 hq
theorem r_MRm_whyNoPlace_13 {l0 l2 : Value} {x : Int32} : Rr X d MRm_whyNoPlace 13 [l0, .int x, l2] st h = Rr X d MRm_whyNoPlace 14 [l0, .int x, l2] (.int x :: st) h := Rr_nx d_MRm_whyNoPlace_13 rfl
theorem r_MRm_whyNoPlace_14 {a : Nat} {j : Int32} (hq : (qA a 0).isSome = true) : Rr X d MRm_whyNoPlace 14 L (.int j :: .ref a :: st) (Wd mu la ro et) = if j < 0 ∨ qAd a 0 ≤ j.toNatClampNeg then none else Rr X d MRm_whyNoPlace 15 L (.int (mu a j.toNatClampNeg) :: st) (Wd mu la ro et) := R_ialW d_MRm_whyNoPlace_14 hq
theorem r_MRm_whyNoPlace_15 : Rr X d MRm_whyNoPlace 15 L st h = Rr X d MRm_whyNoPlace 16 L (.int (-1) :: st) h := Rr_nx d_MRm_whyNoPlace_15 rfl
theorem r_MRm_whyNoPlace_16 {x y : Int32} : Rr X d MRm_whyNoPlace 16 L (.int y :: .int x :: st) h = if ¬ x = y then Rr X d MRm_whyNoPlace 22 L st h else Rr X d MRm_whyNoPlace 19 L st h := R_ic_ne d_MRm_whyNoPlace_16 (by decide)
theorem r_MRm_whyNoPlace_19 : Rr X d MRm_whyNoPlace 19 L st h = Rr X d MRm_whyNoPlace 21 L (.int (-11) :: st) h := Rr_nx d_MRm_whyNoPlace_19 rfl
theorem r_MRm_whyNoPlace_21 {x : Int32} : Rr X d MRm_whyNoPlace 21 L [.int x] h = some (some (.int x), h) := R_ir d_MRm_whyNoPlace_21 rfl
theorem r_MRm_whyNoPlace_22 {l1 l2 : Value} {x : Nat} : Rr X d MRm_whyNoPlace 22 [.ref x, l1, l2] st h = Rr X d MRm_whyNoPlace 23 [.ref x, l1, l2] (.ref x :: st) h := Rr_nx d_MRm_whyNoPlace_22 rfl
theorem r_MRm_whyNoPlace_23 {a : Nat} (hq : (qR a 10 55).isSome = true) : Rr X d MRm_whyNoPlace 23 L (.ref a :: st) (Wd mu la ro et) = Rr X d MRm_whyNoPlace 26 L (.ref (qRd a 10 55) :: st) (Wd mu la ro et) := R_gfR d_MRm_whyNoPlace_23 ff_10_92 hq
theorem r_MRm_whyNoPlace_26 {l0 l2 : Value} {x : Int32} : Rr X d MRm_whyNoPlace 26 [l0, .int x, l2] st h = Rr X d MRm_whyNoPlace 27 [l0, .int x, l2] (.int x :: st) h := Rr_nx d_MRm_whyNoPlace_26 rfl
theorem r_MRm_whyNoPlace_27 {a : Nat} {j : Int32} (hq : (qA a 0).isSome = true) : Rr X d MRm_whyNoPlace 27 L (.int j :: .ref a :: st) (Wd mu la ro et) = if j < 0 ∨ qAd a 0 ≤ j.toNatClampNeg then none else Rr X d MRm_whyNoPlace 28 L (.int (mu a j.toNatClampNeg) :: st) (Wd mu la ro et) := R_ialW d_MRm_whyNoPlace_27 hq
theorem r_MRm_whyNoPlace_28 {x : Int32} : Rr X d MRm_whyNoPlace 28 L (.int x :: st) h = if x < 0 then Rr X d MRm_whyNoPlace 34 L st h else Rr X d MRm_whyNoPlace 31 L st h := R_if_lt d_MRm_whyNoPlace_28 (by decide)
theorem r_MRm_whyNoPlace_31 : Rr X d MRm_whyNoPlace 31 L st h = Rr X d MRm_whyNoPlace 33 L (.int (-12) :: st) h := Rr_nx d_MRm_whyNoPlace_31 rfl
theorem r_MRm_whyNoPlace_33 {x : Int32} : Rr X d MRm_whyNoPlace 33 L [.int x] h = some (some (.int x), h) := R_ir d_MRm_whyNoPlace_33 rfl
theorem r_MRm_whyNoPlace_34 {l0 l1 : Value} {x : Int32} : Rr X d MRm_whyNoPlace 34 [l0, l1, .int x] st h = Rr X d MRm_whyNoPlace 35 [l0, l1, .int x] (.int x :: st) h := Rr_nx d_MRm_whyNoPlace_34 rfl
theorem r_MRm_whyNoPlace_35 : Rr X d MRm_whyNoPlace 35 L st h = Rr X d MRm_whyNoPlace 36 L (.int (0) :: st) h := Rr_nx d_MRm_whyNoPlace_35 rfl
theorem r_MRm_whyNoPlace_36 {l1 l2 : Value} {x : Nat} : Rr X d MRm_whyNoPlace 36 [.ref x, l1, l2] st h = Rr X d MRm_whyNoPlace 37 [.ref x, l1, l2] (.ref x :: st) h := Rr_nx d_MRm_whyNoPlace_36 rfl
theorem r_MRm_whyNoPlace_37 {a : Nat} (hq : (qR a 10 56).isSome = true) : Rr X d MRm_whyNoPlace 37 L (.ref a :: st) (Wd mu la ro et) = Rr X d MRm_whyNoPlace 40 L (.ref (qRd a 10 56) :: st) (Wd mu la ro et) := R_gfR d_MRm_whyNoPlace_37 ff_10_95 hq
theorem r_MRm_whyNoPlace_40 {l0 l2 : Value} {x : Int32} : Rr X d MRm_whyNoPlace 40 [l0, .int x, l2] st h = Rr X d MRm_whyNoPlace 41 [l0, .int x, l2] (.int x :: st) h := Rr_nx d_MRm_whyNoPlace_40 rfl
theorem r_MRm_whyNoPlace_41 {a : Nat} {j : Int32} (hq : (qA a 0).isSome = true) : Rr X d MRm_whyNoPlace 41 L (.int j :: .ref a :: st) (Wd mu la ro et) = if j < 0 ∨ qAd a 0 ≤ j.toNatClampNeg then none else Rr X d MRm_whyNoPlace 42 L (.int (mu a j.toNatClampNeg) :: st) (Wd mu la ro et) := R_ialW d_MRm_whyNoPlace_41 hq
theorem r_MRm_whyNoPlace_42 : Rr X d MRm_whyNoPlace 42 L st h = Rr X d MRm_whyNoPlace 43 L (.int (1) :: st) h := Rr_nx d_MRm_whyNoPlace_42 rfl
theorem r_MRm_whyNoPlace_43 {x y : Int32} : Rr X d MRm_whyNoPlace 43 L (.int y :: .int x :: st) h = Rr X d MRm_whyNoPlace 44 L (.int (x - y) :: st) h := Rr_nx d_MRm_whyNoPlace_43 rfl
theorem r_MRm_whyNoPlace_44 {y0 : Int32} {y1 : Int32} {y2 : Int32} (hc : ckS st = true) : Rr X (d + 1) MRm_whyNoPlace 44 L (.int y2 :: .int y1 :: .int y0 :: st) h = (Rr X d MRm_in 0 [.int y0, .int y1, .int y2] [] h).bind fun q => Rr X (d + 1) MRm_whyNoPlace 47 L (psh q.1 st) q.2 := R_is (av := [.int y2, .int y1, .int y0]) d_MRm_whyNoPlace_44 (Or.inl fc_10_107) (ckS_le hc) rfl (Nat.le_of_ble_eq_true rfl) (Nat.le_of_ble_eq_true rfl)
theorem r_MRm_whyNoPlace_47 {x : Int32} : Rr X d MRm_whyNoPlace 47 L (.int x :: st) h = if x = 0 then Rr X d MRm_whyNoPlace 54 L st h else Rr X d MRm_whyNoPlace 50 L st h := R_if_eq d_MRm_whyNoPlace_47 (by decide)
theorem r_MRm_whyNoPlace_50 : Rr X d MRm_whyNoPlace 50 L st h = Rr X d MRm_whyNoPlace 51 L (.int (0) :: st) h := Rr_nx d_MRm_whyNoPlace_50 rfl
theorem r_MRm_whyNoPlace_51 : Rr X d MRm_whyNoPlace 51 L st h = Rr X d MRm_whyNoPlace 56 L st h := R_goto d_MRm_whyNoPlace_51 (by decide)
theorem r_MRm_whyNoPlace_54 : Rr X d MRm_whyNoPlace 54 L st h = Rr X d MRm_whyNoPlace 56 L (.int (-13) :: st) h := Rr_nx d_MRm_whyNoPlace_54 rfl
theorem r_MRm_whyNoPlace_56 {x : Int32} : Rr X d MRm_whyNoPlace 56 L [.int x] h = some (some (.int x), h) := R_ir d_MRm_whyNoPlace_56 rfl
theorem d_MTo_put_0 : decode MTo_put.2.2.1 0 = .ok (.aload_n 0, 1) := lkT_ok tk_MTo_put rfl
theorem d_MTo_put_1 : decode MTo_put.2.2.1 1 = .ok (.iload_n 1, 1) := lkT_ok tk_MTo_put rfl
theorem d_MTo_put_2 : decode MTo_put.2.2.1 2 = .ok (.invokevirtual 212, 3) := lkT_ok tk_MTo_put rfl
theorem d_MTo_put_5 : decode MTo_put.2.2.1 5 = .ok (.astore 5, 2) := lkT_ok tk_MTo_put rfl
theorem d_MTo_put_7 : decode MTo_put.2.2.1 7 = .ok (.aload 5, 2) := lkT_ok tk_MTo_put rfl
theorem d_MTo_put_9 : decode MTo_put.2.2.1 9 = .ok (.ifnonnull 7, 3) := lkT_ok tk_MTo_put rfl
theorem d_MTo_put_12 : decode MTo_put.2.2.1 12 = .ok (.iconst (-1), 1) := lkT_ok tk_MTo_put rfl
theorem d_MTo_put_13 : decode MTo_put.2.2.1 13 = .ok (.goto 9, 3) := lkT_ok tk_MTo_put rfl
theorem d_MTo_put_16 : decode MTo_put.2.2.1 16 = .ok (.aload 5, 2) := lkT_ok tk_MTo_put rfl
theorem d_MTo_put_18 : decode MTo_put.2.2.1 18 = .ok (.iload_n 2, 1) := lkT_ok tk_MTo_put rfl
theorem d_MTo_put_19 : decode MTo_put.2.2.1 19 = .ok (.invokevirtual 261, 3) := lkT_ok tk_MTo_put rfl
theorem d_MTo_put_22 : decode MTo_put.2.2.1 22 = .ok (.istore 6, 2) := lkT_ok tk_MTo_put rfl
theorem d_MTo_put_24 : decode MTo_put.2.2.1 24 = .ok (.aload 5, 2) := lkT_ok tk_MTo_put rfl
theorem d_MTo_put_26 : decode MTo_put.2.2.1 26 = .ok (.ifnull 8, 3) := lkT_ok tk_MTo_put rfl
theorem d_MTo_put_29 : decode MTo_put.2.2.1 29 = .ok (.iload 6, 2) := lkT_ok tk_MTo_put rfl
theorem d_MTo_put_31 : decode MTo_put.2.2.1 31 = .ok (.ifCond .eq 6, 3) := lkT_ok tk_MTo_put rfl
theorem d_MTo_put_34 : decode MTo_put.2.2.1 34 = .ok (.iload 6, 2) := lkT_ok tk_MTo_put rfl
theorem d_MTo_put_36 : decode MTo_put.2.2.1 36 = .ok (.ireturn, 1) := lkT_ok tk_MTo_put rfl
theorem d_MTo_put_37 : decode MTo_put.2.2.1 37 = .ok (.aload 5, 2) := lkT_ok tk_MTo_put rfl
theorem d_MTo_put_39 : decode MTo_put.2.2.1 39 = .ok (.iload_n 2, 1) := lkT_ok tk_MTo_put rfl
theorem d_MTo_put_40 : decode MTo_put.2.2.1 40 = .ok (.lload_n 3, 1) := lkT_ok tk_MTo_put rfl
theorem d_MTo_put_41 : decode MTo_put.2.2.1 41 = .ok (.invokevirtual 264, 3) := lkT_ok tk_MTo_put rfl
theorem d_MTo_put_44 : decode MTo_put.2.2.1 44 = .ok (.iconst 1, 1) := lkT_ok tk_MTo_put rfl
theorem d_MTo_put_45 : decode MTo_put.2.2.1 45 = .ok (.ireturn, 1) := lkT_ok tk_MTo_put rfl
theorem r_MTo_put_0 {l1 l2 l3 l4 l5 l6 : Value} {x : Nat} : Rr X d MTo_put 0 [.ref x, l1, l2, l3, l4, l5, l6] st h = Rr X d MTo_put 1 [.ref x, l1, l2, l3, l4, l5, l6] (.ref x :: st) h := Rr_nx d_MTo_put_0 rfl
theorem r_MTo_put_1 {l0 l2 l3 l4 l5 l6 : Value} {x : Int32} : Rr X d MTo_put 1 [l0, .int x, l2, l3, l4, l5, l6] st h = Rr X d MTo_put 2 [l0, .int x, l2, l3, l4, l5, l6] (.int x :: st) h := Rr_nx d_MTo_put_1 rfl
theorem r_MTo_put_2 {y0 : Int32} {a : Nat} (hO : qO a 9 = true) (hc : ckS st = true) : Rr X (d + 1) MTo_put 2 L (.int y0 :: .ref a :: st) (Wd mu la ro et) = (Rr X d MTo_shelfAt 0 [.ref a, .int y0] [] (Wd mu la ro et)).bind fun q => Rr X (d + 1) MTo_put 5 L (psh q.1 st) q.2 := R_iv (av := [.int y0]) d_MTo_put_2 fc_9_212 hO (ckS_le hc) rfl (Nat.le_of_ble_eq_true rfl) (Nat.le_of_ble_eq_true rfl)
theorem r_MTo_put_5 {l0 l1 l2 l3 l4 l5 l6 : Value} {x : Nat} : Rr X d MTo_put 5 [l0, l1, l2, l3, l4, l5, l6] (.ref x :: st) h = Rr X d MTo_put 7 (sL [l0, l1, l2, l3, l4, l5, l6] 5 (.ref x)) st h := Rr_nx d_MTo_put_5 rfl
theorem r_MTo_put_5n {l0 l1 l2 l3 l4 l5 l6 : Value} : Rr X d MTo_put 5 [l0, l1, l2, l3, l4, l5, l6] (.null :: st) h = Rr X d MTo_put 7 (sL [l0, l1, l2, l3, l4, l5, l6] 5 .null) st h := Rr_nx d_MTo_put_5 rfl
theorem r_MTo_put_7 {l0 l1 l2 l3 l4 l6 : Value} {x : Nat} : Rr X d MTo_put 7 [l0, l1, l2, l3, l4, .ref x, l6] st h = Rr X d MTo_put 9 [l0, l1, l2, l3, l4, .ref x, l6] (.ref x :: st) h := Rr_nx d_MTo_put_7 rfl
theorem r_MTo_put_7n {l0 l1 l2 l3 l4 l6 : Value} : Rr X d MTo_put 7 [l0, l1, l2, l3, l4, .null, l6] st h = Rr X d MTo_put 9 [l0, l1, l2, l3, l4, .null, l6] (.null :: st) h := Rr_nx d_MTo_put_7 rfl
theorem r_MTo_put_9 {x : Nat} : Rr X d MTo_put 9 L (.ref x :: st) h = Rr X d MTo_put 16 L st h := R_nnl1 d_MTo_put_9 (by decide)
theorem r_MTo_put_9n : Rr X d MTo_put 9 L (.null :: st) h = Rr X d MTo_put 12 L st h := R_nnl0 d_MTo_put_9
theorem r_MTo_put_12 : Rr X d MTo_put 12 L st h = Rr X d MTo_put 13 L (.int (-1) :: st) h := Rr_nx d_MTo_put_12 rfl
theorem r_MTo_put_13 : Rr X d MTo_put 13 L st h = Rr X d MTo_put 22 L st h := R_goto d_MTo_put_13 (by decide)
theorem r_MTo_put_16 {l0 l1 l2 l3 l4 l6 : Value} {x : Nat} : Rr X d MTo_put 16 [l0, l1, l2, l3, l4, .ref x, l6] st h = Rr X d MTo_put 18 [l0, l1, l2, l3, l4, .ref x, l6] (.ref x :: st) h := Rr_nx d_MTo_put_16 rfl
theorem r_MTo_put_16n {l0 l1 l2 l3 l4 l6 : Value} : Rr X d MTo_put 16 [l0, l1, l2, l3, l4, .null, l6] st h = Rr X d MTo_put 18 [l0, l1, l2, l3, l4, .null, l6] (.null :: st) h := Rr_nx d_MTo_put_16 rfl
theorem r_MTo_put_18 {l0 l1 l3 l4 l5 l6 : Value} {x : Int32} : Rr X d MTo_put 18 [l0, l1, .int x, l3, l4, l5, l6] st h = Rr X d MTo_put 19 [l0, l1, .int x, l3, l4, l5, l6] (.int x :: st) h := Rr_nx d_MTo_put_18 rfl
theorem fc_9_261 : fC 9 261 = some (0, 6, 1, MSh_refusal) := rfl
theorem r_MTo_put_19 {y0 : Int32} {a : Nat} (hO : qO a 6 = true) (hc : ckS st = true) : Rr X (d + 1) MTo_put 19 L (.int y0 :: .ref a :: st) (Wd mu la ro et) = (Rr X d MSh_refusal 0 [.ref a, .int y0] [] (Wd mu la ro et)).bind fun q => Rr X (d + 1) MTo_put 22 L (psh q.1 st) q.2 := R_iv (av := [.int y0]) d_MTo_put_19 fc_9_261 hO (ckS_le hc) rfl (Nat.le_of_ble_eq_true rfl) (Nat.le_of_ble_eq_true rfl)
theorem r_MTo_put_22 {l0 l1 l2 l3 l4 l5 l6 : Value} {x : Int32} : Rr X d MTo_put 22 [l0, l1, l2, l3, l4, l5, l6] (.int x :: st) h = Rr X d MTo_put 24 (sL [l0, l1, l2, l3, l4, l5, l6] 6 (.int x)) st h := Rr_nx d_MTo_put_22 rfl
theorem r_MTo_put_24 {l0 l1 l2 l3 l4 l6 : Value} {x : Nat} : Rr X d MTo_put 24 [l0, l1, l2, l3, l4, .ref x, l6] st h = Rr X d MTo_put 26 [l0, l1, l2, l3, l4, .ref x, l6] (.ref x :: st) h := Rr_nx d_MTo_put_24 rfl
theorem r_MTo_put_24n {l0 l1 l2 l3 l4 l6 : Value} : Rr X d MTo_put 24 [l0, l1, l2, l3, l4, .null, l6] st h = Rr X d MTo_put 26 [l0, l1, l2, l3, l4, .null, l6] (.null :: st) h := Rr_nx d_MTo_put_24 rfl
theorem r_MTo_put_26 {x : Nat} : Rr X d MTo_put 26 L (.ref x :: st) h = Rr X d MTo_put 29 L st h := R_nul1 d_MTo_put_26
theorem r_MTo_put_26n : Rr X d MTo_put 26 L (.null :: st) h = Rr X d MTo_put 34 L st h := R_nul0 d_MTo_put_26 (by decide)
theorem r_MTo_put_29 {l0 l1 l2 l3 l4 l5 : Value} {x : Int32} : Rr X d MTo_put 29 [l0, l1, l2, l3, l4, l5, .int x] st h = Rr X d MTo_put 31 [l0, l1, l2, l3, l4, l5, .int x] (.int x :: st) h := Rr_nx d_MTo_put_29 rfl
theorem r_MTo_put_31 {x : Int32} : Rr X d MTo_put 31 L (.int x :: st) h = if x = 0 then Rr X d MTo_put 37 L st h else Rr X d MTo_put 34 L st h := R_if_eq d_MTo_put_31 (by decide)
theorem r_MTo_put_34 {l0 l1 l2 l3 l4 l5 : Value} {x : Int32} : Rr X d MTo_put 34 [l0, l1, l2, l3, l4, l5, .int x] st h = Rr X d MTo_put 36 [l0, l1, l2, l3, l4, l5, .int x] (.int x :: st) h := Rr_nx d_MTo_put_34 rfl
theorem r_MTo_put_36 {x : Int32} : Rr X d MTo_put 36 L [.int x] h = some (some (.int x), h) := R_ir d_MTo_put_36 rfl
theorem r_MTo_put_37 {l0 l1 l2 l3 l4 l6 : Value} {x : Nat} : Rr X d MTo_put 37 [l0, l1, l2, l3, l4, .ref x, l6] st h = Rr X d MTo_put 39 [l0, l1, l2, l3, l4, .ref x, l6] (.ref x :: st) h := Rr_nx d_MTo_put_37 rfl
theorem r_MTo_put_37n {l0 l1 l2 l3 l4 l6 : Value} : Rr X d MTo_put 37 [l0, l1, l2, l3, l4, .null, l6] st h = Rr X d MTo_put 39 [l0, l1, l2, l3, l4, .null, l6] (.null :: st) h := Rr_nx d_MTo_put_37 rfl
theorem r_MTo_put_39 {l0 l1 l3 l4 l5 l6 : Value} {x : Int32} : Rr X d MTo_put 39 [l0, l1, .int x, l3, l4, l5, l6] st h = Rr X d MTo_put 40 [l0, l1, .int x, l3, l4, l5, l6] (.int x :: st) h := Rr_nx d_MTo_put_39 rfl
theorem r_MTo_put_40 {l0 l1 l2 l4 l5 l6 : Value} {x : Int64} : Rr X d MTo_put 40 [l0, l1, l2, .long x, l4, l5, l6] st h = Rr X d MTo_put 41 [l0, l1, l2, .long x, l4, l5, l6] (.long x :: st) h := Rr_nx d_MTo_put_40 rfl
theorem fc_9_264 : fC 9 264 = some (0, 6, 2, MSh_write) := rfl
theorem r_MTo_put_41 {y0 : Int32} {y1 : Int64} {a : Nat} (hO : qO a 6 = true) (hc : ckS st = true) : Rr X (d + 1) MTo_put 41 L (.long y1 :: .int y0 :: .ref a :: st) (Wd mu la ro et) = (Rr X d MSh_write 0 [.ref a, .int y0, .long y1, mkU] [] (Wd mu la ro et)).bind fun q => Rr X (d + 1) MTo_put 44 L (psh q.1 st) q.2 := R_iv (av := [.long y1, .int y0]) d_MTo_put_41 fc_9_264 hO (ckS_le hc) rfl (Nat.le_of_ble_eq_true rfl) (Nat.le_of_ble_eq_true rfl)
theorem r_MTo_put_44 : Rr X d MTo_put 44 L st h = Rr X d MTo_put 45 L (.int (1) :: st) h := Rr_nx d_MTo_put_44 rfl
theorem r_MTo_put_45 {x : Int32} : Rr X d MTo_put 45 L [.int x] h = some (some (.int x), h) := R_ir d_MTo_put_45 rfl
theorem d_MRm_put_0 : decode MRm_put.2.2.1 0 = .ok (.aload_n 0, 1) := lkT_ok tk_MRm_put rfl
theorem d_MRm_put_1 : decode MRm_put.2.2.1 1 = .ok (.iload_n 1, 1) := lkT_ok tk_MRm_put rfl
theorem d_MRm_put_2 : decode MRm_put.2.2.1 2 = .ok (.iload_n 2, 1) := lkT_ok tk_MRm_put rfl
theorem d_MRm_put_3 : decode MRm_put.2.2.1 3 = .ok (.invokevirtual 401, 3) := lkT_ok tk_MRm_put rfl
theorem d_MRm_put_6 : decode MRm_put.2.2.1 6 = .ok (.istore 5, 2) := lkT_ok tk_MRm_put rfl
theorem d_MRm_put_8 : decode MRm_put.2.2.1 8 = .ok (.iload 5, 2) := lkT_ok tk_MRm_put rfl
theorem d_MRm_put_10 : decode MRm_put.2.2.1 10 = .ok (.ifCond .ge 6, 3) := lkT_ok tk_MRm_put rfl
theorem d_MRm_put_13 : decode MRm_put.2.2.1 13 = .ok (.iload 5, 2) := lkT_ok tk_MRm_put rfl
theorem d_MRm_put_15 : decode MRm_put.2.2.1 15 = .ok (.ireturn, 1) := lkT_ok tk_MRm_put rfl
theorem d_MRm_put_16 : decode MRm_put.2.2.1 16 = .ok (.bipush (-2), 2) := lkT_ok tk_MRm_put rfl
theorem d_MRm_put_18 : decode MRm_put.2.2.1 18 = .ok (.aload_n 0, 1) := lkT_ok tk_MRm_put rfl
theorem d_MRm_put_19 : decode MRm_put.2.2.1 19 = .ok (.getfield 92, 3) := lkT_ok tk_MRm_put rfl
theorem d_MRm_put_22 : decode MRm_put.2.2.1 22 = .ok (.iload_n 1, 1) := lkT_ok tk_MRm_put rfl
theorem d_MRm_put_23 : decode MRm_put.2.2.1 23 = .ok (.iaload, 1) := lkT_ok tk_MRm_put rfl
theorem d_MRm_put_24 : decode MRm_put.2.2.1 24 = .ok (.isub, 1) := lkT_ok tk_MRm_put rfl
theorem d_MRm_put_25 : decode MRm_put.2.2.1 25 = .ok (.istore 6, 2) := lkT_ok tk_MRm_put rfl
theorem d_MRm_put_27 : decode MRm_put.2.2.1 27 = .ok (.aload_n 0, 1) := lkT_ok tk_MRm_put rfl
theorem d_MRm_put_28 : decode MRm_put.2.2.1 28 = .ok (.getfield 98, 3) := lkT_ok tk_MRm_put rfl
theorem d_MRm_put_31 : decode MRm_put.2.2.1 31 = .ok (.bipush 60, 2) := lkT_ok tk_MRm_put rfl
theorem d_MRm_put_33 : decode MRm_put.2.2.1 33 = .ok (.iload_n 1, 1) := lkT_ok tk_MRm_put rfl
theorem d_MRm_put_34 : decode MRm_put.2.2.1 34 = .ok (.imul, 1) := lkT_ok tk_MRm_put rfl
theorem d_MRm_put_35 : decode MRm_put.2.2.1 35 = .ok (.iload_n 2, 1) := lkT_ok tk_MRm_put rfl
theorem d_MRm_put_36 : decode MRm_put.2.2.1 36 = .ok (.iadd, 1) := lkT_ok tk_MRm_put rfl
theorem d_MRm_put_37 : decode MRm_put.2.2.1 37 = .ok (.iload 6, 2) := lkT_ok tk_MRm_put rfl
theorem d_MRm_put_39 : decode MRm_put.2.2.1 39 = .ok (.ifCond .ne 10, 3) := lkT_ok tk_MRm_put rfl
theorem d_MRm_put_42 : decode MRm_put.2.2.1 42 = .ok (.lload_n 3, 1) := lkT_ok tk_MRm_put rfl
theorem d_MRm_put_43 : decode MRm_put.2.2.1 43 = .ok (.l2i, 1) := lkT_ok tk_MRm_put rfl
theorem d_MRm_put_44 : decode MRm_put.2.2.1 44 = .ok (.i2b, 1) := lkT_ok tk_MRm_put rfl
theorem d_MRm_put_45 : decode MRm_put.2.2.1 45 = .ok (.i2l, 1) := lkT_ok tk_MRm_put rfl
theorem d_MRm_put_46 : decode MRm_put.2.2.1 46 = .ok (.goto 49, 3) := lkT_ok tk_MRm_put rfl
theorem d_MRm_put_49 : decode MRm_put.2.2.1 49 = .ok (.iload 6, 2) := lkT_ok tk_MRm_put rfl
theorem d_MRm_put_51 : decode MRm_put.2.2.1 51 = .ok (.iconst 1, 1) := lkT_ok tk_MRm_put rfl
theorem d_MRm_put_52 : decode MRm_put.2.2.1 52 = .ok (.if_icmp .ne 10, 3) := lkT_ok tk_MRm_put rfl
theorem d_MRm_put_55 : decode MRm_put.2.2.1 55 = .ok (.lload_n 3, 1) := lkT_ok tk_MRm_put rfl
theorem d_MRm_put_56 : decode MRm_put.2.2.1 56 = .ok (.l2i, 1) := lkT_ok tk_MRm_put rfl
theorem d_MRm_put_57 : decode MRm_put.2.2.1 57 = .ok (.i2s, 1) := lkT_ok tk_MRm_put rfl
theorem d_MRm_put_58 : decode MRm_put.2.2.1 58 = .ok (.i2l, 1) := lkT_ok tk_MRm_put rfl
theorem d_MRm_put_59 : decode MRm_put.2.2.1 59 = .ok (.goto 36, 3) := lkT_ok tk_MRm_put rfl
theorem d_MRm_put_62 : decode MRm_put.2.2.1 62 = .ok (.iload 6, 2) := lkT_ok tk_MRm_put rfl
theorem d_MRm_put_64 : decode MRm_put.2.2.1 64 = .ok (.iconst 2, 1) := lkT_ok tk_MRm_put rfl
theorem d_MRm_put_65 : decode MRm_put.2.2.1 65 = .ok (.if_icmp .ne 9, 3) := lkT_ok tk_MRm_put rfl
theorem d_MRm_put_68 : decode MRm_put.2.2.1 68 = .ok (.lload_n 3, 1) := lkT_ok tk_MRm_put rfl
theorem d_MRm_put_69 : decode MRm_put.2.2.1 69 = .ok (.l2i, 1) := lkT_ok tk_MRm_put rfl
theorem d_MRm_put_70 : decode MRm_put.2.2.1 70 = .ok (.i2l, 1) := lkT_ok tk_MRm_put rfl
theorem d_MRm_put_71 : decode MRm_put.2.2.1 71 = .ok (.goto 24, 3) := lkT_ok tk_MRm_put rfl
theorem d_MRm_put_74 : decode MRm_put.2.2.1 74 = .ok (.iload 6, 2) := lkT_ok tk_MRm_put rfl
theorem d_MRm_put_76 : decode MRm_put.2.2.1 76 = .ok (.iconst 3, 1) := lkT_ok tk_MRm_put rfl
theorem d_MRm_put_77 : decode MRm_put.2.2.1 77 = .ok (.if_icmp .ne 7, 3) := lkT_ok tk_MRm_put rfl
theorem d_MRm_put_80 : decode MRm_put.2.2.1 80 = .ok (.lload_n 3, 1) := lkT_ok tk_MRm_put rfl
theorem d_MRm_put_81 : decode MRm_put.2.2.1 81 = .ok (.goto 14, 3) := lkT_ok tk_MRm_put rfl
theorem d_MRm_put_84 : decode MRm_put.2.2.1 84 = .ok (.lload_n 3, 1) := lkT_ok tk_MRm_put rfl
theorem d_MRm_put_85 : decode MRm_put.2.2.1 85 = .ok (.lconst 0, 1) := lkT_ok tk_MRm_put rfl
theorem d_MRm_put_86 : decode MRm_put.2.2.1 86 = .ok (.lcmp, 1) := lkT_ok tk_MRm_put rfl
theorem d_MRm_put_87 : decode MRm_put.2.2.1 87 = .ok (.ifCond .eq 7, 3) := lkT_ok tk_MRm_put rfl
theorem d_MRm_put_90 : decode MRm_put.2.2.1 90 = .ok (.lconst 1, 1) := lkT_ok tk_MRm_put rfl
theorem d_MRm_put_91 : decode MRm_put.2.2.1 91 = .ok (.goto 4, 3) := lkT_ok tk_MRm_put rfl
theorem d_MRm_put_94 : decode MRm_put.2.2.1 94 = .ok (.lconst 0, 1) := lkT_ok tk_MRm_put rfl
theorem d_MRm_put_95 : decode MRm_put.2.2.1 95 = .ok (.lastore, 1) := lkT_ok tk_MRm_put rfl
theorem d_MRm_put_96 : decode MRm_put.2.2.1 96 = .ok (.iconst 1, 1) := lkT_ok tk_MRm_put rfl
theorem d_MRm_put_97 : decode MRm_put.2.2.1 97 = .ok (.ireturn, 1) := lkT_ok tk_MRm_put rfl
theorem r_MRm_put_0 {l1 l2 l3 l4 l5 l6 : Value} {x : Nat} : Rr X d MRm_put 0 [.ref x, l1, l2, l3, l4, l5, l6] st h = Rr X d MRm_put 1 [.ref x, l1, l2, l3, l4, l5, l6] (.ref x :: st) h := Rr_nx d_MRm_put_0 rfl
theorem r_MRm_put_1 {l0 l2 l3 l4 l5 l6 : Value} {x : Int32} : Rr X d MRm_put 1 [l0, .int x, l2, l3, l4, l5, l6] st h = Rr X d MRm_put 2 [l0, .int x, l2, l3, l4, l5, l6] (.int x :: st) h := Rr_nx d_MRm_put_1 rfl
theorem r_MRm_put_2 {l0 l1 l3 l4 l5 l6 : Value} {x : Int32} : Rr X d MRm_put 2 [l0, l1, .int x, l3, l4, l5, l6] st h = Rr X d MRm_put 3 [l0, l1, .int x, l3, l4, l5, l6] (.int x :: st) h := Rr_nx d_MRm_put_2 rfl
theorem fc_10_401 : fC 10 401 = some (0, 10, 2, MRm_whyNoPlace) := rfl
theorem r_MRm_put_3 {y0 : Int32} {y1 : Int32} {a : Nat} (hO : qO a 10 = true) (hc : ckS st = true) : Rr X (d + 1) MRm_put 3 L (.int y1 :: .int y0 :: .ref a :: st) (Wd mu la ro et) = (Rr X d MRm_whyNoPlace 0 [.ref a, .int y0, .int y1] [] (Wd mu la ro et)).bind fun q => Rr X (d + 1) MRm_put 6 L (psh q.1 st) q.2 := R_iv (av := [.int y1, .int y0]) d_MRm_put_3 fc_10_401 hO (ckS_le hc) rfl (Nat.le_of_ble_eq_true rfl) (Nat.le_of_ble_eq_true rfl)
theorem r_MRm_put_6 {l0 l1 l2 l3 l4 l5 l6 : Value} {x : Int32} : Rr X d MRm_put 6 [l0, l1, l2, l3, l4, l5, l6] (.int x :: st) h = Rr X d MRm_put 8 (sL [l0, l1, l2, l3, l4, l5, l6] 5 (.int x)) st h := Rr_nx d_MRm_put_6 rfl
theorem r_MRm_put_8 {l0 l1 l2 l3 l4 l6 : Value} {x : Int32} : Rr X d MRm_put 8 [l0, l1, l2, l3, l4, .int x, l6] st h = Rr X d MRm_put 10 [l0, l1, l2, l3, l4, .int x, l6] (.int x :: st) h := Rr_nx d_MRm_put_8 rfl
theorem r_MRm_put_10 {x : Int32} : Rr X d MRm_put 10 L (.int x :: st) h = if 0 ≤ x then Rr X d MRm_put 16 L st h else Rr X d MRm_put 13 L st h := R_if_ge d_MRm_put_10 (by decide)
theorem r_MRm_put_13 {l0 l1 l2 l3 l4 l6 : Value} {x : Int32} : Rr X d MRm_put 13 [l0, l1, l2, l3, l4, .int x, l6] st h = Rr X d MRm_put 15 [l0, l1, l2, l3, l4, .int x, l6] (.int x :: st) h := Rr_nx d_MRm_put_13 rfl
theorem r_MRm_put_15 {x : Int32} : Rr X d MRm_put 15 L [.int x] h = some (some (.int x), h) := R_ir d_MRm_put_15 rfl
theorem r_MRm_put_16 : Rr X d MRm_put 16 L st h = Rr X d MRm_put 18 L (.int (-2) :: st) h := Rr_nx d_MRm_put_16 rfl
theorem r_MRm_put_18 {l1 l2 l3 l4 l5 l6 : Value} {x : Nat} : Rr X d MRm_put 18 [.ref x, l1, l2, l3, l4, l5, l6] st h = Rr X d MRm_put 19 [.ref x, l1, l2, l3, l4, l5, l6] (.ref x :: st) h := Rr_nx d_MRm_put_18 rfl
theorem r_MRm_put_19 {a : Nat} (hq : (qR a 10 55).isSome = true) : Rr X d MRm_put 19 L (.ref a :: st) (Wd mu la ro et) = Rr X d MRm_put 22 L (.ref (qRd a 10 55) :: st) (Wd mu la ro et) := R_gfR d_MRm_put_19 ff_10_92 hq
theorem r_MRm_put_22 {l0 l2 l3 l4 l5 l6 : Value} {x : Int32} : Rr X d MRm_put 22 [l0, .int x, l2, l3, l4, l5, l6] st h = Rr X d MRm_put 23 [l0, .int x, l2, l3, l4, l5, l6] (.int x :: st) h := Rr_nx d_MRm_put_22 rfl
theorem r_MRm_put_23 {a : Nat} {j : Int32} (hq : (qA a 0).isSome = true) : Rr X d MRm_put 23 L (.int j :: .ref a :: st) (Wd mu la ro et) = if j < 0 ∨ qAd a 0 ≤ j.toNatClampNeg then none else Rr X d MRm_put 24 L (.int (mu a j.toNatClampNeg) :: st) (Wd mu la ro et) := R_ialW d_MRm_put_23 hq
theorem r_MRm_put_24 {x y : Int32} : Rr X d MRm_put 24 L (.int y :: .int x :: st) h = Rr X d MRm_put 25 L (.int (x - y) :: st) h := Rr_nx d_MRm_put_24 rfl
theorem r_MRm_put_25 {l0 l1 l2 l3 l4 l5 l6 : Value} {x : Int32} : Rr X d MRm_put 25 [l0, l1, l2, l3, l4, l5, l6] (.int x :: st) h = Rr X d MRm_put 27 (sL [l0, l1, l2, l3, l4, l5, l6] 6 (.int x)) st h := Rr_nx d_MRm_put_25 rfl
theorem r_MRm_put_27 {l1 l2 l3 l4 l5 l6 : Value} {x : Nat} : Rr X d MRm_put 27 [.ref x, l1, l2, l3, l4, l5, l6] st h = Rr X d MRm_put 28 [.ref x, l1, l2, l3, l4, l5, l6] (.ref x :: st) h := Rr_nx d_MRm_put_27 rfl
theorem r_MRm_put_28 {a : Nat} (hq : (qR a 10 57).isSome = true) : Rr X d MRm_put 28 L (.ref a :: st) (Wd mu la ro et) = Rr X d MRm_put 31 L (.ref (qRd a 10 57) :: st) (Wd mu la ro et) := R_gfR d_MRm_put_28 ff_10_98 hq
theorem r_MRm_put_31 : Rr X d MRm_put 31 L st h = Rr X d MRm_put 33 L (.int (60) :: st) h := Rr_nx d_MRm_put_31 rfl
theorem r_MRm_put_33 {l0 l2 l3 l4 l5 l6 : Value} {x : Int32} : Rr X d MRm_put 33 [l0, .int x, l2, l3, l4, l5, l6] st h = Rr X d MRm_put 34 [l0, .int x, l2, l3, l4, l5, l6] (.int x :: st) h := Rr_nx d_MRm_put_33 rfl
theorem r_MRm_put_34 {x y : Int32} : Rr X d MRm_put 34 L (.int y :: .int x :: st) h = Rr X d MRm_put 35 L (.int (x * y) :: st) h := Rr_nx d_MRm_put_34 rfl
theorem r_MRm_put_35 {l0 l1 l3 l4 l5 l6 : Value} {x : Int32} : Rr X d MRm_put 35 [l0, l1, .int x, l3, l4, l5, l6] st h = Rr X d MRm_put 36 [l0, l1, .int x, l3, l4, l5, l6] (.int x :: st) h := Rr_nx d_MRm_put_35 rfl
theorem r_MRm_put_36 {x y : Int32} : Rr X d MRm_put 36 L (.int y :: .int x :: st) h = Rr X d MRm_put 37 L (.int (x + y) :: st) h := Rr_nx d_MRm_put_36 rfl
theorem r_MRm_put_37 {l0 l1 l2 l3 l4 l5 : Value} {x : Int32} : Rr X d MRm_put 37 [l0, l1, l2, l3, l4, l5, .int x] st h = Rr X d MRm_put 39 [l0, l1, l2, l3, l4, l5, .int x] (.int x :: st) h := Rr_nx d_MRm_put_37 rfl
theorem r_MRm_put_39 {x : Int32} : Rr X d MRm_put 39 L (.int x :: st) h = if ¬ x = 0 then Rr X d MRm_put 49 L st h else Rr X d MRm_put 42 L st h := R_if_ne d_MRm_put_39 (by decide)
theorem r_MRm_put_42 {l0 l1 l2 l4 l5 l6 : Value} {x : Int64} : Rr X d MRm_put 42 [l0, l1, l2, .long x, l4, l5, l6] st h = Rr X d MRm_put 43 [l0, l1, l2, .long x, l4, l5, l6] (.long x :: st) h := Rr_nx d_MRm_put_42 rfl
theorem r_MRm_put_43 {x : Int64} : Rr X d MRm_put 43 L (.long x :: st) h = Rr X d MRm_put 44 L (.int x.toInt32 :: st) h := Rr_nx d_MRm_put_43 rfl
theorem r_MRm_put_44 {x : Int32} : Rr X d MRm_put 44 L (.int x :: st) h = Rr X d MRm_put 45 L (.int (x.toInt8.toInt32) :: st) h := Rr_nx d_MRm_put_44 rfl
theorem r_MRm_put_45 {x : Int32} : Rr X d MRm_put 45 L (.int x :: st) h = Rr X d MRm_put 46 L (.long x.toInt64 :: st) h := Rr_nx d_MRm_put_45 rfl
theorem r_MRm_put_46 : Rr X d MRm_put 46 L st h = Rr X d MRm_put 95 L st h := R_goto d_MRm_put_46 (by decide)
theorem r_MRm_put_49 {l0 l1 l2 l3 l4 l5 : Value} {x : Int32} : Rr X d MRm_put 49 [l0, l1, l2, l3, l4, l5, .int x] st h = Rr X d MRm_put 51 [l0, l1, l2, l3, l4, l5, .int x] (.int x :: st) h := Rr_nx d_MRm_put_49 rfl
theorem r_MRm_put_51 : Rr X d MRm_put 51 L st h = Rr X d MRm_put 52 L (.int (1) :: st) h := Rr_nx d_MRm_put_51 rfl
theorem r_MRm_put_52 {x y : Int32} : Rr X d MRm_put 52 L (.int y :: .int x :: st) h = if ¬ x = y then Rr X d MRm_put 62 L st h else Rr X d MRm_put 55 L st h := R_ic_ne d_MRm_put_52 (by decide)
theorem r_MRm_put_55 {l0 l1 l2 l4 l5 l6 : Value} {x : Int64} : Rr X d MRm_put 55 [l0, l1, l2, .long x, l4, l5, l6] st h = Rr X d MRm_put 56 [l0, l1, l2, .long x, l4, l5, l6] (.long x :: st) h := Rr_nx d_MRm_put_55 rfl
theorem r_MRm_put_56 {x : Int64} : Rr X d MRm_put 56 L (.long x :: st) h = Rr X d MRm_put 57 L (.int x.toInt32 :: st) h := Rr_nx d_MRm_put_56 rfl
theorem r_MRm_put_57 {x : Int32} : Rr X d MRm_put 57 L (.int x :: st) h = Rr X d MRm_put 58 L (.int (x.toInt16.toInt32) :: st) h := Rr_nx d_MRm_put_57 rfl
theorem r_MRm_put_58 {x : Int32} : Rr X d MRm_put 58 L (.int x :: st) h = Rr X d MRm_put 59 L (.long x.toInt64 :: st) h := Rr_nx d_MRm_put_58 rfl
theorem r_MRm_put_59 : Rr X d MRm_put 59 L st h = Rr X d MRm_put 95 L st h := R_goto d_MRm_put_59 (by decide)
theorem r_MRm_put_62 {l0 l1 l2 l3 l4 l5 : Value} {x : Int32} : Rr X d MRm_put 62 [l0, l1, l2, l3, l4, l5, .int x] st h = Rr X d MRm_put 64 [l0, l1, l2, l3, l4, l5, .int x] (.int x :: st) h := Rr_nx d_MRm_put_62 rfl
theorem r_MRm_put_64 : Rr X d MRm_put 64 L st h = Rr X d MRm_put 65 L (.int (2) :: st) h := Rr_nx d_MRm_put_64 rfl
theorem r_MRm_put_65 {x y : Int32} : Rr X d MRm_put 65 L (.int y :: .int x :: st) h = if ¬ x = y then Rr X d MRm_put 74 L st h else Rr X d MRm_put 68 L st h := R_ic_ne d_MRm_put_65 (by decide)
theorem r_MRm_put_68 {l0 l1 l2 l4 l5 l6 : Value} {x : Int64} : Rr X d MRm_put 68 [l0, l1, l2, .long x, l4, l5, l6] st h = Rr X d MRm_put 69 [l0, l1, l2, .long x, l4, l5, l6] (.long x :: st) h := Rr_nx d_MRm_put_68 rfl
theorem r_MRm_put_69 {x : Int64} : Rr X d MRm_put 69 L (.long x :: st) h = Rr X d MRm_put 70 L (.int x.toInt32 :: st) h := Rr_nx d_MRm_put_69 rfl
theorem r_MRm_put_70 {x : Int32} : Rr X d MRm_put 70 L (.int x :: st) h = Rr X d MRm_put 71 L (.long x.toInt64 :: st) h := Rr_nx d_MRm_put_70 rfl
theorem r_MRm_put_71 : Rr X d MRm_put 71 L st h = Rr X d MRm_put 95 L st h := R_goto d_MRm_put_71 (by decide)
theorem r_MRm_put_74 {l0 l1 l2 l3 l4 l5 : Value} {x : Int32} : Rr X d MRm_put 74 [l0, l1, l2, l3, l4, l5, .int x] st h = Rr X d MRm_put 76 [l0, l1, l2, l3, l4, l5, .int x] (.int x :: st) h := Rr_nx d_MRm_put_74 rfl
theorem r_MRm_put_76 : Rr X d MRm_put 76 L st h = Rr X d MRm_put 77 L (.int (3) :: st) h := Rr_nx d_MRm_put_76 rfl
theorem r_MRm_put_77 {x y : Int32} : Rr X d MRm_put 77 L (.int y :: .int x :: st) h = if ¬ x = y then Rr X d MRm_put 84 L st h else Rr X d MRm_put 80 L st h := R_ic_ne d_MRm_put_77 (by decide)
theorem r_MRm_put_80 {l0 l1 l2 l4 l5 l6 : Value} {x : Int64} : Rr X d MRm_put 80 [l0, l1, l2, .long x, l4, l5, l6] st h = Rr X d MRm_put 81 [l0, l1, l2, .long x, l4, l5, l6] (.long x :: st) h := Rr_nx d_MRm_put_80 rfl
theorem r_MRm_put_81 : Rr X d MRm_put 81 L st h = Rr X d MRm_put 95 L st h := R_goto d_MRm_put_81 (by decide)
theorem r_MRm_put_84 {l0 l1 l2 l4 l5 l6 : Value} {x : Int64} : Rr X d MRm_put 84 [l0, l1, l2, .long x, l4, l5, l6] st h = Rr X d MRm_put 85 [l0, l1, l2, .long x, l4, l5, l6] (.long x :: st) h := Rr_nx d_MRm_put_84 rfl
theorem r_MRm_put_85 : Rr X d MRm_put 85 L st h = Rr X d MRm_put 86 L (.long 0 :: st) h := Rr_nx d_MRm_put_85 rfl
theorem r_MRm_put_86 {x y : Int64} : Rr X d MRm_put 86 L (.long y :: .long x :: st) h = Rr X d MRm_put 87 L (.int (lg_cmp x y) :: st) h := Rr_nx d_MRm_put_86 rfl
theorem r_MRm_put_87 {x : Int32} : Rr X d MRm_put 87 L (.int x :: st) h = if x = 0 then Rr X d MRm_put 94 L st h else Rr X d MRm_put 90 L st h := R_if_eq d_MRm_put_87 (by decide)
theorem r_MRm_put_90 : Rr X d MRm_put 90 L st h = Rr X d MRm_put 91 L (.long 1 :: st) h := Rr_nx d_MRm_put_90 rfl
theorem r_MRm_put_91 : Rr X d MRm_put 91 L st h = Rr X d MRm_put 95 L st h := R_goto d_MRm_put_91 (by decide)
theorem r_MRm_put_94 : Rr X d MRm_put 94 L st h = Rr X d MRm_put 95 L (.long 0 :: st) h := Rr_nx d_MRm_put_94 rfl
theorem r_MRm_put_95 {a : Nat} {j : Int32} {x : Int64} (hq : (qJ a).isSome = true) : Rr X d MRm_put 95 L (.long x :: .int j :: .ref a :: st) (Wd mu la ro et) = if j < 0 ∨ qJd a ≤ j.toNatClampNeg then none else Rr X d MRm_put 96 L st (Wd mu (upJ la a j.toNatClampNeg x) ro et) := R_lasW d_MRm_put_95 hq
theorem r_MRm_put_96 : Rr X d MRm_put 96 L st h = Rr X d MRm_put 97 L (.int (1) :: st) h := Rr_nx d_MRm_put_96 rfl
theorem r_MRm_put_97 {x : Int32} : Rr X d MRm_put 97 L [.int x] h = some (some (.int x), h) := R_ir d_MRm_put_97 rfl
theorem d_MBo_isUnder_0 : decode MBo_isUnder.2.2.1 0 = .ok (.iload_n 0, 1) := lkT_ok tk_MBo_isUnder rfl
theorem d_MBo_isUnder_1 : decode MBo_isUnder.2.2.1 1 = .ok (.istore_n 2, 1) := lkT_ok tk_MBo_isUnder rfl
theorem d_MBo_isUnder_2 : decode MBo_isUnder.2.2.1 2 = .ok (.iconst 0, 1) := lkT_ok tk_MBo_isUnder rfl
theorem d_MBo_isUnder_3 : decode MBo_isUnder.2.2.1 3 = .ok (.istore_n 3, 1) := lkT_ok tk_MBo_isUnder rfl
theorem d_MBo_isUnder_4 : decode MBo_isUnder.2.2.1 4 = .ok (.iload_n 3, 1) := lkT_ok tk_MBo_isUnder rfl
theorem d_MBo_isUnder_5 : decode MBo_isUnder.2.2.1 5 = .ok (.getstatic 22, 3) := lkT_ok tk_MBo_isUnder rfl
theorem d_MBo_isUnder_8 : decode MBo_isUnder.2.2.1 8 = .ok (.arraylength, 1) := lkT_ok tk_MBo_isUnder rfl
theorem d_MBo_isUnder_9 : decode MBo_isUnder.2.2.1 9 = .ok (.if_icmp .ge 24, 3) := lkT_ok tk_MBo_isUnder rfl
theorem d_MBo_isUnder_12 : decode MBo_isUnder.2.2.1 12 = .ok (.iload_n 2, 1) := lkT_ok tk_MBo_isUnder rfl
theorem d_MBo_isUnder_13 : decode MBo_isUnder.2.2.1 13 = .ok (.iconst (-1), 1) := lkT_ok tk_MBo_isUnder rfl
theorem d_MBo_isUnder_14 : decode MBo_isUnder.2.2.1 14 = .ok (.if_icmp .eq 19, 3) := lkT_ok tk_MBo_isUnder rfl
theorem d_MBo_isUnder_17 : decode MBo_isUnder.2.2.1 17 = .ok (.iload_n 2, 1) := lkT_ok tk_MBo_isUnder rfl
theorem d_MBo_isUnder_18 : decode MBo_isUnder.2.2.1 18 = .ok (.iload_n 1, 1) := lkT_ok tk_MBo_isUnder rfl
theorem d_MBo_isUnder_19 : decode MBo_isUnder.2.2.1 19 = .ok (.if_icmp .eq 14, 3) := lkT_ok tk_MBo_isUnder rfl
theorem d_MBo_isUnder_22 : decode MBo_isUnder.2.2.1 22 = .ok (.iload_n 2, 1) := lkT_ok tk_MBo_isUnder rfl
theorem d_MBo_isUnder_23 : decode MBo_isUnder.2.2.1 23 = .ok (.invokestatic 25, 3) := lkT_ok tk_MBo_isUnder rfl
theorem d_MBo_isUnder_26 : decode MBo_isUnder.2.2.1 26 = .ok (.istore_n 2, 1) := lkT_ok tk_MBo_isUnder rfl
theorem d_MBo_isUnder_27 : decode MBo_isUnder.2.2.1 27 = .ok (.iinc 3 1, 3) := lkT_ok tk_MBo_isUnder rfl
theorem d_MBo_isUnder_30 : decode MBo_isUnder.2.2.1 30 = .ok (.goto (-26), 3) := lkT_ok tk_MBo_isUnder rfl
theorem d_MBo_isUnder_33 : decode MBo_isUnder.2.2.1 33 = .ok (.iload_n 2, 1) := lkT_ok tk_MBo_isUnder rfl
theorem d_MBo_isUnder_34 : decode MBo_isUnder.2.2.1 34 = .ok (.iload_n 1, 1) := lkT_ok tk_MBo_isUnder rfl
theorem d_MBo_isUnder_35 : decode MBo_isUnder.2.2.1 35 = .ok (.if_icmp .ne 12, 3) := lkT_ok tk_MBo_isUnder rfl
theorem d_MBo_isUnder_38 : decode MBo_isUnder.2.2.1 38 = .ok (.iload_n 0, 1) := lkT_ok tk_MBo_isUnder rfl
theorem d_MBo_isUnder_39 : decode MBo_isUnder.2.2.1 39 = .ok (.iconst (-1), 1) := lkT_ok tk_MBo_isUnder rfl
theorem d_MBo_isUnder_40 : decode MBo_isUnder.2.2.1 40 = .ok (.if_icmp .eq 7, 3) := lkT_ok tk_MBo_isUnder rfl
theorem d_MBo_isUnder_43 : decode MBo_isUnder.2.2.1 43 = .ok (.iconst 1, 1) := lkT_ok tk_MBo_isUnder rfl
theorem d_MBo_isUnder_44 : decode MBo_isUnder.2.2.1 44 = .ok (.goto 4, 3) := lkT_ok tk_MBo_isUnder rfl
theorem d_MBo_isUnder_47 : decode MBo_isUnder.2.2.1 47 = .ok (.iconst 0, 1) := lkT_ok tk_MBo_isUnder rfl
theorem d_MBo_isUnder_48 : decode MBo_isUnder.2.2.1 48 = .ok (.ireturn, 1) := lkT_ok tk_MBo_isUnder rfl
theorem r_MBo_isUnder_0 {l1 l2 l3 : Value} {x : Int32} : Rr X d MBo_isUnder 0 [.int x, l1, l2, l3] st h = Rr X d MBo_isUnder 1 [.int x, l1, l2, l3] (.int x :: st) h := Rr_nx d_MBo_isUnder_0 rfl
theorem r_MBo_isUnder_1 {l0 l1 l2 l3 : Value} {x : Int32} : Rr X d MBo_isUnder 1 [l0, l1, l2, l3] (.int x :: st) h = Rr X d MBo_isUnder 2 (sL [l0, l1, l2, l3] 2 (.int x)) st h := Rr_nx d_MBo_isUnder_1 rfl
theorem r_MBo_isUnder_2 : Rr X d MBo_isUnder 2 L st h = Rr X d MBo_isUnder 3 L (.int (0) :: st) h := Rr_nx d_MBo_isUnder_2 rfl
theorem r_MBo_isUnder_3 {l0 l1 l2 l3 : Value} {x : Int32} : Rr X d MBo_isUnder 3 [l0, l1, l2, l3] (.int x :: st) h = Rr X d MBo_isUnder 4 (sL [l0, l1, l2, l3] 3 (.int x)) st h := Rr_nx d_MBo_isUnder_3 rfl
theorem r_MBo_isUnder_4 {l0 l1 l2 : Value} {x : Int32} : Rr X d MBo_isUnder 4 [l0, l1, l2, .int x] st h = Rr X d MBo_isUnder 5 [l0, l1, l2, .int x] (.int x :: st) h := Rr_nx d_MBo_isUnder_4 rfl
theorem r_MBo_isUnder_5 : Rr X d MBo_isUnder 5 L st h = Rr X d MBo_isUnder 8 L (.float 1 :: st) h := Rr_nx d_MBo_isUnder_5 rfl
theorem r_MBo_isUnder_8 {a : Nat} (hq : (qL a).isSome = true) : Rr X d MBo_isUnder 8 L (.ref a :: st) (Wd mu la ro et) = Rr X d MBo_isUnder 9 L (.int (Int32.ofNat (qLd a)) :: st) (Wd mu la ro et) := R_lenW d_MBo_isUnder_8 hq
theorem r_MBo_isUnder_8a (hx : X 1 = some (8, fun j => abL.getD j 0)) : Rr X d MBo_isUnder 8 L (.float 1 :: st) h = Rr X d MBo_isUnder 9 L (.int (Int32.ofNat 8) :: st) h := R_lenX d_MBo_isUnder_8 hx
theorem r_MBo_isUnder_8o (hx : X 2 = some (32, fun j => owL.getD j 0)) : Rr X d MBo_isUnder 8 L (.float 2 :: st) h = Rr X d MBo_isUnder 9 L (.int (Int32.ofNat 32) :: st) h := R_lenX d_MBo_isUnder_8 hx
theorem r_MBo_isUnder_9 {x y : Int32} : Rr X d MBo_isUnder 9 L (.int y :: .int x :: st) h = if y ≤ x then Rr X d MBo_isUnder 33 L st h else Rr X d MBo_isUnder 12 L st h := R_ic_ge d_MBo_isUnder_9 (by decide)
theorem r_MBo_isUnder_12 {l0 l1 l3 : Value} {x : Int32} : Rr X d MBo_isUnder 12 [l0, l1, .int x, l3] st h = Rr X d MBo_isUnder 13 [l0, l1, .int x, l3] (.int x :: st) h := Rr_nx d_MBo_isUnder_12 rfl
theorem r_MBo_isUnder_13 : Rr X d MBo_isUnder 13 L st h = Rr X d MBo_isUnder 14 L (.int (-1) :: st) h := Rr_nx d_MBo_isUnder_13 rfl
theorem r_MBo_isUnder_14 {x y : Int32} : Rr X d MBo_isUnder 14 L (.int y :: .int x :: st) h = if x = y then Rr X d MBo_isUnder 33 L st h else Rr X d MBo_isUnder 17 L st h := R_ic_eq d_MBo_isUnder_14 (by decide)
theorem r_MBo_isUnder_17 {l0 l1 l3 : Value} {x : Int32} : Rr X d MBo_isUnder 17 [l0, l1, .int x, l3] st h = Rr X d MBo_isUnder 18 [l0, l1, .int x, l3] (.int x :: st) h := Rr_nx d_MBo_isUnder_17 rfl
theorem r_MBo_isUnder_18 {l0 l2 l3 : Value} {x : Int32} : Rr X d MBo_isUnder 18 [l0, .int x, l2, l3] st h = Rr X d MBo_isUnder 19 [l0, .int x, l2, l3] (.int x :: st) h := Rr_nx d_MBo_isUnder_18 rfl
theorem r_MBo_isUnder_19 {x y : Int32} : Rr X d MBo_isUnder 19 L (.int y :: .int x :: st) h = if x = y then Rr X d MBo_isUnder 33 L st h else Rr X d MBo_isUnder 22 L st h := R_ic_eq d_MBo_isUnder_19 (by decide)
theorem r_MBo_isUnder_22 {l0 l1 l3 : Value} {x : Int32} : Rr X d MBo_isUnder 22 [l0, l1, .int x, l3] st h = Rr X d MBo_isUnder 23 [l0, l1, .int x, l3] (.int x :: st) h := Rr_nx d_MBo_isUnder_22 rfl
theorem r_MBo_isUnder_23 {y0 : Int32} (hc : ckS st = true) : Rr X (d + 1) MBo_isUnder 23 L (.int y0 :: st) h = (Rr X d MBo_above 0 [.int y0] [] h).bind fun q => Rr X (d + 1) MBo_isUnder 26 L (psh q.1 st) q.2 := R_is (av := [.int y0]) d_MBo_isUnder_23 (Or.inl fc_0_25) (ckS_le hc) rfl (Nat.le_of_ble_eq_true rfl) (Nat.le_of_ble_eq_true rfl)
theorem r_MBo_isUnder_26 {l0 l1 l2 l3 : Value} {x : Int32} : Rr X d MBo_isUnder 26 [l0, l1, l2, l3] (.int x :: st) h = Rr X d MBo_isUnder 27 (sL [l0, l1, l2, l3] 2 (.int x)) st h := Rr_nx d_MBo_isUnder_26 rfl
theorem r_MBo_isUnder_27 {l0 l1 l2 : Value} {x : Int32} : Rr X d MBo_isUnder 27 [l0, l1, l2, .int x] st h = Rr X d MBo_isUnder 30 (sL [l0, l1, l2, .int x] 3 (.int (x + (1)))) st h := Rr_nx d_MBo_isUnder_27 rfl
theorem r_MBo_isUnder_30 : Rr X d MBo_isUnder 30 L st h = Rr X d MBo_isUnder 4 L st h := R_goto d_MBo_isUnder_30 (by decide)
theorem r_MBo_isUnder_33 {l0 l1 l3 : Value} {x : Int32} : Rr X d MBo_isUnder 33 [l0, l1, .int x, l3] st h = Rr X d MBo_isUnder 34 [l0, l1, .int x, l3] (.int x :: st) h := Rr_nx d_MBo_isUnder_33 rfl
theorem r_MBo_isUnder_34 {l0 l2 l3 : Value} {x : Int32} : Rr X d MBo_isUnder 34 [l0, .int x, l2, l3] st h = Rr X d MBo_isUnder 35 [l0, .int x, l2, l3] (.int x :: st) h := Rr_nx d_MBo_isUnder_34 rfl
theorem r_MBo_isUnder_35 {x y : Int32} : Rr X d MBo_isUnder 35 L (.int y :: .int x :: st) h = if ¬ x = y then Rr X d MBo_isUnder 47 L st h else Rr X d MBo_isUnder 38 L st h := R_ic_ne d_MBo_isUnder_35 (by decide)
theorem r_MBo_isUnder_38 {l1 l2 l3 : Value} {x : Int32} : Rr X d MBo_isUnder 38 [.int x, l1, l2, l3] st h = Rr X d MBo_isUnder 39 [.int x, l1, l2, l3] (.int x :: st) h := Rr_nx d_MBo_isUnder_38 rfl
theorem r_MBo_isUnder_39 : Rr X d MBo_isUnder 39 L st h = Rr X d MBo_isUnder 40 L (.int (-1) :: st) h := Rr_nx d_MBo_isUnder_39 rfl
theorem r_MBo_isUnder_40 {x y : Int32} : Rr X d MBo_isUnder 40 L (.int y :: .int x :: st) h = if x = y then Rr X d MBo_isUnder 47 L st h else Rr X d MBo_isUnder 43 L st h := R_ic_eq d_MBo_isUnder_40 (by decide)
theorem r_MBo_isUnder_43 : Rr X d MBo_isUnder 43 L st h = Rr X d MBo_isUnder 44 L (.int (1) :: st) h := Rr_nx d_MBo_isUnder_43 rfl
theorem r_MBo_isUnder_44 : Rr X d MBo_isUnder 44 L st h = Rr X d MBo_isUnder 48 L st h := R_goto d_MBo_isUnder_44 (by decide)
theorem r_MBo_isUnder_47 : Rr X d MBo_isUnder 47 L st h = Rr X d MBo_isUnder 48 L (.int (0) :: st) h := Rr_nx d_MBo_isUnder_47 rfl
theorem r_MBo_isUnder_48 {x : Int32} : Rr X d MBo_isUnder 48 L [.int x] h = if x = 0 ∨ x = 1 then some (some (.int x), h) else none := R_zr d_MBo_isUnder_48 rfl
theorem d_MTo_taken_0 : decode MTo_taken.2.2.1 0 = .ok (.aload_n 0, 1) := lkT_ok tk_MTo_taken rfl
theorem d_MTo_taken_1 : decode MTo_taken.2.2.1 1 = .ok (.iload_n 1, 1) := lkT_ok tk_MTo_taken rfl
theorem d_MTo_taken_2 : decode MTo_taken.2.2.1 2 = .ok (.invokevirtual 212, 3) := lkT_ok tk_MTo_taken rfl
theorem d_MTo_taken_5 : decode MTo_taken.2.2.1 5 = .ok (.astore_n 3, 1) := lkT_ok tk_MTo_taken rfl
theorem d_MTo_taken_6 : decode MTo_taken.2.2.1 6 = .ok (.aload_n 3, 1) := lkT_ok tk_MTo_taken rfl
theorem d_MTo_taken_7 : decode MTo_taken.2.2.1 7 = .ok (.ifnull 13, 3) := lkT_ok tk_MTo_taken rfl
theorem d_MTo_taken_10 : decode MTo_taken.2.2.1 10 = .ok (.iload_n 2, 1) := lkT_ok tk_MTo_taken rfl
theorem d_MTo_taken_11 : decode MTo_taken.2.2.1 11 = .ok (.iconst 0, 1) := lkT_ok tk_MTo_taken rfl
theorem d_MTo_taken_12 : decode MTo_taken.2.2.1 12 = .ok (.bipush 7, 2) := lkT_ok tk_MTo_taken rfl
theorem d_MTo_taken_14 : decode MTo_taken.2.2.1 14 = .ok (.invokestatic 72, 3) := lkT_ok tk_MTo_taken rfl
theorem d_MTo_taken_17 : decode MTo_taken.2.2.1 17 = .ok (.ifCond .ne 5, 3) := lkT_ok tk_MTo_taken rfl
theorem d_MTo_taken_20 : decode MTo_taken.2.2.1 20 = .ok (.iconst (-1), 1) := lkT_ok tk_MTo_taken rfl
theorem d_MTo_taken_21 : decode MTo_taken.2.2.1 21 = .ok (.ireturn, 1) := lkT_ok tk_MTo_taken rfl
theorem d_MTo_taken_22 : decode MTo_taken.2.2.1 22 = .ok (.aload_n 3, 1) := lkT_ok tk_MTo_taken rfl
theorem d_MTo_taken_23 : decode MTo_taken.2.2.1 23 = .ok (.invokevirtual 216, 3) := lkT_ok tk_MTo_taken rfl
theorem d_MTo_taken_26 : decode MTo_taken.2.2.1 26 = .ok (.ifCond .eq 6, 3) := lkT_ok tk_MTo_taken rfl
theorem d_MTo_taken_29 : decode MTo_taken.2.2.1 29 = .ok (.bipush (-11), 2) := lkT_ok tk_MTo_taken rfl
theorem d_MTo_taken_31 : decode MTo_taken.2.2.1 31 = .ok (.ireturn, 1) := lkT_ok tk_MTo_taken rfl
theorem d_MTo_taken_32 : decode MTo_taken.2.2.1 32 = .ok (.aload_n 0, 1) := lkT_ok tk_MTo_taken rfl
theorem d_MTo_taken_33 : decode MTo_taken.2.2.1 33 = .ok (.getfield 65, 3) := lkT_ok tk_MTo_taken rfl
theorem d_MTo_taken_36 : decode MTo_taken.2.2.1 36 = .ok (.aload_n 3, 1) := lkT_ok tk_MTo_taken rfl
theorem d_MTo_taken_37 : decode MTo_taken.2.2.1 37 = .ok (.getfield 295, 3) := lkT_ok tk_MTo_taken rfl
theorem d_MTo_taken_40 : decode MTo_taken.2.2.1 40 = .ok (.invokevirtual 298, 3) := lkT_ok tk_MTo_taken rfl
theorem d_MTo_taken_43 : decode MTo_taken.2.2.1 43 = .ok (.istore 4, 2) := lkT_ok tk_MTo_taken rfl
theorem d_MTo_taken_45 : decode MTo_taken.2.2.1 45 = .ok (.iload 4, 2) := lkT_ok tk_MTo_taken rfl
theorem d_MTo_taken_47 : decode MTo_taken.2.2.1 47 = .ok (.iload_n 2, 1) := lkT_ok tk_MTo_taken rfl
theorem d_MTo_taken_48 : decode MTo_taken.2.2.1 48 = .ok (.invokestatic 301, 3) := lkT_ok tk_MTo_taken rfl
theorem d_MTo_taken_51 : decode MTo_taken.2.2.1 51 = .ok (.ifCond .eq 8, 3) := lkT_ok tk_MTo_taken rfl
theorem d_MTo_taken_54 : decode MTo_taken.2.2.1 54 = .ok (.iload 4, 2) := lkT_ok tk_MTo_taken rfl
theorem d_MTo_taken_56 : decode MTo_taken.2.2.1 56 = .ok (.goto 5, 3) := lkT_ok tk_MTo_taken rfl
theorem d_MTo_taken_59 : decode MTo_taken.2.2.1 59 = .ok (.bipush (-12), 2) := lkT_ok tk_MTo_taken rfl
theorem d_MTo_taken_61 : decode MTo_taken.2.2.1 61 = .ok (.ireturn, 1) := lkT_ok tk_MTo_taken rfl
theorem r_MTo_taken_0 {l1 l2 l3 l4 : Value} {x : Nat} : Rr X d MTo_taken 0 [.ref x, l1, l2, l3, l4] st h = Rr X d MTo_taken 1 [.ref x, l1, l2, l3, l4] (.ref x :: st) h := Rr_nx d_MTo_taken_0 rfl
theorem r_MTo_taken_1 {l0 l2 l3 l4 : Value} {x : Int32} : Rr X d MTo_taken 1 [l0, .int x, l2, l3, l4] st h = Rr X d MTo_taken 2 [l0, .int x, l2, l3, l4] (.int x :: st) h := Rr_nx d_MTo_taken_1 rfl
theorem r_MTo_taken_2 {y0 : Int32} {a : Nat} (hO : qO a 9 = true) (hc : ckS st = true) : Rr X (d + 1) MTo_taken 2 L (.int y0 :: .ref a :: st) (Wd mu la ro et) = (Rr X d MTo_shelfAt 0 [.ref a, .int y0] [] (Wd mu la ro et)).bind fun q => Rr X (d + 1) MTo_taken 5 L (psh q.1 st) q.2 := R_iv (av := [.int y0]) d_MTo_taken_2 fc_9_212 hO (ckS_le hc) rfl (Nat.le_of_ble_eq_true rfl) (Nat.le_of_ble_eq_true rfl)
theorem r_MTo_taken_5 {l0 l1 l2 l3 l4 : Value} {x : Nat} : Rr X d MTo_taken 5 [l0, l1, l2, l3, l4] (.ref x :: st) h = Rr X d MTo_taken 6 (sL [l0, l1, l2, l3, l4] 3 (.ref x)) st h := Rr_nx d_MTo_taken_5 rfl
theorem r_MTo_taken_5n {l0 l1 l2 l3 l4 : Value} : Rr X d MTo_taken 5 [l0, l1, l2, l3, l4] (.null :: st) h = Rr X d MTo_taken 6 (sL [l0, l1, l2, l3, l4] 3 .null) st h := Rr_nx d_MTo_taken_5 rfl
theorem r_MTo_taken_6 {l0 l1 l2 l4 : Value} {x : Nat} : Rr X d MTo_taken 6 [l0, l1, l2, .ref x, l4] st h = Rr X d MTo_taken 7 [l0, l1, l2, .ref x, l4] (.ref x :: st) h := Rr_nx d_MTo_taken_6 rfl
theorem r_MTo_taken_6n {l0 l1 l2 l4 : Value} : Rr X d MTo_taken 6 [l0, l1, l2, .null, l4] st h = Rr X d MTo_taken 7 [l0, l1, l2, .null, l4] (.null :: st) h := Rr_nx d_MTo_taken_6 rfl
theorem r_MTo_taken_7 {x : Nat} : Rr X d MTo_taken 7 L (.ref x :: st) h = Rr X d MTo_taken 10 L st h := R_nul1 d_MTo_taken_7
theorem r_MTo_taken_7n : Rr X d MTo_taken 7 L (.null :: st) h = Rr X d MTo_taken 20 L st h := R_nul0 d_MTo_taken_7 (by decide)
theorem r_MTo_taken_10 {l0 l1 l3 l4 : Value} {x : Int32} : Rr X d MTo_taken 10 [l0, l1, .int x, l3, l4] st h = Rr X d MTo_taken 11 [l0, l1, .int x, l3, l4] (.int x :: st) h := Rr_nx d_MTo_taken_10 rfl
theorem r_MTo_taken_11 : Rr X d MTo_taken 11 L st h = Rr X d MTo_taken 12 L (.int (0) :: st) h := Rr_nx d_MTo_taken_11 rfl
theorem r_MTo_taken_12 : Rr X d MTo_taken 12 L st h = Rr X d MTo_taken 14 L (.int (7) :: st) h := Rr_nx d_MTo_taken_12 rfl
theorem r_MTo_taken_14 {y0 : Int32} {y1 : Int32} {y2 : Int32} (hc : ckS st = true) : Rr X (d + 1) MTo_taken 14 L (.int y2 :: .int y1 :: .int y0 :: st) h = (Rr X d MTo_isWithin 0 [.int y0, .int y1, .int y2] [] h).bind fun q => Rr X (d + 1) MTo_taken 17 L (psh q.1 st) q.2 := R_is (av := [.int y2, .int y1, .int y0]) d_MTo_taken_14 (Or.inl fc_9_72) (ckS_le hc) rfl (Nat.le_of_ble_eq_true rfl) (Nat.le_of_ble_eq_true rfl)
theorem r_MTo_taken_17 {x : Int32} : Rr X d MTo_taken 17 L (.int x :: st) h = if ¬ x = 0 then Rr X d MTo_taken 22 L st h else Rr X d MTo_taken 20 L st h := R_if_ne d_MTo_taken_17 (by decide)
theorem r_MTo_taken_20 : Rr X d MTo_taken 20 L st h = Rr X d MTo_taken 21 L (.int (-1) :: st) h := Rr_nx d_MTo_taken_20 rfl
theorem r_MTo_taken_21 {x : Int32} : Rr X d MTo_taken 21 L [.int x] h = some (some (.int x), h) := R_ir d_MTo_taken_21 rfl
theorem r_MTo_taken_22 {l0 l1 l2 l4 : Value} {x : Nat} : Rr X d MTo_taken 22 [l0, l1, l2, .ref x, l4] st h = Rr X d MTo_taken 23 [l0, l1, l2, .ref x, l4] (.ref x :: st) h := Rr_nx d_MTo_taken_22 rfl
theorem r_MTo_taken_22n {l0 l1 l2 l4 : Value} : Rr X d MTo_taken 22 [l0, l1, l2, .null, l4] st h = Rr X d MTo_taken 23 [l0, l1, l2, .null, l4] (.null :: st) h := Rr_nx d_MTo_taken_22 rfl
theorem r_MTo_taken_23 {a : Nat} (hO : qO a 6 = true) (hc : ckS st = true) : Rr X (d + 1) MTo_taken 23 L (.ref a :: st) (Wd mu la ro et) = (Rr X d MSh_isEmpty 0 [.ref a] [] (Wd mu la ro et)).bind fun q => Rr X (d + 1) MTo_taken 26 L (psh q.1 st) q.2 := R_iv (av := []) d_MTo_taken_23 fc_9_216 hO (ckS_le hc) rfl (Nat.le_of_ble_eq_true rfl) (Nat.le_of_ble_eq_true rfl)
theorem r_MTo_taken_26 {x : Int32} : Rr X d MTo_taken 26 L (.int x :: st) h = if x = 0 then Rr X d MTo_taken 32 L st h else Rr X d MTo_taken 29 L st h := R_if_eq d_MTo_taken_26 (by decide)
theorem r_MTo_taken_29 : Rr X d MTo_taken 29 L st h = Rr X d MTo_taken 31 L (.int (-11) :: st) h := Rr_nx d_MTo_taken_29 rfl
theorem r_MTo_taken_31 {x : Int32} : Rr X d MTo_taken 31 L [.int x] h = some (some (.int x), h) := R_ir d_MTo_taken_31 rfl
theorem r_MTo_taken_32 {l1 l2 l3 l4 : Value} {x : Nat} : Rr X d MTo_taken 32 [.ref x, l1, l2, l3, l4] st h = Rr X d MTo_taken 33 [.ref x, l1, l2, l3, l4] (.ref x :: st) h := Rr_nx d_MTo_taken_32 rfl
theorem r_MTo_taken_33 {a : Nat} (hq : (qR a 9 8).isSome = true) : Rr X d MTo_taken 33 L (.ref a :: st) (Wd mu la ro et) = Rr X d MTo_taken 36 L (.ref (qRd a 9 8) :: st) (Wd mu la ro et) := R_gfR d_MTo_taken_33 ff_9_65 hq
theorem r_MTo_taken_36 {l0 l1 l2 l4 : Value} {x : Nat} : Rr X d MTo_taken 36 [l0, l1, l2, .ref x, l4] st h = Rr X d MTo_taken 37 [l0, l1, l2, .ref x, l4] (.ref x :: st) h := Rr_nx d_MTo_taken_36 rfl
theorem r_MTo_taken_36n {l0 l1 l2 l4 : Value} : Rr X d MTo_taken 36 [l0, l1, l2, .null, l4] st h = Rr X d MTo_taken 37 [l0, l1, l2, .null, l4] (.null :: st) h := Rr_nx d_MTo_taken_36 rfl
theorem ff_9_295 : fF 9 295 = some (6, 1, 0, 0) := rfl
theorem r_MTo_taken_37 {a : Nat} (hq : qI a 6 1 = true) : Rr X d MTo_taken 37 L (.ref a :: st) (Wd mu la ro et) = Rr X d MTo_taken 40 L (.int (mu a 1) :: st) (Wd mu la ro et) := R_gfI d_MTo_taken_37 ff_9_295 hq
theorem fc_9_298 : fC 9 298 = some (0, 0, 1, MBo_kindOf) := rfl
theorem r_MTo_taken_40 {y0 : Int32} {a : Nat} (hO : qO a 0 = true) (hc : ckS st = true) : Rr X (d + 1) MTo_taken 40 L (.int y0 :: .ref a :: st) (Wd mu la ro et) = (Rr X d MBo_kindOf 0 [.ref a, .int y0] [] (Wd mu la ro et)).bind fun q => Rr X (d + 1) MTo_taken 43 L (psh q.1 st) q.2 := R_iv (av := [.int y0]) d_MTo_taken_40 fc_9_298 hO (ckS_le hc) rfl (Nat.le_of_ble_eq_true rfl) (Nat.le_of_ble_eq_true rfl)
theorem r_MTo_taken_43 {l0 l1 l2 l3 l4 : Value} {x : Int32} : Rr X d MTo_taken 43 [l0, l1, l2, l3, l4] (.int x :: st) h = Rr X d MTo_taken 45 (sL [l0, l1, l2, l3, l4] 4 (.int x)) st h := Rr_nx d_MTo_taken_43 rfl
theorem r_MTo_taken_45 {l0 l1 l2 l3 : Value} {x : Int32} : Rr X d MTo_taken 45 [l0, l1, l2, l3, .int x] st h = Rr X d MTo_taken 47 [l0, l1, l2, l3, .int x] (.int x :: st) h := Rr_nx d_MTo_taken_45 rfl
theorem r_MTo_taken_47 {l0 l1 l3 l4 : Value} {x : Int32} : Rr X d MTo_taken 47 [l0, l1, .int x, l3, l4] st h = Rr X d MTo_taken 48 [l0, l1, .int x, l3, l4] (.int x :: st) h := Rr_nx d_MTo_taken_47 rfl
theorem fc_9_301 : fC 9 301 = some (1, 0, 2, MBo_isUnder) := rfl
theorem r_MTo_taken_48 {y0 : Int32} {y1 : Int32} (hc : ckS st = true) : Rr X (d + 1) MTo_taken 48 L (.int y1 :: .int y0 :: st) h = (Rr X d MBo_isUnder 0 [.int y0, .int y1, mkU, mkU] [] h).bind fun q => Rr X (d + 1) MTo_taken 51 L (psh q.1 st) q.2 := R_is (av := [.int y1, .int y0]) d_MTo_taken_48 (Or.inl fc_9_301) (ckS_le hc) rfl (Nat.le_of_ble_eq_true rfl) (Nat.le_of_ble_eq_true rfl)
theorem r_MTo_taken_51 {x : Int32} : Rr X d MTo_taken 51 L (.int x :: st) h = if x = 0 then Rr X d MTo_taken 59 L st h else Rr X d MTo_taken 54 L st h := R_if_eq d_MTo_taken_51 (by decide)
theorem r_MTo_taken_54 {l0 l1 l2 l3 : Value} {x : Int32} : Rr X d MTo_taken 54 [l0, l1, l2, l3, .int x] st h = Rr X d MTo_taken 56 [l0, l1, l2, l3, .int x] (.int x :: st) h := Rr_nx d_MTo_taken_54 rfl
theorem r_MTo_taken_56 : Rr X d MTo_taken 56 L st h = Rr X d MTo_taken 61 L st h := R_goto d_MTo_taken_56 (by decide)
theorem r_MTo_taken_59 : Rr X d MTo_taken 59 L st h = Rr X d MTo_taken 61 L (.int (-12) :: st) h := Rr_nx d_MTo_taken_59 rfl
theorem r_MTo_taken_61 {x : Int32} : Rr X d MTo_taken 61 L [.int x] h = some (some (.int x), h) := R_ir d_MTo_taken_61 rfl
theorem d_MRm_taken_0 : decode MRm_taken.2.2.1 0 = .ok (.iload_n 1, 1) := lkT_ok tk_MRm_taken rfl
theorem d_MRm_taken_1 : decode MRm_taken.2.2.1 1 = .ok (.invokestatic 348, 3) := lkT_ok tk_MRm_taken rfl
theorem d_MRm_taken_4 : decode MRm_taken.2.2.1 4 = .ok (.ifCond .eq 13, 3) := lkT_ok tk_MRm_taken rfl
theorem d_MRm_taken_7 : decode MRm_taken.2.2.1 7 = .ok (.iload_n 2, 1) := lkT_ok tk_MRm_taken rfl
theorem d_MRm_taken_8 : decode MRm_taken.2.2.1 8 = .ok (.iconst 0, 1) := lkT_ok tk_MRm_taken rfl
theorem d_MRm_taken_9 : decode MRm_taken.2.2.1 9 = .ok (.bipush 7, 2) := lkT_ok tk_MRm_taken rfl
theorem d_MRm_taken_11 : decode MRm_taken.2.2.1 11 = .ok (.invokestatic 107, 3) := lkT_ok tk_MRm_taken rfl
theorem d_MRm_taken_14 : decode MRm_taken.2.2.1 14 = .ok (.ifCond .ne 5, 3) := lkT_ok tk_MRm_taken rfl
theorem d_MRm_taken_17 : decode MRm_taken.2.2.1 17 = .ok (.iconst (-1), 1) := lkT_ok tk_MRm_taken rfl
theorem d_MRm_taken_18 : decode MRm_taken.2.2.1 18 = .ok (.ireturn, 1) := lkT_ok tk_MRm_taken rfl
theorem d_MRm_taken_19 : decode MRm_taken.2.2.1 19 = .ok (.aload_n 0, 1) := lkT_ok tk_MRm_taken rfl
theorem d_MRm_taken_20 : decode MRm_taken.2.2.1 20 = .ok (.getfield 92, 3) := lkT_ok tk_MRm_taken rfl
theorem d_MRm_taken_23 : decode MRm_taken.2.2.1 23 = .ok (.iload_n 1, 1) := lkT_ok tk_MRm_taken rfl
theorem d_MRm_taken_24 : decode MRm_taken.2.2.1 24 = .ok (.iaload, 1) := lkT_ok tk_MRm_taken rfl
theorem d_MRm_taken_25 : decode MRm_taken.2.2.1 25 = .ok (.iconst (-1), 1) := lkT_ok tk_MRm_taken rfl
theorem d_MRm_taken_26 : decode MRm_taken.2.2.1 26 = .ok (.if_icmp .ne 6, 3) := lkT_ok tk_MRm_taken rfl
theorem d_MRm_taken_29 : decode MRm_taken.2.2.1 29 = .ok (.bipush (-11), 2) := lkT_ok tk_MRm_taken rfl
theorem d_MRm_taken_31 : decode MRm_taken.2.2.1 31 = .ok (.ireturn, 1) := lkT_ok tk_MRm_taken rfl
theorem d_MRm_taken_32 : decode MRm_taken.2.2.1 32 = .ok (.aload_n 0, 1) := lkT_ok tk_MRm_taken rfl
theorem d_MRm_taken_33 : decode MRm_taken.2.2.1 33 = .ok (.getfield 92, 3) := lkT_ok tk_MRm_taken rfl
theorem d_MRm_taken_36 : decode MRm_taken.2.2.1 36 = .ok (.iload_n 1, 1) := lkT_ok tk_MRm_taken rfl
theorem d_MRm_taken_37 : decode MRm_taken.2.2.1 37 = .ok (.iaload, 1) := lkT_ok tk_MRm_taken rfl
theorem d_MRm_taken_38 : decode MRm_taken.2.2.1 38 = .ok (.ifCond .lt 35, 3) := lkT_ok tk_MRm_taken rfl
theorem d_MRm_taken_41 : decode MRm_taken.2.2.1 41 = .ok (.aload_n 0, 1) := lkT_ok tk_MRm_taken rfl
theorem d_MRm_taken_42 : decode MRm_taken.2.2.1 42 = .ok (.getfield 86, 3) := lkT_ok tk_MRm_taken rfl
theorem d_MRm_taken_45 : decode MRm_taken.2.2.1 45 = .ok (.aload_n 0, 1) := lkT_ok tk_MRm_taken rfl
theorem d_MRm_taken_46 : decode MRm_taken.2.2.1 46 = .ok (.getfield 92, 3) := lkT_ok tk_MRm_taken rfl
theorem d_MRm_taken_49 : decode MRm_taken.2.2.1 49 = .ok (.iload_n 1, 1) := lkT_ok tk_MRm_taken rfl
theorem d_MRm_taken_50 : decode MRm_taken.2.2.1 50 = .ok (.iaload, 1) := lkT_ok tk_MRm_taken rfl
theorem d_MRm_taken_51 : decode MRm_taken.2.2.1 51 = .ok (.iaload, 1) := lkT_ok tk_MRm_taken rfl
theorem d_MRm_taken_52 : decode MRm_taken.2.2.1 52 = .ok (.iload_n 2, 1) := lkT_ok tk_MRm_taken rfl
theorem d_MRm_taken_53 : decode MRm_taken.2.2.1 53 = .ok (.invokestatic 386, 3) := lkT_ok tk_MRm_taken rfl
theorem d_MRm_taken_56 : decode MRm_taken.2.2.1 56 = .ok (.ifCond .eq 17, 3) := lkT_ok tk_MRm_taken rfl
theorem d_MRm_taken_59 : decode MRm_taken.2.2.1 59 = .ok (.aload_n 0, 1) := lkT_ok tk_MRm_taken rfl
theorem d_MRm_taken_60 : decode MRm_taken.2.2.1 60 = .ok (.getfield 86, 3) := lkT_ok tk_MRm_taken rfl
theorem d_MRm_taken_63 : decode MRm_taken.2.2.1 63 = .ok (.aload_n 0, 1) := lkT_ok tk_MRm_taken rfl
theorem d_MRm_taken_64 : decode MRm_taken.2.2.1 64 = .ok (.getfield 92, 3) := lkT_ok tk_MRm_taken rfl
theorem d_MRm_taken_67 : decode MRm_taken.2.2.1 67 = .ok (.iload_n 1, 1) := lkT_ok tk_MRm_taken rfl
theorem d_MRm_taken_68 : decode MRm_taken.2.2.1 68 = .ok (.iaload, 1) := lkT_ok tk_MRm_taken rfl
theorem d_MRm_taken_69 : decode MRm_taken.2.2.1 69 = .ok (.iaload, 1) := lkT_ok tk_MRm_taken rfl
theorem d_MRm_taken_70 : decode MRm_taken.2.2.1 70 = .ok (.goto 5, 3) := lkT_ok tk_MRm_taken rfl
theorem d_MRm_taken_73 : decode MRm_taken.2.2.1 73 = .ok (.bipush (-12), 2) := lkT_ok tk_MRm_taken rfl
theorem d_MRm_taken_75 : decode MRm_taken.2.2.1 75 = .ok (.ireturn, 1) := lkT_ok tk_MRm_taken rfl
theorem r_MRm_taken_0 {l0 l2 : Value} {x : Int32} : Rr X d MRm_taken 0 [l0, .int x, l2] st h = Rr X d MRm_taken 1 [l0, .int x, l2] (.int x :: st) h := Rr_nx d_MRm_taken_0 rfl
theorem r_MRm_taken_1 {y0 : Int32} (hc : ckS st = true) : Rr X (d + 1) MRm_taken 1 L (.int y0 :: st) h = (Rr X d MRm_isShelf 0 [.int y0] [] h).bind fun q => Rr X (d + 1) MRm_taken 4 L (psh q.1 st) q.2 := R_is (av := [.int y0]) d_MRm_taken_1 (Or.inl fc_10_348) (ckS_le hc) rfl (Nat.le_of_ble_eq_true rfl) (Nat.le_of_ble_eq_true rfl)
theorem r_MRm_taken_4 {x : Int32} : Rr X d MRm_taken 4 L (.int x :: st) h = if x = 0 then Rr X d MRm_taken 17 L st h else Rr X d MRm_taken 7 L st h := R_if_eq d_MRm_taken_4 (by decide)
theorem r_MRm_taken_7 {l0 l1 : Value} {x : Int32} : Rr X d MRm_taken 7 [l0, l1, .int x] st h = Rr X d MRm_taken 8 [l0, l1, .int x] (.int x :: st) h := Rr_nx d_MRm_taken_7 rfl
theorem r_MRm_taken_8 : Rr X d MRm_taken 8 L st h = Rr X d MRm_taken 9 L (.int (0) :: st) h := Rr_nx d_MRm_taken_8 rfl
theorem r_MRm_taken_9 : Rr X d MRm_taken 9 L st h = Rr X d MRm_taken 11 L (.int (7) :: st) h := Rr_nx d_MRm_taken_9 rfl
theorem r_MRm_taken_11 {y0 : Int32} {y1 : Int32} {y2 : Int32} (hc : ckS st = true) : Rr X (d + 1) MRm_taken 11 L (.int y2 :: .int y1 :: .int y0 :: st) h = (Rr X d MRm_in 0 [.int y0, .int y1, .int y2] [] h).bind fun q => Rr X (d + 1) MRm_taken 14 L (psh q.1 st) q.2 := R_is (av := [.int y2, .int y1, .int y0]) d_MRm_taken_11 (Or.inl fc_10_107) (ckS_le hc) rfl (Nat.le_of_ble_eq_true rfl) (Nat.le_of_ble_eq_true rfl)
theorem r_MRm_taken_14 {x : Int32} : Rr X d MRm_taken 14 L (.int x :: st) h = if ¬ x = 0 then Rr X d MRm_taken 19 L st h else Rr X d MRm_taken 17 L st h := R_if_ne d_MRm_taken_14 (by decide)
theorem r_MRm_taken_17 : Rr X d MRm_taken 17 L st h = Rr X d MRm_taken 18 L (.int (-1) :: st) h := Rr_nx d_MRm_taken_17 rfl
theorem r_MRm_taken_18 {x : Int32} : Rr X d MRm_taken 18 L [.int x] h = some (some (.int x), h) := R_ir d_MRm_taken_18 rfl
theorem r_MRm_taken_19 {l1 l2 : Value} {x : Nat} : Rr X d MRm_taken 19 [.ref x, l1, l2] st h = Rr X d MRm_taken 20 [.ref x, l1, l2] (.ref x :: st) h := Rr_nx d_MRm_taken_19 rfl
theorem r_MRm_taken_20 {a : Nat} (hq : (qR a 10 55).isSome = true) : Rr X d MRm_taken 20 L (.ref a :: st) (Wd mu la ro et) = Rr X d MRm_taken 23 L (.ref (qRd a 10 55) :: st) (Wd mu la ro et) := R_gfR d_MRm_taken_20 ff_10_92 hq
theorem r_MRm_taken_23 {l0 l2 : Value} {x : Int32} : Rr X d MRm_taken 23 [l0, .int x, l2] st h = Rr X d MRm_taken 24 [l0, .int x, l2] (.int x :: st) h := Rr_nx d_MRm_taken_23 rfl
theorem r_MRm_taken_24 {a : Nat} {j : Int32} (hq : (qA a 0).isSome = true) : Rr X d MRm_taken 24 L (.int j :: .ref a :: st) (Wd mu la ro et) = if j < 0 ∨ qAd a 0 ≤ j.toNatClampNeg then none else Rr X d MRm_taken 25 L (.int (mu a j.toNatClampNeg) :: st) (Wd mu la ro et) := R_ialW d_MRm_taken_24 hq
theorem r_MRm_taken_25 : Rr X d MRm_taken 25 L st h = Rr X d MRm_taken 26 L (.int (-1) :: st) h := Rr_nx d_MRm_taken_25 rfl
theorem r_MRm_taken_26 {x y : Int32} : Rr X d MRm_taken 26 L (.int y :: .int x :: st) h = if ¬ x = y then Rr X d MRm_taken 32 L st h else Rr X d MRm_taken 29 L st h := R_ic_ne d_MRm_taken_26 (by decide)
theorem r_MRm_taken_29 : Rr X d MRm_taken 29 L st h = Rr X d MRm_taken 31 L (.int (-11) :: st) h := Rr_nx d_MRm_taken_29 rfl
theorem r_MRm_taken_31 {x : Int32} : Rr X d MRm_taken 31 L [.int x] h = some (some (.int x), h) := R_ir d_MRm_taken_31 rfl
theorem r_MRm_taken_32 {l1 l2 : Value} {x : Nat} : Rr X d MRm_taken 32 [.ref x, l1, l2] st h = Rr X d MRm_taken 33 [.ref x, l1, l2] (.ref x :: st) h := Rr_nx d_MRm_taken_32 rfl
theorem r_MRm_taken_33 {a : Nat} (hq : (qR a 10 55).isSome = true) : Rr X d MRm_taken 33 L (.ref a :: st) (Wd mu la ro et) = Rr X d MRm_taken 36 L (.ref (qRd a 10 55) :: st) (Wd mu la ro et) := R_gfR d_MRm_taken_33 ff_10_92 hq
theorem r_MRm_taken_36 {l0 l2 : Value} {x : Int32} : Rr X d MRm_taken 36 [l0, .int x, l2] st h = Rr X d MRm_taken 37 [l0, .int x, l2] (.int x :: st) h := Rr_nx d_MRm_taken_36 rfl
theorem r_MRm_taken_37 {a : Nat} {j : Int32} (hq : (qA a 0).isSome = true) : Rr X d MRm_taken 37 L (.int j :: .ref a :: st) (Wd mu la ro et) = if j < 0 ∨ qAd a 0 ≤ j.toNatClampNeg then none else Rr X d MRm_taken 38 L (.int (mu a j.toNatClampNeg) :: st) (Wd mu la ro et) := R_ialW d_MRm_taken_37 hq
theorem r_MRm_taken_38 {x : Int32} : Rr X d MRm_taken 38 L (.int x :: st) h = if x < 0 then Rr X d MRm_taken 73 L st h else Rr X d MRm_taken 41 L st h := R_if_lt d_MRm_taken_38 (by decide)
theorem r_MRm_taken_41 {l1 l2 : Value} {x : Nat} : Rr X d MRm_taken 41 [.ref x, l1, l2] st h = Rr X d MRm_taken 42 [.ref x, l1, l2] (.ref x :: st) h := Rr_nx d_MRm_taken_41 rfl
theorem r_MRm_taken_42 {a : Nat} (hq : (qR a 10 52).isSome = true) : Rr X d MRm_taken 42 L (.ref a :: st) (Wd mu la ro et) = Rr X d MRm_taken 45 L (.ref (qRd a 10 52) :: st) (Wd mu la ro et) := R_gfR d_MRm_taken_42 ff_10_86 hq
theorem r_MRm_taken_45 {l1 l2 : Value} {x : Nat} : Rr X d MRm_taken 45 [.ref x, l1, l2] st h = Rr X d MRm_taken 46 [.ref x, l1, l2] (.ref x :: st) h := Rr_nx d_MRm_taken_45 rfl
theorem r_MRm_taken_46 {a : Nat} (hq : (qR a 10 55).isSome = true) : Rr X d MRm_taken 46 L (.ref a :: st) (Wd mu la ro et) = Rr X d MRm_taken 49 L (.ref (qRd a 10 55) :: st) (Wd mu la ro et) := R_gfR d_MRm_taken_46 ff_10_92 hq
theorem r_MRm_taken_49 {l0 l2 : Value} {x : Int32} : Rr X d MRm_taken 49 [l0, .int x, l2] st h = Rr X d MRm_taken 50 [l0, .int x, l2] (.int x :: st) h := Rr_nx d_MRm_taken_49 rfl
theorem r_MRm_taken_50 {a : Nat} {j : Int32} (hq : (qA a 0).isSome = true) : Rr X d MRm_taken 50 L (.int j :: .ref a :: st) (Wd mu la ro et) = if j < 0 ∨ qAd a 0 ≤ j.toNatClampNeg then none else Rr X d MRm_taken 51 L (.int (mu a j.toNatClampNeg) :: st) (Wd mu la ro et) := R_ialW d_MRm_taken_50 hq
theorem r_MRm_taken_51 {a : Nat} {j : Int32} (hq : (qA a 0).isSome = true) : Rr X d MRm_taken 51 L (.int j :: .ref a :: st) (Wd mu la ro et) = if j < 0 ∨ qAd a 0 ≤ j.toNatClampNeg then none else Rr X d MRm_taken 52 L (.int (mu a j.toNatClampNeg) :: st) (Wd mu la ro et) := R_ialW d_MRm_taken_51 hq
theorem r_MRm_taken_52 {l0 l1 : Value} {x : Int32} : Rr X d MRm_taken 52 [l0, l1, .int x] st h = Rr X d MRm_taken 53 [l0, l1, .int x] (.int x :: st) h := Rr_nx d_MRm_taken_52 rfl
theorem r_MRm_taken_53 {y0 : Int32} {y1 : Int32} (hc : ckS st = true) : Rr X (d + 1) MRm_taken 53 L (.int y1 :: .int y0 :: st) h = (Rr X d MRm_isUnder 0 [.int y0, .int y1] [] h).bind fun q => Rr X (d + 1) MRm_taken 56 L (psh q.1 st) q.2 := R_is (av := [.int y1, .int y0]) d_MRm_taken_53 (Or.inl fc_10_386) (ckS_le hc) rfl (Nat.le_of_ble_eq_true rfl) (Nat.le_of_ble_eq_true rfl)
theorem r_MRm_taken_56 {x : Int32} : Rr X d MRm_taken 56 L (.int x :: st) h = if x = 0 then Rr X d MRm_taken 73 L st h else Rr X d MRm_taken 59 L st h := R_if_eq d_MRm_taken_56 (by decide)
theorem r_MRm_taken_59 {l1 l2 : Value} {x : Nat} : Rr X d MRm_taken 59 [.ref x, l1, l2] st h = Rr X d MRm_taken 60 [.ref x, l1, l2] (.ref x :: st) h := Rr_nx d_MRm_taken_59 rfl
theorem r_MRm_taken_60 {a : Nat} (hq : (qR a 10 52).isSome = true) : Rr X d MRm_taken 60 L (.ref a :: st) (Wd mu la ro et) = Rr X d MRm_taken 63 L (.ref (qRd a 10 52) :: st) (Wd mu la ro et) := R_gfR d_MRm_taken_60 ff_10_86 hq
theorem r_MRm_taken_63 {l1 l2 : Value} {x : Nat} : Rr X d MRm_taken 63 [.ref x, l1, l2] st h = Rr X d MRm_taken 64 [.ref x, l1, l2] (.ref x :: st) h := Rr_nx d_MRm_taken_63 rfl
theorem r_MRm_taken_64 {a : Nat} (hq : (qR a 10 55).isSome = true) : Rr X d MRm_taken 64 L (.ref a :: st) (Wd mu la ro et) = Rr X d MRm_taken 67 L (.ref (qRd a 10 55) :: st) (Wd mu la ro et) := R_gfR d_MRm_taken_64 ff_10_92 hq
theorem r_MRm_taken_67 {l0 l2 : Value} {x : Int32} : Rr X d MRm_taken 67 [l0, .int x, l2] st h = Rr X d MRm_taken 68 [l0, .int x, l2] (.int x :: st) h := Rr_nx d_MRm_taken_67 rfl
theorem r_MRm_taken_68 {a : Nat} {j : Int32} (hq : (qA a 0).isSome = true) : Rr X d MRm_taken 68 L (.int j :: .ref a :: st) (Wd mu la ro et) = if j < 0 ∨ qAd a 0 ≤ j.toNatClampNeg then none else Rr X d MRm_taken 69 L (.int (mu a j.toNatClampNeg) :: st) (Wd mu la ro et) := R_ialW d_MRm_taken_68 hq
theorem r_MRm_taken_69 {a : Nat} {j : Int32} (hq : (qA a 0).isSome = true) : Rr X d MRm_taken 69 L (.int j :: .ref a :: st) (Wd mu la ro et) = if j < 0 ∨ qAd a 0 ≤ j.toNatClampNeg then none else Rr X d MRm_taken 70 L (.int (mu a j.toNatClampNeg) :: st) (Wd mu la ro et) := R_ialW d_MRm_taken_69 hq
theorem r_MRm_taken_70 : Rr X d MRm_taken 70 L st h = Rr X d MRm_taken 75 L st h := R_goto d_MRm_taken_70 (by decide)
theorem r_MRm_taken_73 : Rr X d MRm_taken 73 L st h = Rr X d MRm_taken 75 L (.int (-12) :: st) h := Rr_nx d_MRm_taken_73 rfl
theorem r_MRm_taken_75 {x : Int32} : Rr X d MRm_taken 75 L [.int x] h = some (some (.int x), h) := R_ir d_MRm_taken_75 rfl
end RULES
