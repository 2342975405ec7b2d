section RULES
variable {X : Tok} {d : Nat} {st L : List Value} {h : Hp} {mu : Nat → Nat → Int32} {la : Nat → Nat → Int64} {ro : Nat → Nat → Option Nat} {et : Nat → Option va_E}
theorem d_MFi_mayCome_0 : decode MFi_mayCome.2.2.1 0 = .ok (.aload_n 0, 1) := lkT_ok tk_MFi_mayCome rfl
theorem d_MFi_mayCome_1 : decode MFi_mayCome.2.2.1 1 = .ok (.getfield 18, 3) := lkT_ok tk_MFi_mayCome rfl
theorem d_MFi_mayCome_4 : decode MFi_mayCome.2.2.1 4 = .ok (.ifCond .le 26, 3) := lkT_ok tk_MFi_mayCome rfl
theorem d_MFi_mayCome_7 : decode MFi_mayCome.2.2.1 7 = .ok (.aload_n 0, 1) := lkT_ok tk_MFi_mayCome rfl
theorem d_MFi_mayCome_8 : decode MFi_mayCome.2.2.1 8 = .ok (.getfield 18, 3) := lkT_ok tk_MFi_mayCome rfl
theorem d_MFi_mayCome_11 : decode MFi_mayCome.2.2.1 11 = .ok (.bipush 40, 2) := lkT_ok tk_MFi_mayCome rfl
theorem d_MFi_mayCome_13 : decode MFi_mayCome.2.2.1 13 = .ok (.if_icmp .gt 17, 3) := lkT_ok tk_MFi_mayCome rfl
theorem d_MFi_mayCome_16 : decode MFi_mayCome.2.2.1 16 = .ok (.aload_n 0, 1) := lkT_ok tk_MFi_mayCome rfl
theorem d_MFi_mayCome_17 : decode MFi_mayCome.2.2.1 17 = .ok (.getfield 11, 3) := lkT_ok tk_MFi_mayCome rfl
theorem d_MFi_mayCome_20 : decode MFi_mayCome.2.2.1 20 = .ok (.aload_n 0, 1) := lkT_ok tk_MFi_mayCome rfl
theorem d_MFi_mayCome_21 : decode MFi_mayCome.2.2.1 21 = .ok (.getfield 18, 3) := lkT_ok tk_MFi_mayCome rfl
theorem d_MFi_mayCome_24 : decode MFi_mayCome.2.2.1 24 = .ok (.iconst 1, 1) := lkT_ok tk_MFi_mayCome rfl
theorem d_MFi_mayCome_25 : decode MFi_mayCome.2.2.1 25 = .ok (.isub, 1) := lkT_ok tk_MFi_mayCome rfl
theorem d_MFi_mayCome_26 : decode MFi_mayCome.2.2.1 26 = .ok (.iaload, 1) := lkT_ok tk_MFi_mayCome rfl
theorem d_MFi_mayCome_27 : decode MFi_mayCome.2.2.1 27 = .ok (.goto 4, 3) := lkT_ok tk_MFi_mayCome rfl
theorem d_MFi_mayCome_30 : decode MFi_mayCome.2.2.1 30 = .ok (.iconst (-1), 1) := lkT_ok tk_MFi_mayCome rfl
theorem d_MFi_mayCome_31 : decode MFi_mayCome.2.2.1 31 = .ok (.istore_n 3, 1) := lkT_ok tk_MFi_mayCome rfl
theorem d_MFi_mayCome_32 : decode MFi_mayCome.2.2.1 32 = .ok (.iload_n 1, 1) := lkT_ok tk_MFi_mayCome rfl
theorem d_MFi_mayCome_33 : decode MFi_mayCome.2.2.1 33 = .ok (.iload_n 3, 1) := lkT_ok tk_MFi_mayCome rfl
theorem d_MFi_mayCome_34 : decode MFi_mayCome.2.2.1 34 = .ok (.if_icmp .le 31, 3) := lkT_ok tk_MFi_mayCome rfl
theorem d_MFi_mayCome_37 : decode MFi_mayCome.2.2.1 37 = .ok (.iload_n 1, 1) := lkT_ok tk_MFi_mayCome rfl
theorem d_MFi_mayCome_38 : decode MFi_mayCome.2.2.1 38 = .ok (.iconst 0, 1) := lkT_ok tk_MFi_mayCome rfl
theorem d_MFi_mayCome_39 : decode MFi_mayCome.2.2.1 39 = .ok (.sipush 400, 3) := lkT_ok tk_MFi_mayCome rfl
theorem d_MFi_mayCome_42 : decode MFi_mayCome.2.2.1 42 = .ok (.invokestatic 22, 3) := lkT_ok tk_MFi_mayCome rfl
theorem d_MFi_mayCome_45 : decode MFi_mayCome.2.2.1 45 = .ok (.ifCond .eq 20, 3) := lkT_ok tk_MFi_mayCome rfl
theorem d_MFi_mayCome_48 : decode MFi_mayCome.2.2.1 48 = .ok (.iload_n 2, 1) := lkT_ok tk_MFi_mayCome rfl
theorem d_MFi_mayCome_49 : decode MFi_mayCome.2.2.1 49 = .ok (.sipush (-9999), 3) := lkT_ok tk_MFi_mayCome rfl
theorem d_MFi_mayCome_52 : decode MFi_mayCome.2.2.1 52 = .ok (.sipush 9999, 3) := lkT_ok tk_MFi_mayCome rfl
theorem d_MFi_mayCome_55 : decode MFi_mayCome.2.2.1 55 = .ok (.invokestatic 22, 3) := lkT_ok tk_MFi_mayCome rfl
theorem d_MFi_mayCome_58 : decode MFi_mayCome.2.2.1 58 = .ok (.ifCond .eq 7, 3) := lkT_ok tk_MFi_mayCome rfl
theorem d_MFi_mayCome_61 : decode MFi_mayCome.2.2.1 61 = .ok (.iconst 1, 1) := lkT_ok tk_MFi_mayCome rfl
theorem d_MFi_mayCome_62 : decode MFi_mayCome.2.2.1 62 = .ok (.goto 4, 3) := lkT_ok tk_MFi_mayCome rfl
theorem d_MFi_mayCome_65 : decode MFi_mayCome.2.2.1 65 = .ok (.iconst 0, 1) := lkT_ok tk_MFi_mayCome rfl
theorem d_MFi_mayCome_66 : decode MFi_mayCome.2.2.1 66 = .ok (.ireturn, 1) := lkT_ok tk_MFi_mayCome rfl
theorem r_MFi_mayCome_0 {l1 l2 l3 : Value} {x : Nat} : Rr X d MFi_mayCome 0 [.ref x, l1, l2, l3] st h = Rr X d MFi_mayCome 1 [.ref x, l1, l2, l3] (.ref x :: st) h := Rr_nx d_MFi_mayCome_0 rfl
theorem ff_2_18 : fF 2 18 = some (2, 2, 0, 0) := rfl
theorem r_MFi_mayCome_1 {a : Nat} (hq : qI a 2 2 = true) : Rr X d MFi_mayCome 1 L (.ref a :: st) (Wd mu la ro et) = Rr X d MFi_mayCome 4 L (.int (mu a 2) :: st) (Wd mu la ro et) := R_gfI d_MFi_mayCome_1 ff_2_18 hq
theorem r_MFi_mayCome_4 {x : Int32} : Rr X d MFi_mayCome 4 L (.int x :: st) h = if x ≤ 0 then Rr X d MFi_mayCome 30 L st h else Rr X d MFi_mayCome 7 L st h := R_if_le d_MFi_mayCome_4 (by decide)
theorem r_MFi_mayCome_7 {l1 l2 l3 : Value} {x : Nat} : Rr X d MFi_mayCome 7 [.ref x, l1, l2, l3] st h = Rr X d MFi_mayCome 8 [.ref x, l1, l2, l3] (.ref x :: st) h := Rr_nx d_MFi_mayCome_7 rfl
theorem r_MFi_mayCome_8 {a : Nat} (hq : qI a 2 2 = true) : Rr X d MFi_mayCome 8 L (.ref a :: st) (Wd mu la ro et) = Rr X d MFi_mayCome 11 L (.int (mu a 2) :: st) (Wd mu la ro et) := R_gfI d_MFi_mayCome_8 ff_2_18 hq
theorem r_MFi_mayCome_11 : Rr X d MFi_mayCome 11 L st h = Rr X d MFi_mayCome 13 L (.int (40) :: st) h := Rr_nx d_MFi_mayCome_11 rfl
theorem r_MFi_mayCome_13 {x y : Int32} : Rr X d MFi_mayCome 13 L (.int y :: .int x :: st) h = if y < x then Rr X d MFi_mayCome 30 L st h else Rr X d MFi_mayCome 16 L st h := R_ic_gt d_MFi_mayCome_13 (by decide)
theorem r_MFi_mayCome_16 {l1 l2 l3 : Value} {x : Nat} : Rr X d MFi_mayCome 16 [.ref x, l1, l2, l3] st h = Rr X d MFi_mayCome 17 [.ref x, l1, l2, l3] (.ref x :: st) h := Rr_nx d_MFi_mayCome_16 rfl
theorem ff_2_11 : fF 2 11 = some (2, 0, 1, 1) := rfl
theorem r_MFi_mayCome_17 {a : Nat} (hq : (qR a 2 0).isSome = true) : Rr X d MFi_mayCome 17 L (.ref a :: st) (Wd mu la ro et) = Rr X d MFi_mayCome 20 L (.ref (qRd a 2 0) :: st) (Wd mu la ro et) := R_gfR d_MFi_mayCome_17 ff_2_11 hq
theorem r_MFi_mayCome_20 {l1 l2 l3 : Value} {x : Nat} : Rr X d MFi_mayCome 20 [.ref x, l1, l2, l3] st h = Rr X d MFi_mayCome 21 [.ref x, l1, l2, l3] (.ref x :: st) h := Rr_nx d_MFi_mayCome_20 rfl
theorem r_MFi_mayCome_21 {a : Nat} (hq : qI a 2 2 = true) : Rr X d MFi_mayCome 21 L (.ref a :: st) (Wd mu la ro et) = Rr X d MFi_mayCome 24 L (.int (mu a 2) :: st) (Wd mu la ro et) := R_gfI d_MFi_mayCome_21 ff_2_18 hq
theorem r_MFi_mayCome_24 : Rr X d MFi_mayCome 24 L st h = Rr X d MFi_mayCome 25 L (.int (1) :: st) h := Rr_nx d_MFi_mayCome_24 rfl
theorem r_MFi_mayCome_25 {x y : Int32} : Rr X d MFi_mayCome 25 L (.int y :: .int x :: st) h = Rr X d MFi_mayCome 26 L (.int (x - y) :: st) h := Rr_nx d_MFi_mayCome_25 rfl
theorem r_MFi_mayCome_26 {a : Nat} {j : Int32} (hq : (qA a 0).isSome = true) : Rr X d MFi_mayCome 26 L (.int j :: .ref a :: st) (Wd mu la ro et) = if j < 0 ∨ qAd a 0 ≤ j.toNatClampNeg then none else Rr X d MFi_mayCome 27 L (.int (mu a j.toNatClampNeg) :: st) (Wd mu la ro et) := R_ialW d_MFi_mayCome_26 hq
theorem r_MFi_mayCome_27 : Rr X d MFi_mayCome 27 L st h = Rr X d MFi_mayCome 31 L st h := R_goto d_MFi_mayCome_27 (by decide)
theorem r_MFi_mayCome_30 : Rr X d MFi_mayCome 30 L st h = Rr X d MFi_mayCome 31 L (.int (-1) :: st) h := Rr_nx d_MFi_mayCome_30 rfl
theorem r_MFi_mayCome_31 {l0 l1 l2 l3 : Value} {x : Int32} : Rr X d MFi_mayCome 31 [l0, l1, l2, l3] (.int x :: st) h = Rr X d MFi_mayCome 32 (sL [l0, l1, l2, l3] 3 (.int x)) st h := Rr_nx d_MFi_mayCome_31 rfl
theorem r_MFi_mayCome_32 {l0 l2 l3 : Value} {x : Int32} : Rr X d MFi_mayCome 32 [l0, .int x, l2, l3] st h = Rr X d MFi_mayCome 33 [l0, .int x, l2, l3] (.int x :: st) h := Rr_nx d_MFi_mayCome_32 rfl
theorem r_MFi_mayCome_33 {l0 l1 l2 : Value} {x : Int32} : Rr X d MFi_mayCome 33 [l0, l1, l2, .int x] st h = Rr X d MFi_mayCome 34 [l0, l1, l2, .int x] (.int x :: st) h := Rr_nx d_MFi_mayCome_33 rfl
theorem r_MFi_mayCome_34 {x y : Int32} : Rr X d MFi_mayCome 34 L (.int y :: .int x :: st) h = if x ≤ y then Rr X d MFi_mayCome 65 L st h else Rr X d MFi_mayCome 37 L st h := R_ic_le d_MFi_mayCome_34 (by decide)
theorem r_MFi_mayCome_37 {l0 l2 l3 : Value} {x : Int32} : Rr X d MFi_mayCome 37 [l0, .int x, l2, l3] st h = Rr X d MFi_mayCome 38 [l0, .int x, l2, l3] (.int x :: st) h := Rr_nx d_MFi_mayCome_37 rfl
theorem r_MFi_mayCome_38 : Rr X d MFi_mayCome 38 L st h = Rr X d MFi_mayCome 39 L (.int (0) :: st) h := Rr_nx d_MFi_mayCome_38 rfl
theorem r_MFi_mayCome_39 : Rr X d MFi_mayCome 39 L st h = Rr X d MFi_mayCome 42 L (.int (400) :: st) h := Rr_nx d_MFi_mayCome_39 rfl
theorem fc_2_22 : fC 2 22 = some (4, 0, 3, MTo_isWithin) := rfl
theorem r_MFi_mayCome_42 {y0 : Int32} {y1 : Int32} {y2 : Int32} (hc : ckS st = true) : Rr X (d + 1) MFi_mayCome 42 L (.int y2 :: .int y1 :: .int y0 :: st) h = (Rr X d MTo_isWithin 0 [.int y0, .int y1, .int y2] [] h).bind fun q => Rr X (d + 1) MFi_mayCome 45 L (psh q.1 st) q.2 := R_is (av := [.int y2, .int y1, .int y0]) d_MFi_mayCome_42 (Or.inr fc_2_22) (ckS_le hc) rfl (Nat.le_of_ble_eq_true rfl) (Nat.le_of_ble_eq_true rfl)
theorem r_MFi_mayCome_45 {x : Int32} : Rr X d MFi_mayCome 45 L (.int x :: st) h = if x = 0 then Rr X d MFi_mayCome 65 L st h else Rr X d MFi_mayCome 48 L st h := R_if_eq d_MFi_mayCome_45 (by decide)
theorem r_MFi_mayCome_48 {l0 l1 l3 : Value} {x : Int32} : Rr X d MFi_mayCome 48 [l0, l1, .int x, l3] st h = Rr X d MFi_mayCome 49 [l0, l1, .int x, l3] (.int x :: st) h := Rr_nx d_MFi_mayCome_48 rfl
theorem r_MFi_mayCome_49 : Rr X d MFi_mayCome 49 L st h = Rr X d MFi_mayCome 52 L (.int (-9999) :: st) h := Rr_nx d_MFi_mayCome_49 rfl
theorem r_MFi_mayCome_52 : Rr X d MFi_mayCome 52 L st h = Rr X d MFi_mayCome 55 L (.int (9999) :: st) h := Rr_nx d_MFi_mayCome_52 rfl
theorem r_MFi_mayCome_55 {y0 : Int32} {y1 : Int32} {y2 : Int32} (hc : ckS st = true) : Rr X (d + 1) MFi_mayCome 55 L (.int y2 :: .int y1 :: .int y0 :: st) h = (Rr X d MTo_isWithin 0 [.int y0, .int y1, .int y2] [] h).bind fun q => Rr X (d + 1) MFi_mayCome 58 L (psh q.1 st) q.2 := R_is (av := [.int y2, .int y1, .int y0]) d_MFi_mayCome_55 (Or.inr fc_2_22) (ckS_le hc) rfl (Nat.le_of_ble_eq_true rfl) (Nat.le_of_ble_eq_true rfl)
theorem r_MFi_mayCome_58 {x : Int32} : Rr X d MFi_mayCome 58 L (.int x :: st) h = if x = 0 then Rr X d MFi_mayCome 65 L st h else Rr X d MFi_mayCome 61 L st h := R_if_eq d_MFi_mayCome_58 (by decide)
theorem r_MFi_mayCome_61 : Rr X d MFi_mayCome 61 L st h = Rr X d MFi_mayCome 62 L (.int (1) :: st) h := Rr_nx d_MFi_mayCome_61 rfl
theorem r_MFi_mayCome_62 : Rr X d MFi_mayCome 62 L st h = Rr X d MFi_mayCome 66 L st h := R_goto d_MFi_mayCome_62 (by decide)
theorem r_MFi_mayCome_65 : Rr X d MFi_mayCome 65 L st h = Rr X d MFi_mayCome 66 L (.int (0) :: st) h := Rr_nx d_MFi_mayCome_65 rfl
theorem r_MFi_mayCome_66 {x : Int32} : Rr X d MFi_mayCome 66 L [.int x] h = if x = 0 ∨ x = 1 then some (some (.int x), h) else none := R_zr d_MFi_mayCome_66 rfl
theorem d_MFi_append_0 : decode MFi_append.2.2.1 0 = .ok (.aload_n 0, 1) := lkT_ok tk_MFi_append rfl
theorem d_MFi_append_1 : decode MFi_append.2.2.1 1 = .ok (.getfield 18, 3) := lkT_ok tk_MFi_append rfl
theorem d_MFi_append_4 : decode MFi_append.2.2.1 4 = .ok (.ifCond .lt 12, 3) := lkT_ok tk_MFi_append rfl
theorem d_MFi_append_7 : decode MFi_append.2.2.1 7 = .ok (.aload_n 0, 1) := lkT_ok tk_MFi_append rfl
theorem d_MFi_append_8 : decode MFi_append.2.2.1 8 = .ok (.getfield 18, 3) := lkT_ok tk_MFi_append rfl
theorem d_MFi_append_11 : decode MFi_append.2.2.1 11 = .ok (.bipush 40, 2) := lkT_ok tk_MFi_append rfl
theorem d_MFi_append_13 : decode MFi_append.2.2.1 13 = .ok (.if_icmp .lt 5, 3) := lkT_ok tk_MFi_append rfl
theorem d_MFi_append_16 : decode MFi_append.2.2.1 16 = .ok (.iconst 0, 1) := lkT_ok tk_MFi_append rfl
theorem d_MFi_append_17 : decode MFi_append.2.2.1 17 = .ok (.ireturn, 1) := lkT_ok tk_MFi_append rfl
theorem d_MFi_append_18 : decode MFi_append.2.2.1 18 = .ok (.aload_n 0, 1) := lkT_ok tk_MFi_append rfl
theorem d_MFi_append_19 : decode MFi_append.2.2.1 19 = .ok (.getfield 11, 3) := lkT_ok tk_MFi_append rfl
theorem d_MFi_append_22 : decode MFi_append.2.2.1 22 = .ok (.aload_n 0, 1) := lkT_ok tk_MFi_append rfl
theorem d_MFi_append_23 : decode MFi_append.2.2.1 23 = .ok (.getfield 18, 3) := lkT_ok tk_MFi_append rfl
theorem d_MFi_append_26 : decode MFi_append.2.2.1 26 = .ok (.iload_n 1, 1) := lkT_ok tk_MFi_append rfl
theorem d_MFi_append_27 : decode MFi_append.2.2.1 27 = .ok (.iastore, 1) := lkT_ok tk_MFi_append rfl
theorem d_MFi_append_28 : decode MFi_append.2.2.1 28 = .ok (.aload_n 0, 1) := lkT_ok tk_MFi_append rfl
theorem d_MFi_append_29 : decode MFi_append.2.2.1 29 = .ok (.getfield 15, 3) := lkT_ok tk_MFi_append rfl
theorem d_MFi_append_32 : decode MFi_append.2.2.1 32 = .ok (.aload_n 0, 1) := lkT_ok tk_MFi_append rfl
theorem d_MFi_append_33 : decode MFi_append.2.2.1 33 = .ok (.getfield 18, 3) := lkT_ok tk_MFi_append rfl
theorem d_MFi_append_36 : decode MFi_append.2.2.1 36 = .ok (.iload_n 2, 1) := lkT_ok tk_MFi_append rfl
theorem d_MFi_append_37 : decode MFi_append.2.2.1 37 = .ok (.iastore, 1) := lkT_ok tk_MFi_append rfl
theorem d_MFi_append_38 : decode MFi_append.2.2.1 38 = .ok (.aload_n 0, 1) := lkT_ok tk_MFi_append rfl
theorem d_MFi_append_39 : decode MFi_append.2.2.1 39 = .ok (.dup, 1) := lkT_ok tk_MFi_append rfl
theorem d_MFi_append_40 : decode MFi_append.2.2.1 40 = .ok (.getfield 18, 3) := lkT_ok tk_MFi_append rfl
theorem d_MFi_append_43 : decode MFi_append.2.2.1 43 = .ok (.iconst 1, 1) := lkT_ok tk_MFi_append rfl
theorem d_MFi_append_44 : decode MFi_append.2.2.1 44 = .ok (.iadd, 1) := lkT_ok tk_MFi_append rfl
theorem d_MFi_append_45 : decode MFi_append.2.2.1 45 = .ok (.putfield 18, 3) := lkT_ok tk_MFi_append rfl
theorem d_MFi_append_48 : decode MFi_append.2.2.1 48 = .ok (.iconst 1, 1) := lkT_ok tk_MFi_append rfl
theorem d_MFi_append_49 : decode MFi_append.2.2.1 49 = .ok (.ireturn, 1) := lkT_ok tk_MFi_append rfl
theorem r_MFi_append_0 {l1 l2 : Value} {x : Nat} : Rr X d MFi_append 0 [.ref x, l1, l2] st h = Rr X d MFi_append 1 [.ref x, l1, l2] (.ref x :: st) h := Rr_nx d_MFi_append_0 rfl
theorem r_MFi_append_1 {a : Nat} (hq : qI a 2 2 = true) : Rr X d MFi_append 1 L (.ref a :: st) (Wd mu la ro et) = Rr X d MFi_append 4 L (.int (mu a 2) :: st) (Wd mu la ro et) := R_gfI d_MFi_append_1 ff_2_18 hq
theorem r_MFi_append_4 {x : Int32} : Rr X d MFi_append 4 L (.int x :: st) h = if x < 0 then Rr X d MFi_append 16 L st h else Rr X d MFi_append 7 L st h := R_if_lt d_MFi_append_4 (by decide)
theorem r_MFi_append_7 {l1 l2 : Value} {x : Nat} : Rr X d MFi_append 7 [.ref x, l1, l2] st h = Rr X d MFi_append 8 [.ref x, l1, l2] (.ref x :: st) h := Rr_nx d_MFi_append_7 rfl
theorem r_MFi_append_8 {a : Nat} (hq : qI a 2 2 = true) : Rr X d MFi_append 8 L (.ref a :: st) (Wd mu la ro et) = Rr X d MFi_append 11 L (.int (mu a 2) :: st) (Wd mu la ro et) := R_gfI d_MFi_append_8 ff_2_18 hq
theorem r_MFi_append_11 : Rr X d MFi_append 11 L st h = Rr X d MFi_append 13 L (.int (40) :: st) h := Rr_nx d_MFi_append_11 rfl
theorem r_MFi_append_13 {x y : Int32} : Rr X d MFi_append 13 L (.int y :: .int x :: st) h = if x < y then Rr X d MFi_append 18 L st h else Rr X d MFi_append 16 L st h := R_ic_lt d_MFi_append_13 (by decide)
theorem r_MFi_append_16 : Rr X d MFi_append 16 L st h = Rr X d MFi_append 17 L (.int (0) :: st) h := Rr_nx d_MFi_append_16 rfl
theorem r_MFi_append_17 {x : Int32} : Rr X d MFi_append 17 L [.int x] h = if x = 0 ∨ x = 1 then some (some (.int x), h) else none := R_zr d_MFi_append_17 rfl
theorem r_MFi_append_18 {l1 l2 : Value} {x : Nat} : Rr X d MFi_append 18 [.ref x, l1, l2] st h = Rr X d MFi_append 19 [.ref x, l1, l2] (.ref x :: st) h := Rr_nx d_MFi_append_18 rfl
theorem r_MFi_append_19 {a : Nat} (hq : (qR a 2 0).isSome = true) : Rr X d MFi_append 19 L (.ref a :: st) (Wd mu la ro et) = Rr X d MFi_append 22 L (.ref (qRd a 2 0) :: st) (Wd mu la ro et) := R_gfR d_MFi_append_19 ff_2_11 hq
theorem r_MFi_append_22 {l1 l2 : Value} {x : Nat} : Rr X d MFi_append 22 [.ref x, l1, l2] st h = Rr X d MFi_append 23 [.ref x, l1, l2] (.ref x :: st) h := Rr_nx d_MFi_append_22 rfl
theorem r_MFi_append_23 {a : Nat} (hq : qI a 2 2 = true) : Rr X d MFi_append 23 L (.ref a :: st) (Wd mu la ro et) = Rr X d MFi_append 26 L (.int (mu a 2) :: st) (Wd mu la ro et) := R_gfI d_MFi_append_23 ff_2_18 hq
theorem r_MFi_append_26 {l0 l2 : Value} {x : Int32} : Rr X d MFi_append 26 [l0, .int x, l2] st h = Rr X d MFi_append 27 [l0, .int x, l2] (.int x :: st) h := Rr_nx d_MFi_append_26 rfl
theorem r_MFi_append_27 {a : Nat} {j x : Int32} (hq : (qA a 0).isSome = true) : Rr X d MFi_append 27 L (.int x :: .int j :: .ref a :: st) (Wd mu la ro et) = if j < 0 ∨ qAd a 0 ≤ j.toNatClampNeg then none else Rr X d MFi_append 28 L st (Wd (up2 mu a j.toNatClampNeg (x)) la ro et) := R_iasW d_MFi_append_27 hq
theorem r_MFi_append_28 {l1 l2 : Value} {x : Nat} : Rr X d MFi_append 28 [.ref x, l1, l2] st h = Rr X d MFi_append 29 [.ref x, l1, l2] (.ref x :: st) h := Rr_nx d_MFi_append_28 rfl
theorem ff_2_15 : fF 2 15 = some (2, 1, 1, 1) := rfl
theorem r_MFi_append_29 {a : Nat} (hq : (qR a 2 1).isSome = true) : Rr X d MFi_append 29 L (.ref a :: st) (Wd mu la ro et) = Rr X d MFi_append 32 L (.ref (qRd a 2 1) :: st) (Wd mu la ro et) := R_gfR d_MFi_append_29 ff_2_15 hq
theorem r_MFi_append_32 {l1 l2 : Value} {x : Nat} : Rr X d MFi_append 32 [.ref x, l1, l2] st h = Rr X d MFi_append 33 [.ref x, l1, l2] (.ref x :: st) h := Rr_nx d_MFi_append_32 rfl
theorem r_MFi_append_33 {a : Nat} (hq : qI a 2 2 = true) : Rr X d MFi_append 33 L (.ref a :: st) (Wd mu la ro et) = Rr X d MFi_append 36 L (.int (mu a 2) :: st) (Wd mu la ro et) := R_gfI d_MFi_append_33 ff_2_18 hq
theorem r_MFi_append_36 {l0 l1 : Value} {x : Int32} : Rr X d MFi_append 36 [l0, l1, .int x] st h = Rr X d MFi_append 37 [l0, l1, .int x] (.int x :: st) h := Rr_nx d_MFi_append_36 rfl
theorem r_MFi_append_37 {a : Nat} {j x : Int32} (hq : (qA a 0).isSome = true) : Rr X d MFi_append 37 L (.int x :: .int j :: .ref a :: st) (Wd mu la ro et) = if j < 0 ∨ qAd a 0 ≤ j.toNatClampNeg then none else Rr X d MFi_append 38 L st (Wd (up2 mu a j.toNatClampNeg (x)) la ro et) := R_iasW d_MFi_append_37 hq
theorem r_MFi_append_38 {l1 l2 : Value} {x : Nat} : Rr X d MFi_append 38 [.ref x, l1, l2] st h = Rr X d MFi_append 39 [.ref x, l1, l2] (.ref x :: st) h := Rr_nx d_MFi_append_38 rfl
theorem r_MFi_append_39 {x : Nat} : Rr X d MFi_append 39 L (.ref x :: st) h = Rr X d MFi_append 40 L (.ref x :: .ref x :: st) h := Rr_nx d_MFi_append_39 rfl
theorem r_MFi_append_39i {x : Int32} : Rr X d MFi_append 39 L (.int x :: st) h = Rr X d MFi_append 40 L (.int x :: .int x :: st) h := Rr_nx d_MFi_append_39 rfl
theorem r_MFi_append_40 {a : Nat} (hq : qI a 2 2 = true) : Rr X d MFi_append 40 L (.ref a :: st) (Wd mu la ro et) = Rr X d MFi_append 43 L (.int (mu a 2) :: st) (Wd mu la ro et) := R_gfI d_MFi_append_40 ff_2_18 hq
theorem r_MFi_append_43 : Rr X d MFi_append 43 L st h = Rr X d MFi_append 44 L (.int (1) :: st) h := Rr_nx d_MFi_append_43 rfl
theorem r_MFi_append_44 {x y : Int32} : Rr X d MFi_append 44 L (.int y :: .int x :: st) h = Rr X d MFi_append 45 L (.int (x + y) :: st) h := Rr_nx d_MFi_append_44 rfl
theorem r_MFi_append_45 {a : Nat} {x : Int32} (hq : qI a 2 2 = true) : Rr X d MFi_append 45 L (.int x :: .ref a :: st) (Wd mu la ro et) = Rr X d MFi_append 48 L st (Wd (up2 mu a 2 x) la ro et) := R_pfI d_MFi_append_45 ff_2_18 hq
theorem r_MFi_append_48 : Rr X d MFi_append 48 L st h = Rr X d MFi_append 49 L (.int (1) :: st) h := Rr_nx d_MFi_append_48 rfl
theorem r_MFi_append_49 {x : Int32} : Rr X d MFi_append 49 L [.int x] h = if x = 0 ∨ x = 1 then some (some (.int x), h) else none := R_zr d_MFi_append_49 rfl
theorem d_MFi_takeFrom_0 : decode MFi_takeFrom.2.2.1 0 = .ok (.iconst 0, 1) := lkT_ok tk_MFi_takeFrom rfl
theorem d_MFi_takeFrom_1 : decode MFi_takeFrom.2.2.1 1 = .ok (.istore 4, 2) := lkT_ok tk_MFi_takeFrom rfl
theorem d_MFi_takeFrom_3 : decode MFi_takeFrom.2.2.1 3 = .ok (.iconst 1, 1) := lkT_ok tk_MFi_takeFrom rfl
theorem d_MFi_takeFrom_4 : decode MFi_takeFrom.2.2.1 4 = .ok (.istore 5, 2) := lkT_ok tk_MFi_takeFrom rfl
theorem d_MFi_takeFrom_6 : decode MFi_takeFrom.2.2.1 6 = .ok (.iconst 0, 1) := lkT_ok tk_MFi_takeFrom rfl
theorem d_MFi_takeFrom_7 : decode MFi_takeFrom.2.2.1 7 = .ok (.istore 6, 2) := lkT_ok tk_MFi_takeFrom rfl
theorem d_MFi_takeFrom_9 : decode MFi_takeFrom.2.2.1 9 = .ok (.iload 6, 2) := lkT_ok tk_MFi_takeFrom rfl
theorem d_MFi_takeFrom_11 : decode MFi_takeFrom.2.2.1 11 = .ok (.iload_n 3, 1) := lkT_ok tk_MFi_takeFrom rfl
theorem d_MFi_takeFrom_12 : decode MFi_takeFrom.2.2.1 12 = .ok (.if_icmp .ge 104, 3) := lkT_ok tk_MFi_takeFrom rfl
theorem d_MFi_takeFrom_15 : decode MFi_takeFrom.2.2.1 15 = .ok (.iload 5, 2) := lkT_ok tk_MFi_takeFrom rfl
theorem d_MFi_takeFrom_17 : decode MFi_takeFrom.2.2.1 17 = .ok (.ifCond .eq 99, 3) := lkT_ok tk_MFi_takeFrom rfl
theorem d_MFi_takeFrom_20 : decode MFi_takeFrom.2.2.1 20 = .ok (.aload_n 1, 1) := lkT_ok tk_MFi_takeFrom rfl
theorem d_MFi_takeFrom_21 : decode MFi_takeFrom.2.2.1 21 = .ok (.iload_n 2, 1) := lkT_ok tk_MFi_takeFrom rfl
theorem d_MFi_takeFrom_22 : decode MFi_takeFrom.2.2.1 22 = .ok (.iconst 2, 1) := lkT_ok tk_MFi_takeFrom rfl
theorem d_MFi_takeFrom_23 : decode MFi_takeFrom.2.2.1 23 = .ok (.iload 6, 2) := lkT_ok tk_MFi_takeFrom rfl
theorem d_MFi_takeFrom_25 : decode MFi_takeFrom.2.2.1 25 = .ok (.imul, 1) := lkT_ok tk_MFi_takeFrom rfl
theorem d_MFi_takeFrom_26 : decode MFi_takeFrom.2.2.1 26 = .ok (.iconst 2, 1) := lkT_ok tk_MFi_takeFrom rfl
theorem d_MFi_takeFrom_27 : decode MFi_takeFrom.2.2.1 27 = .ok (.iadd, 1) := lkT_ok tk_MFi_takeFrom rfl
theorem d_MFi_takeFrom_28 : decode MFi_takeFrom.2.2.1 28 = .ok (.invokevirtual 26, 3) := lkT_ok tk_MFi_takeFrom rfl
theorem d_MFi_takeFrom_31 : decode MFi_takeFrom.2.2.1 31 = .ok (.istore 5, 2) := lkT_ok tk_MFi_takeFrom rfl
theorem d_MFi_takeFrom_33 : decode MFi_takeFrom.2.2.1 33 = .ok (.iload 5, 2) := lkT_ok tk_MFi_takeFrom rfl
theorem d_MFi_takeFrom_35 : decode MFi_takeFrom.2.2.1 35 = .ok (.ifCond .eq 60, 3) := lkT_ok tk_MFi_takeFrom rfl
theorem d_MFi_takeFrom_38 : decode MFi_takeFrom.2.2.1 38 = .ok (.aload_n 1, 1) := lkT_ok tk_MFi_takeFrom rfl
theorem d_MFi_takeFrom_39 : decode MFi_takeFrom.2.2.1 39 = .ok (.iload_n 2, 1) := lkT_ok tk_MFi_takeFrom rfl
theorem d_MFi_takeFrom_40 : decode MFi_takeFrom.2.2.1 40 = .ok (.iconst 2, 1) := lkT_ok tk_MFi_takeFrom rfl
theorem d_MFi_takeFrom_41 : decode MFi_takeFrom.2.2.1 41 = .ok (.iload 6, 2) := lkT_ok tk_MFi_takeFrom rfl
theorem d_MFi_takeFrom_43 : decode MFi_takeFrom.2.2.1 43 = .ok (.imul, 1) := lkT_ok tk_MFi_takeFrom rfl
theorem d_MFi_takeFrom_44 : decode MFi_takeFrom.2.2.1 44 = .ok (.iadd, 1) := lkT_ok tk_MFi_takeFrom rfl
theorem d_MFi_takeFrom_45 : decode MFi_takeFrom.2.2.1 45 = .ok (.invokevirtual 32, 3) := lkT_ok tk_MFi_takeFrom rfl
theorem d_MFi_takeFrom_48 : decode MFi_takeFrom.2.2.1 48 = .ok (.l2i, 1) := lkT_ok tk_MFi_takeFrom rfl
theorem d_MFi_takeFrom_49 : decode MFi_takeFrom.2.2.1 49 = .ok (.istore 7, 2) := lkT_ok tk_MFi_takeFrom rfl
theorem d_MFi_takeFrom_51 : decode MFi_takeFrom.2.2.1 51 = .ok (.aload_n 1, 1) := lkT_ok tk_MFi_takeFrom rfl
theorem d_MFi_takeFrom_52 : decode MFi_takeFrom.2.2.1 52 = .ok (.iload_n 2, 1) := lkT_ok tk_MFi_takeFrom rfl
theorem d_MFi_takeFrom_53 : decode MFi_takeFrom.2.2.1 53 = .ok (.iconst 2, 1) := lkT_ok tk_MFi_takeFrom rfl
theorem d_MFi_takeFrom_54 : decode MFi_takeFrom.2.2.1 54 = .ok (.iload 6, 2) := lkT_ok tk_MFi_takeFrom rfl
theorem d_MFi_takeFrom_56 : decode MFi_takeFrom.2.2.1 56 = .ok (.imul, 1) := lkT_ok tk_MFi_takeFrom rfl
theorem d_MFi_takeFrom_57 : decode MFi_takeFrom.2.2.1 57 = .ok (.iadd, 1) := lkT_ok tk_MFi_takeFrom rfl
theorem d_MFi_takeFrom_58 : decode MFi_takeFrom.2.2.1 58 = .ok (.iconst 1, 1) := lkT_ok tk_MFi_takeFrom rfl
theorem d_MFi_takeFrom_59 : decode MFi_takeFrom.2.2.1 59 = .ok (.iadd, 1) := lkT_ok tk_MFi_takeFrom rfl
theorem d_MFi_takeFrom_60 : decode MFi_takeFrom.2.2.1 60 = .ok (.invokevirtual 32, 3) := lkT_ok tk_MFi_takeFrom rfl
theorem d_MFi_takeFrom_63 : decode MFi_takeFrom.2.2.1 63 = .ok (.l2i, 1) := lkT_ok tk_MFi_takeFrom rfl
theorem d_MFi_takeFrom_64 : decode MFi_takeFrom.2.2.1 64 = .ok (.istore 8, 2) := lkT_ok tk_MFi_takeFrom rfl
theorem d_MFi_takeFrom_66 : decode MFi_takeFrom.2.2.1 66 = .ok (.aload_n 0, 1) := lkT_ok tk_MFi_takeFrom rfl
theorem d_MFi_takeFrom_67 : decode MFi_takeFrom.2.2.1 67 = .ok (.iload 7, 2) := lkT_ok tk_MFi_takeFrom rfl
theorem d_MFi_takeFrom_69 : decode MFi_takeFrom.2.2.1 69 = .ok (.iload 8, 2) := lkT_ok tk_MFi_takeFrom rfl
theorem d_MFi_takeFrom_71 : decode MFi_takeFrom.2.2.1 71 = .ok (.invokevirtual 36, 3) := lkT_ok tk_MFi_takeFrom rfl
theorem d_MFi_takeFrom_74 : decode MFi_takeFrom.2.2.1 74 = .ok (.ifCond .eq 18, 3) := lkT_ok tk_MFi_takeFrom rfl
theorem d_MFi_takeFrom_77 : decode MFi_takeFrom.2.2.1 77 = .ok (.aload_n 0, 1) := lkT_ok tk_MFi_takeFrom rfl
theorem d_MFi_takeFrom_78 : decode MFi_takeFrom.2.2.1 78 = .ok (.iload 7, 2) := lkT_ok tk_MFi_takeFrom rfl
theorem d_MFi_takeFrom_80 : decode MFi_takeFrom.2.2.1 80 = .ok (.iload 8, 2) := lkT_ok tk_MFi_takeFrom rfl
theorem d_MFi_takeFrom_82 : decode MFi_takeFrom.2.2.1 82 = .ok (.invokevirtual 39, 3) := lkT_ok tk_MFi_takeFrom rfl
theorem d_MFi_takeFrom_85 : decode MFi_takeFrom.2.2.1 85 = .ok (.ifCond .eq 7, 3) := lkT_ok tk_MFi_takeFrom rfl
theorem d_MFi_takeFrom_88 : decode MFi_takeFrom.2.2.1 88 = .ok (.iconst 1, 1) := lkT_ok tk_MFi_takeFrom rfl
theorem d_MFi_takeFrom_89 : decode MFi_takeFrom.2.2.1 89 = .ok (.goto 4, 3) := lkT_ok tk_MFi_takeFrom rfl
theorem d_MFi_takeFrom_92 : decode MFi_takeFrom.2.2.1 92 = .ok (.iconst 0, 1) := lkT_ok tk_MFi_takeFrom rfl
theorem d_MFi_takeFrom_93 : decode MFi_takeFrom.2.2.1 93 = .ok (.istore 5, 2) := lkT_ok tk_MFi_takeFrom rfl
theorem d_MFi_takeFrom_95 : decode MFi_takeFrom.2.2.1 95 = .ok (.iload 4, 2) := lkT_ok tk_MFi_takeFrom rfl
theorem d_MFi_takeFrom_97 : decode MFi_takeFrom.2.2.1 97 = .ok (.iload 5, 2) := lkT_ok tk_MFi_takeFrom rfl
theorem d_MFi_takeFrom_99 : decode MFi_takeFrom.2.2.1 99 = .ok (.ifCond .eq 7, 3) := lkT_ok tk_MFi_takeFrom rfl
theorem d_MFi_takeFrom_102 : decode MFi_takeFrom.2.2.1 102 = .ok (.iconst 1, 1) := lkT_ok tk_MFi_takeFrom rfl
theorem d_MFi_takeFrom_103 : decode MFi_takeFrom.2.2.1 103 = .ok (.goto 4, 3) := lkT_ok tk_MFi_takeFrom rfl
theorem d_MFi_takeFrom_106 : decode MFi_takeFrom.2.2.1 106 = .ok (.iconst 0, 1) := lkT_ok tk_MFi_takeFrom rfl
theorem d_MFi_takeFrom_107 : decode MFi_takeFrom.2.2.1 107 = .ok (.iadd, 1) := lkT_ok tk_MFi_takeFrom rfl
theorem d_MFi_takeFrom_108 : decode MFi_takeFrom.2.2.1 108 = .ok (.istore 4, 2) := lkT_ok tk_MFi_takeFrom rfl
theorem d_MFi_takeFrom_110 : decode MFi_takeFrom.2.2.1 110 = .ok (.iinc 6 1, 3) := lkT_ok tk_MFi_takeFrom rfl
theorem d_MFi_takeFrom_113 : decode MFi_takeFrom.2.2.1 113 = .ok (.goto (-104), 3) := lkT_ok tk_MFi_takeFrom rfl
theorem d_MFi_takeFrom_116 : decode MFi_takeFrom.2.2.1 116 = .ok (.iload 4, 2) := lkT_ok tk_MFi_takeFrom rfl
theorem d_MFi_takeFrom_118 : decode MFi_takeFrom.2.2.1 118 = .ok (.ireturn, 1) := lkT_ok tk_MFi_takeFrom rfl
theorem r_MFi_takeFrom_0 : Rr X d MFi_takeFrom 0 L st h = Rr X d MFi_takeFrom 1 L (.int (0) :: st) h := Rr_nx d_MFi_takeFrom_0 rfl
theorem r_MFi_takeFrom_1 {l0 l1 l2 l3 l4 l5 l6 l7 l8 : Value} {x : Int32} : Rr X d MFi_takeFrom 1 [l0, l1, l2, l3, l4, l5, l6, l7, l8] (.int x :: st) h = Rr X d MFi_takeFrom 3 (sL [l0, l1, l2, l3, l4, l5, l6, l7, l8] 4 (.int x)) st h := Rr_nx d_MFi_takeFrom_1 rfl
theorem r_MFi_takeFrom_3 : Rr X d MFi_takeFrom 3 L st h = Rr X d MFi_takeFrom 4 L (.int (1) :: st) h := Rr_nx d_MFi_takeFrom_3 rfl
theorem r_MFi_takeFrom_4 {l0 l1 l2 l3 l4 l5 l6 l7 l8 : Value} {x : Int32} : Rr X d MFi_takeFrom 4 [l0, l1, l2, l3, l4, l5, l6, l7, l8] (.int x :: st) h = Rr X d MFi_takeFrom 6 (sL [l0, l1, l2, l3, l4, l5, l6, l7, l8] 5 (.int x)) st h := Rr_nx d_MFi_takeFrom_4 rfl
theorem r_MFi_takeFrom_6 : Rr X d MFi_takeFrom 6 L st h = Rr X d MFi_takeFrom 7 L (.int (0) :: st) h := Rr_nx d_MFi_takeFrom_6 rfl
theorem r_MFi_takeFrom_7 {l0 l1 l2 l3 l4 l5 l6 l7 l8 : Value} {x : Int32} : Rr X d MFi_takeFrom 7 [l0, l1, l2, l3, l4, l5, l6, l7, l8] (.int x :: st) h = Rr X d MFi_takeFrom 9 (sL [l0, l1, l2, l3, l4, l5, l6, l7, l8] 6 (.int x)) st h := Rr_nx d_MFi_takeFrom_7 rfl
theorem r_MFi_takeFrom_9 {l0 l1 l2 l3 l4 l5 l7 l8 : Value} {x : Int32} : Rr X d MFi_takeFrom 9 [l0, l1, l2, l3, l4, l5, .int x, l7, l8] st h = Rr X d MFi_takeFrom 11 [l0, l1, l2, l3, l4, l5, .int x, l7, l8] (.int x :: st) h := Rr_nx d_MFi_takeFrom_9 rfl
theorem r_MFi_takeFrom_11 {l0 l1 l2 l4 l5 l6 l7 l8 : Value} {x : Int32} : Rr X d MFi_takeFrom 11 [l0, l1, l2, .int x, l4, l5, l6, l7, l8] st h = Rr X d MFi_takeFrom 12 [l0, l1, l2, .int x, l4, l5, l6, l7, l8] (.int x :: st) h := Rr_nx d_MFi_takeFrom_11 rfl
theorem r_MFi_takeFrom_12 {x y : Int32} : Rr X d MFi_takeFrom 12 L (.int y :: .int x :: st) h = if y ≤ x then Rr X d MFi_takeFrom 116 L st h else Rr X d MFi_takeFrom 15 L st h := R_ic_ge d_MFi_takeFrom_12 (by decide)
theorem r_MFi_takeFrom_15 {l0 l1 l2 l3 l4 l6 l7 l8 : Value} {x : Int32} : Rr X d MFi_takeFrom 15 [l0, l1, l2, l3, l4, .int x, l6, l7, l8] st h = Rr X d MFi_takeFrom 17 [l0, l1, l2, l3, l4, .int x, l6, l7, l8] (.int x :: st) h := Rr_nx d_MFi_takeFrom_15 rfl
theorem r_MFi_takeFrom_17 {x : Int32} : Rr X d MFi_takeFrom 17 L (.int x :: st) h = if x = 0 then Rr X d MFi_takeFrom 116 L st h else Rr X d MFi_takeFrom 20 L st h := R_if_eq d_MFi_takeFrom_17 (by decide)
theorem r_MFi_takeFrom_20 {l0 l2 l3 l4 l5 l6 l7 l8 : Value} {x : Nat} : Rr X d MFi_takeFrom 20 [l0, .ref x, l2, l3, l4, l5, l6, l7, l8] st h = Rr X d MFi_takeFrom 21 [l0, .ref x, l2, l3, l4, l5, l6, l7, l8] (.ref x :: st) h := Rr_nx d_MFi_takeFrom_20 rfl
theorem r_MFi_takeFrom_20n {l0 l2 l3 l4 l5 l6 l7 l8 : Value} : Rr X d MFi_takeFrom 20 [l0, .null, l2, l3, l4, l5, l6, l7, l8] st h = Rr X d MFi_takeFrom 21 [l0, .null, l2, l3, l4, l5, l6, l7, l8] (.null :: st) h := Rr_nx d_MFi_takeFrom_20 rfl
theorem r_MFi_takeFrom_21 {l0 l1 l3 l4 l5 l6 l7 l8 : Value} {x : Int32} : Rr X d MFi_takeFrom 21 [l0, l1, .int x, l3, l4, l5, l6, l7, l8] st h = Rr X d MFi_takeFrom 22 [l0, l1, .int x, l3, l4, l5, l6, l7, l8] (.int x :: st) h := Rr_nx d_MFi_takeFrom_21 rfl
theorem r_MFi_takeFrom_22 : Rr X d MFi_takeFrom 22 L st h = Rr X d MFi_takeFrom 23 L (.int (2) :: st) h := Rr_nx d_MFi_takeFrom_22 rfl
theorem r_MFi_takeFrom_23 {l0 l1 l2 l3 l4 l5 l7 l8 : Value} {x : Int32} : Rr X d MFi_takeFrom 23 [l0, l1, l2, l3, l4, l5, .int x, l7, l8] st h = Rr X d MFi_takeFrom 25 [l0, l1, l2, l3, l4, l5, .int x, l7, l8] (.int x :: st) h := Rr_nx d_MFi_takeFrom_23 rfl
theorem r_MFi_takeFrom_25 {x y : Int32} : Rr X d MFi_takeFrom 25 L (.int y :: .int x :: st) h = Rr X d MFi_takeFrom 26 L (.int (x * y) :: st) h := Rr_nx d_MFi_takeFrom_25 rfl
theorem r_MFi_takeFrom_26 : Rr X d MFi_takeFrom 26 L st h = Rr X d MFi_takeFrom 27 L (.int (2) :: st) h := Rr_nx d_MFi_takeFrom_26 rfl
theorem r_MFi_takeFrom_27 {x y : Int32} : Rr X d MFi_takeFrom 27 L (.int y :: .int x :: st) h = Rr X d MFi_takeFrom 28 L (.int (x + y) :: st) h := Rr_nx d_MFi_takeFrom_27 rfl
theorem fc_2_26 : fC 2 26 = some (0, 6, 2, MSh_hasPlaces) := rfl
theorem r_MFi_takeFrom_28 {y0 : Int32} {y1 : Int32} {a : Nat} (hO : qO a 6 = true) (hc : ckS st = true) : Rr X (d + 1) MFi_takeFrom 28 L (.int y1 :: .int y0 :: .ref a :: st) (Wd mu la ro et) = (Rr X d MSh_hasPlaces 0 [.ref a, .int y0, .int y1] [] (Wd mu la ro et)).bind fun q => Rr X (d + 1) MFi_takeFrom 31 L (psh q.1 st) q.2 := R_iv (av := [.int y1, .int y0]) d_MFi_takeFrom_28 fc_2_26 hO (ckS_le hc) rfl (Nat.le_of_ble_eq_true rfl) (Nat.le_of_ble_eq_true rfl)
theorem r_MFi_takeFrom_31 {l0 l1 l2 l3 l4 l5 l6 l7 l8 : Value} {x : Int32} : Rr X d MFi_takeFrom 31 [l0, l1, l2, l3, l4, l5, l6, l7, l8] (.int x :: st) h = Rr X d MFi_takeFrom 33 (sL [l0, l1, l2, l3, l4, l5, l6, l7, l8] 5 (.int x)) st h := Rr_nx d_MFi_takeFrom_31 rfl
theorem r_MFi_takeFrom_33 {l0 l1 l2 l3 l4 l6 l7 l8 : Value} {x : Int32} : Rr X d MFi_takeFrom 33 [l0, l1, l2, l3, l4, .int x, l6, l7, l8] st h = Rr X d MFi_takeFrom 35 [l0, l1, l2, l3, l4, .int x, l6, l7, l8] (.int x :: st) h := Rr_nx d_MFi_takeFrom_33 rfl
theorem r_MFi_takeFrom_35 {x : Int32} : Rr X d MFi_takeFrom 35 L (.int x :: st) h = if x = 0 then Rr X d MFi_takeFrom 95 L st h else Rr X d MFi_takeFrom 38 L st h := R_if_eq d_MFi_takeFrom_35 (by decide)
theorem r_MFi_takeFrom_38 {l0 l2 l3 l4 l5 l6 l7 l8 : Value} {x : Nat} : Rr X d MFi_takeFrom 38 [l0, .ref x, l2, l3, l4, l5, l6, l7, l8] st h = Rr X d MFi_takeFrom 39 [l0, .ref x, l2, l3, l4, l5, l6, l7, l8] (.ref x :: st) h := Rr_nx d_MFi_takeFrom_38 rfl
theorem r_MFi_takeFrom_38n {l0 l2 l3 l4 l5 l6 l7 l8 : Value} : Rr X d MFi_takeFrom 38 [l0, .null, l2, l3, l4, l5, l6, l7, l8] st h = Rr X d MFi_takeFrom 39 [l0, .null, l2, l3, l4, l5, l6, l7, l8] (.null :: st) h := Rr_nx d_MFi_takeFrom_38 rfl
theorem r_MFi_takeFrom_39 {l0 l1 l3 l4 l5 l6 l7 l8 : Value} {x : Int32} : Rr X d MFi_takeFrom 39 [l0, l1, .int x, l3, l4, l5, l6, l7, l8] st h = Rr X d MFi_takeFrom 40 [l0, l1, .int x, l3, l4, l5, l6, l7, l8] (.int x :: st) h := Rr_nx d_MFi_takeFrom_39 rfl
theorem r_MFi_takeFrom_40 : Rr X d MFi_takeFrom 40 L st h = Rr X d MFi_takeFrom 41 L (.int (2) :: st) h := Rr_nx d_MFi_takeFrom_40 rfl
theorem r_MFi_takeFrom_41 {l0 l1 l2 l3 l4 l5 l7 l8 : Value} {x : Int32} : Rr X d MFi_takeFrom 41 [l0, l1, l2, l3, l4, l5, .int x, l7, l8] st h = Rr X d MFi_takeFrom 43 [l0, l1, l2, l3, l4, l5, .int x, l7, l8] (.int x :: st) h := Rr_nx d_MFi_takeFrom_41 rfl
theorem r_MFi_takeFrom_43 {x y : Int32} : Rr X d MFi_takeFrom 43 L (.int y :: .int x :: st) h = Rr X d MFi_takeFrom 44 L (.int (x * y) :: st) h := Rr_nx d_MFi_takeFrom_43 rfl
theorem r_MFi_takeFrom_44 {x y : Int32} : Rr X d MFi_takeFrom 44 L (.int y :: .int x :: st) h = Rr X d MFi_takeFrom 45 L (.int (x + y) :: st) h := Rr_nx d_MFi_takeFrom_44 rfl
theorem fc_2_32 : fC 2 32 = some (0, 6, 1, MSh_read) := rfl
theorem r_MFi_takeFrom_45 {y0 : Int32} {a : Nat} (hO : qO a 6 = true) (hc : ckS st = true) : Rr X (d + 1) MFi_takeFrom 45 L (.int y0 :: .ref a :: st) (Wd mu la ro et) = (Rr X d MSh_read 0 [.ref a, .int y0] [] (Wd mu la ro et)).bind fun q => Rr X (d + 1) MFi_takeFrom 48 L (psh q.1 st) q.2 := R_iv (av := [.int y0]) d_MFi_takeFrom_45 fc_2_32 hO (ckS_le hc) rfl (Nat.le_of_ble_eq_true rfl) (Nat.le_of_ble_eq_true rfl)
theorem r_MFi_takeFrom_48 {x : Int64} : Rr X d MFi_takeFrom 48 L (.long x :: st) h = Rr X d MFi_takeFrom 49 L (.int x.toInt32 :: st) h := Rr_nx d_MFi_takeFrom_48 rfl
theorem r_MFi_takeFrom_49 {l0 l1 l2 l3 l4 l5 l6 l7 l8 : Value} {x : Int32} : Rr X d MFi_takeFrom 49 [l0, l1, l2, l3, l4, l5, l6, l7, l8] (.int x :: st) h = Rr X d MFi_takeFrom 51 (sL [l0, l1, l2, l3, l4, l5, l6, l7, l8] 7 (.int x)) st h := Rr_nx d_MFi_takeFrom_49 rfl
theorem r_MFi_takeFrom_51 {l0 l2 l3 l4 l5 l6 l7 l8 : Value} {x : Nat} : Rr X d MFi_takeFrom 51 [l0, .ref x, l2, l3, l4, l5, l6, l7, l8] st h = Rr X d MFi_takeFrom 52 [l0, .ref x, l2, l3, l4, l5, l6, l7, l8] (.ref x :: st) h := Rr_nx d_MFi_takeFrom_51 rfl
theorem r_MFi_takeFrom_51n {l0 l2 l3 l4 l5 l6 l7 l8 : Value} : Rr X d MFi_takeFrom 51 [l0, .null, l2, l3, l4, l5, l6, l7, l8] st h = Rr X d MFi_takeFrom 52 [l0, .null, l2, l3, l4, l5, l6, l7, l8] (.null :: st) h := Rr_nx d_MFi_takeFrom_51 rfl
theorem r_MFi_takeFrom_52 {l0 l1 l3 l4 l5 l6 l7 l8 : Value} {x : Int32} : Rr X d MFi_takeFrom 52 [l0, l1, .int x, l3, l4, l5, l6, l7, l8] st h = Rr X d MFi_takeFrom 53 [l0, l1, .int x, l3, l4, l5, l6, l7, l8] (.int x :: st) h := Rr_nx d_MFi_takeFrom_52 rfl
theorem r_MFi_takeFrom_53 : Rr X d MFi_takeFrom 53 L st h = Rr X d MFi_takeFrom 54 L (.int (2) :: st) h := Rr_nx d_MFi_takeFrom_53 rfl
theorem r_MFi_takeFrom_54 {l0 l1 l2 l3 l4 l5 l7 l8 : Value} {x : Int32} : Rr X d MFi_takeFrom 54 [l0, l1, l2, l3, l4, l5, .int x, l7, l8] st h = Rr X d MFi_takeFrom 56 [l0, l1, l2, l3, l4, l5, .int x, l7, l8] (.int x :: st) h := Rr_nx d_MFi_takeFrom_54 rfl
theorem r_MFi_takeFrom_56 {x y : Int32} : Rr X d MFi_takeFrom 56 L (.int y :: .int x :: st) h = Rr X d MFi_takeFrom 57 L (.int (x * y) :: st) h := Rr_nx d_MFi_takeFrom_56 rfl
theorem r_MFi_takeFrom_57 {x y : Int32} : Rr X d MFi_takeFrom 57 L (.int y :: .int x :: st) h = Rr X d MFi_takeFrom 58 L (.int (x + y) :: st) h := Rr_nx d_MFi_takeFrom_57 rfl
theorem r_MFi_takeFrom_58 : Rr X d MFi_takeFrom 58 L st h = Rr X d MFi_takeFrom 59 L (.int (1) :: st) h := Rr_nx d_MFi_takeFrom_58 rfl
theorem r_MFi_takeFrom_59 {x y : Int32} : Rr X d MFi_takeFrom 59 L (.int y :: .int x :: st) h = Rr X d MFi_takeFrom 60 L (.int (x + y) :: st) h := Rr_nx d_MFi_takeFrom_59 rfl
theorem r_MFi_takeFrom_60 {y0 : Int32} {a : Nat} (hO : qO a 6 = true) (hc : ckS st = true) : Rr X (d + 1) MFi_takeFrom 60 L (.int y0 :: .ref a :: st) (Wd mu la ro et) = (Rr X d MSh_read 0 [.ref a, .int y0] [] (Wd mu la ro et)).bind fun q => Rr X (d + 1) MFi_takeFrom 63 L (psh q.1 st) q.2 := R_iv (av := [.int y0]) d_MFi_takeFrom_60 fc_2_32 hO (ckS_le hc) rfl (Nat.le_of_ble_eq_true rfl) (Nat.le_of_ble_eq_true rfl)
theorem r_MFi_takeFrom_63 {x : Int64} : Rr X d MFi_takeFrom 63 L (.long x :: st) h = Rr X d MFi_takeFrom 64 L (.int x.toInt32 :: st) h := Rr_nx d_MFi_takeFrom_63 rfl
theorem r_MFi_takeFrom_64 {l0 l1 l2 l3 l4 l5 l6 l7 l8 : Value} {x : Int32} : Rr X d MFi_takeFrom 64 [l0, l1, l2, l3, l4, l5, l6, l7, l8] (.int x :: st) h = Rr X d MFi_takeFrom 66 (sL [l0, l1, l2, l3, l4, l5, l6, l7, l8] 8 (.int x)) st h := Rr_nx d_MFi_takeFrom_64 rfl
theorem r_MFi_takeFrom_66 {l1 l2 l3 l4 l5 l6 l7 l8 : Value} {x : Nat} : Rr X d MFi_takeFrom 66 [.ref x, l1, l2, l3, l4, l5, l6, l7, l8] st h = Rr X d MFi_takeFrom 67 [.ref x, l1, l2, l3, l4, l5, l6, l7, l8] (.ref x :: st) h := Rr_nx d_MFi_takeFrom_66 rfl
theorem r_MFi_takeFrom_67 {l0 l1 l2 l3 l4 l5 l6 l8 : Value} {x : Int32} : Rr X d MFi_takeFrom 67 [l0, l1, l2, l3, l4, l5, l6, .int x, l8] st h = Rr X d MFi_takeFrom 69 [l0, l1, l2, l3, l4, l5, l6, .int x, l8] (.int x :: st) h := Rr_nx d_MFi_takeFrom_67 rfl
theorem r_MFi_takeFrom_69 {l0 l1 l2 l3 l4 l5 l6 l7 : Value} {x : Int32} : Rr X d MFi_takeFrom 69 [l0, l1, l2, l3, l4, l5, l6, l7, .int x] st h = Rr X d MFi_takeFrom 71 [l0, l1, l2, l3, l4, l5, l6, l7, .int x] (.int x :: st) h := Rr_nx d_MFi_takeFrom_69 rfl
theorem fc_2_36 : fC 2 36 = some (0, 2, 2, MFi_mayCome) := rfl
theorem r_MFi_takeFrom_71 {y0 : Int32} {y1 : Int32} {a : Nat} (hO : qO a 2 = true) (hc : ckS st = true) : Rr X (d + 1) MFi_takeFrom 71 L (.int y1 :: .int y0 :: .ref a :: st) (Wd mu la ro et) = (Rr X d MFi_mayCome 0 [.ref a, .int y0, .int y1, mkU] [] (Wd mu la ro et)).bind fun q => Rr X (d + 1) MFi_takeFrom 74 L (psh q.1 st) q.2 := R_iv (av := [.int y1, .int y0]) d_MFi_takeFrom_71 fc_2_36 hO (ckS_le hc) rfl (Nat.le_of_ble_eq_true rfl) (Nat.le_of_ble_eq_true rfl)
theorem r_MFi_takeFrom_74 {x : Int32} : Rr X d MFi_takeFrom 74 L (.int x :: st) h = if x = 0 then Rr X d MFi_takeFrom 92 L st h else Rr X d MFi_takeFrom 77 L st h := R_if_eq d_MFi_takeFrom_74 (by decide)
theorem r_MFi_takeFrom_77 {l1 l2 l3 l4 l5 l6 l7 l8 : Value} {x : Nat} : Rr X d MFi_takeFrom 77 [.ref x, l1, l2, l3, l4, l5, l6, l7, l8] st h = Rr X d MFi_takeFrom 78 [.ref x, l1, l2, l3, l4, l5, l6, l7, l8] (.ref x :: st) h := Rr_nx d_MFi_takeFrom_77 rfl
theorem r_MFi_takeFrom_78 {l0 l1 l2 l3 l4 l5 l6 l8 : Value} {x : Int32} : Rr X d MFi_takeFrom 78 [l0, l1, l2, l3, l4, l5, l6, .int x, l8] st h = Rr X d MFi_takeFrom 80 [l0, l1, l2, l3, l4, l5, l6, .int x, l8] (.int x :: st) h := Rr_nx d_MFi_takeFrom_78 rfl
theorem r_MFi_takeFrom_80 {l0 l1 l2 l3 l4 l5 l6 l7 : Value} {x : Int32} : Rr X d MFi_takeFrom 80 [l0, l1, l2, l3, l4, l5, l6, l7, .int x] st h = Rr X d MFi_takeFrom 82 [l0, l1, l2, l3, l4, l5, l6, l7, .int x] (.int x :: st) h := Rr_nx d_MFi_takeFrom_80 rfl
theorem fc_2_39 : fC 2 39 = some (0, 2, 2, MFi_append) := rfl
theorem r_MFi_takeFrom_82 {y0 : Int32} {y1 : Int32} {a : Nat} (hO : qO a 2 = true) (hc : ckS st = true) : Rr X (d + 1) MFi_takeFrom 82 L (.int y1 :: .int y0 :: .ref a :: st) (Wd mu la ro et) = (Rr X d MFi_append 0 [.ref a, .int y0, .int y1] [] (Wd mu la ro et)).bind fun q => Rr X (d + 1) MFi_takeFrom 85 L (psh q.1 st) q.2 := R_iv (av := [.int y1, .int y0]) d_MFi_takeFrom_82 fc_2_39 hO (ckS_le hc) rfl (Nat.le_of_ble_eq_true rfl) (Nat.le_of_ble_eq_true rfl)
theorem r_MFi_takeFrom_85 {x : Int32} : Rr X d MFi_takeFrom 85 L (.int x :: st) h = if x = 0 then Rr X d MFi_takeFrom 92 L st h else Rr X d MFi_takeFrom 88 L st h := R_if_eq d_MFi_takeFrom_85 (by decide)
theorem r_MFi_takeFrom_88 : Rr X d MFi_takeFrom 88 L st h = Rr X d MFi_takeFrom 89 L (.int (1) :: st) h := Rr_nx d_MFi_takeFrom_88 rfl
theorem r_MFi_takeFrom_89 : Rr X d MFi_takeFrom 89 L st h = Rr X d MFi_takeFrom 93 L st h := R_goto d_MFi_takeFrom_89 (by decide)
theorem r_MFi_takeFrom_92 : Rr X d MFi_takeFrom 92 L st h = Rr X d MFi_takeFrom 93 L (.int (0) :: st) h := Rr_nx d_MFi_takeFrom_92 rfl
theorem r_MFi_takeFrom_93 {l0 l1 l2 l3 l4 l5 l6 l7 l8 : Value} {x : Int32} : Rr X d MFi_takeFrom 93 [l0, l1, l2, l3, l4, l5, l6, l7, l8] (.int x :: st) h = Rr X d MFi_takeFrom 95 (sL [l0, l1, l2, l3, l4, l5, l6, l7, l8] 5 (.int x)) st h := Rr_nx d_MFi_takeFrom_93 rfl
theorem r_MFi_takeFrom_95 {l0 l1 l2 l3 l5 l6 l7 l8 : Value} {x : Int32} : Rr X d MFi_takeFrom 95 [l0, l1, l2, l3, .int x, l5, l6, l7, l8] st h = Rr X d MFi_takeFrom 97 [l0, l1, l2, l3, .int x, l5, l6, l7, l8] (.int x :: st) h := Rr_nx d_MFi_takeFrom_95 rfl
theorem r_MFi_takeFrom_97 {l0 l1 l2 l3 l4 l6 l7 l8 : Value} {x : Int32} : Rr X d MFi_takeFrom 97 [l0, l1, l2, l3, l4, .int x, l6, l7, l8] st h = Rr X d MFi_takeFrom 99 [l0, l1, l2, l3, l4, .int x, l6, l7, l8] (.int x :: st) h := Rr_nx d_MFi_takeFrom_97 rfl
theorem r_MFi_takeFrom_99 {x : Int32} : Rr X d MFi_takeFrom 99 L (.int x :: st) h = if x = 0 then Rr X d MFi_takeFrom 106 L st h else Rr X d MFi_takeFrom 102 L st h := R_if_eq d_MFi_takeFrom_99 (by decide)
theorem r_MFi_takeFrom_102 : Rr X d MFi_takeFrom 102 L st h = Rr X d MFi_takeFrom 103 L (.int (1) :: st) h := Rr_nx d_MFi_takeFrom_102 rfl
theorem r_MFi_takeFrom_103 : Rr X d MFi_takeFrom 103 L st h = Rr X d MFi_takeFrom 107 L st h := R_goto d_MFi_takeFrom_103 (by decide)
theorem r_MFi_takeFrom_106 : Rr X d MFi_takeFrom 106 L st h = Rr X d MFi_takeFrom 107 L (.int (0) :: st) h := Rr_nx d_MFi_takeFrom_106 rfl
theorem r_MFi_takeFrom_107 {x y : Int32} : Rr X d MFi_takeFrom 107 L (.int y :: .int x :: st) h = Rr X d MFi_takeFrom 108 L (.int (x + y) :: st) h := Rr_nx d_MFi_takeFrom_107 rfl
theorem r_MFi_takeFrom_108 {l0 l1 l2 l3 l4 l5 l6 l7 l8 : Value} {x : Int32} : Rr X d MFi_takeFrom 108 [l0, l1, l2, l3, l4, l5, l6, l7, l8] (.int x :: st) h = Rr X d MFi_takeFrom 110 (sL [l0, l1, l2, l3, l4, l5, l6, l7, l8] 4 (.int x)) st h := Rr_nx d_MFi_takeFrom_108 rfl
theorem r_MFi_takeFrom_110 {l0 l1 l2 l3 l4 l5 l7 l8 : Value} {x : Int32} : Rr X d MFi_takeFrom 110 [l0, l1, l2, l3, l4, l5, .int x, l7, l8] st h = Rr X d MFi_takeFrom 113 (sL [l0, l1, l2, l3, l4, l5, .int x, l7, l8] 6 (.int (x + (1)))) st h := Rr_nx d_MFi_takeFrom_110 rfl
theorem r_MFi_takeFrom_113 : Rr X d MFi_takeFrom 113 L st h = Rr X d MFi_takeFrom 9 L st h := R_goto d_MFi_takeFrom_113 (by decide)
theorem r_MFi_takeFrom_116 {l0 l1 l2 l3 l5 l6 l7 l8 : Value} {x : Int32} : Rr X d MFi_takeFrom 116 [l0, l1, l2, l3, .int x, l5, l6, l7, l8] st h = Rr X d MFi_takeFrom 118 [l0, l1, l2, l3, .int x, l5, l6, l7, l8] (.int x :: st) h := Rr_nx d_MFi_takeFrom_116 rfl
theorem r_MFi_takeFrom_118 {x : Int32} : Rr X d MFi_takeFrom 118 L [.int x] h = some (some (.int x), h) := R_ir d_MFi_takeFrom_118 rfl
theorem d_MTo_frame_0 : decode MTo_frame.2.2.1 0 = .ok (.aload_n 0, 1) := lkT_ok tk_MTo_frame rfl
theorem d_MTo_frame_1 : decode MTo_frame.2.2.1 1 = .ok (.getfield 51, 3) := lkT_ok tk_MTo_frame rfl
theorem d_MTo_frame_4 : decode MTo_frame.2.2.1 4 = .ok (.iload_n 1, 1) := lkT_ok tk_MTo_frame rfl
theorem d_MTo_frame_5 : decode MTo_frame.2.2.1 5 = .ok (.iload_n 2, 1) := lkT_ok tk_MTo_frame rfl
theorem d_MTo_frame_6 : decode MTo_frame.2.2.1 6 = .ok (.invokevirtual 206, 3) := lkT_ok tk_MTo_frame rfl
theorem d_MTo_frame_9 : decode MTo_frame.2.2.1 9 = .ok (.ifCond .ne 5, 3) := lkT_ok tk_MTo_frame rfl
theorem d_MTo_frame_12 : decode MTo_frame.2.2.1 12 = .ok (.iconst (-1), 1) := lkT_ok tk_MTo_frame rfl
theorem d_MTo_frame_13 : decode MTo_frame.2.2.1 13 = .ok (.ireturn, 1) := lkT_ok tk_MTo_frame rfl
theorem d_MTo_frame_14 : decode MTo_frame.2.2.1 14 = .ok (.aload_n 0, 1) := lkT_ok tk_MTo_frame rfl
theorem d_MTo_frame_15 : decode MTo_frame.2.2.1 15 = .ok (.getfield 51, 3) := lkT_ok tk_MTo_frame rfl
theorem d_MTo_frame_18 : decode MTo_frame.2.2.1 18 = .ok (.iload_n 1, 1) := lkT_ok tk_MTo_frame rfl
theorem d_MTo_frame_19 : decode MTo_frame.2.2.1 19 = .ok (.iload_n 2, 1) := lkT_ok tk_MTo_frame rfl
theorem d_MTo_frame_20 : decode MTo_frame.2.2.1 20 = .ok (.invokevirtual 209, 3) := lkT_ok tk_MTo_frame rfl
theorem d_MTo_frame_23 : decode MTo_frame.2.2.1 23 = .ok (.ifCond .eq 15, 3) := lkT_ok tk_MTo_frame rfl
theorem d_MTo_frame_26 : decode MTo_frame.2.2.1 26 = .ok (.aload_n 0, 1) := lkT_ok tk_MTo_frame rfl
theorem d_MTo_frame_27 : decode MTo_frame.2.2.1 27 = .ok (.getfield 51, 3) := lkT_ok tk_MTo_frame rfl
theorem d_MTo_frame_30 : decode MTo_frame.2.2.1 30 = .ok (.getfield 211, 3) := lkT_ok tk_MTo_frame rfl
theorem d_MTo_frame_33 : decode MTo_frame.2.2.1 33 = .ok (.iconst 1, 1) := lkT_ok tk_MTo_frame rfl
theorem d_MTo_frame_34 : decode MTo_frame.2.2.1 34 = .ok (.isub, 1) := lkT_ok tk_MTo_frame rfl
theorem d_MTo_frame_35 : decode MTo_frame.2.2.1 35 = .ok (.goto 5, 3) := lkT_ok tk_MTo_frame rfl
theorem d_MTo_frame_38 : decode MTo_frame.2.2.1 38 = .ok (.bipush (-3), 2) := lkT_ok tk_MTo_frame rfl
theorem d_MTo_frame_40 : decode MTo_frame.2.2.1 40 = .ok (.ireturn, 1) := lkT_ok tk_MTo_frame rfl
theorem r_MTo_frame_0 {l1 l2 : Value} {x : Nat} : Rr X d MTo_frame 0 [.ref x, l1, l2] st h = Rr X d MTo_frame 1 [.ref x, l1, l2] (.ref x :: st) h := Rr_nx d_MTo_frame_0 rfl
theorem ff_9_51 : fF 9 51 = some (9, 6, 1, 1) := rfl
theorem r_MTo_frame_1 {a : Nat} (hq : (qR a 9 6).isSome = true) : Rr X d MTo_frame 1 L (.ref a :: st) (Wd mu la ro et) = Rr X d MTo_frame 4 L (.ref (qRd a 9 6) :: st) (Wd mu la ro et) := R_gfR d_MTo_frame_1 ff_9_51 hq
theorem r_MTo_frame_4 {l0 l2 : Value} {x : Int32} : Rr X d MTo_frame 4 [l0, .int x, l2] st h = Rr X d MTo_frame 5 [l0, .int x, l2] (.int x :: st) h := Rr_nx d_MTo_frame_4 rfl
theorem r_MTo_frame_5 {l0 l1 : Value} {x : Int32} : Rr X d MTo_frame 5 [l0, l1, .int x] st h = Rr X d MTo_frame 6 [l0, l1, .int x] (.int x :: st) h := Rr_nx d_MTo_frame_5 rfl
theorem fc_9_206 : fC 9 206 = some (0, 2, 2, MFi_mayCome) := rfl
theorem r_MTo_frame_6 {y0 : Int32} {y1 : Int32} {a : Nat} (hO : qO a 2 = true) (hc : ckS st = true) : Rr X (d + 1) MTo_frame 6 L (.int y1 :: .int y0 :: .ref a :: st) (Wd mu la ro et) = (Rr X d MFi_mayCome 0 [.ref a, .int y0, .int y1, mkU] [] (Wd mu la ro et)).bind fun q => Rr X (d + 1) MTo_frame 9 L (psh q.1 st) q.2 := R_iv (av := [.int y1, .int y0]) d_MTo_frame_6 fc_9_206 hO (ckS_le hc) rfl (Nat.le_of_ble_eq_true rfl) (Nat.le_of_ble_eq_true rfl)
theorem r_MTo_frame_9 {x : Int32} : Rr X d MTo_frame 9 L (.int x :: st) h = if ¬ x = 0 then Rr X d MTo_frame 14 L st h else Rr X d MTo_frame 12 L st h := R_if_ne d_MTo_frame_9 (by decide)
theorem r_MTo_frame_12 : Rr X d MTo_frame 12 L st h = Rr X d MTo_frame 13 L (.int (-1) :: st) h := Rr_nx d_MTo_frame_12 rfl
theorem r_MTo_frame_13 {x : Int32} : Rr X d MTo_frame 13 L [.int x] h = some (some (.int x), h) := R_ir d_MTo_frame_13 rfl
theorem r_MTo_frame_14 {l1 l2 : Value} {x : Nat} : Rr X d MTo_frame 14 [.ref x, l1, l2] st h = Rr X d MTo_frame 15 [.ref x, l1, l2] (.ref x :: st) h := Rr_nx d_MTo_frame_14 rfl
theorem r_MTo_frame_15 {a : Nat} (hq : (qR a 9 6).isSome = true) : Rr X d MTo_frame 15 L (.ref a :: st) (Wd mu la ro et) = Rr X d MTo_frame 18 L (.ref (qRd a 9 6) :: st) (Wd mu la ro et) := R_gfR d_MTo_frame_15 ff_9_51 hq
theorem r_MTo_frame_18 {l0 l2 : Value} {x : Int32} : Rr X d MTo_frame 18 [l0, .int x, l2] st h = Rr X d MTo_frame 19 [l0, .int x, l2] (.int x :: st) h := Rr_nx d_MTo_frame_18 rfl
theorem r_MTo_frame_19 {l0 l1 : Value} {x : Int32} : Rr X d MTo_frame 19 [l0, l1, .int x] st h = Rr X d MTo_frame 20 [l0, l1, .int x] (.int x :: st) h := Rr_nx d_MTo_frame_19 rfl
theorem fc_9_209 : fC 9 209 = some (0, 2, 2, MFi_append) := rfl
theorem r_MTo_frame_20 {y0 : Int32} {y1 : Int32} {a : Nat} (hO : qO a 2 = true) (hc : ckS st = true) : Rr X (d + 1) MTo_frame 20 L (.int y1 :: .int y0 :: .ref a :: st) (Wd mu la ro et) = (Rr X d MFi_append 0 [.ref a, .int y0, .int y1] [] (Wd mu la ro et)).bind fun q => Rr X (d + 1) MTo_frame 23 L (psh q.1 st) q.2 := R_iv (av := [.int y1, .int y0]) d_MTo_frame_20 fc_9_209 hO (ckS_le hc) rfl (Nat.le_of_ble_eq_true rfl) (Nat.le_of_ble_eq_true rfl)
theorem r_MTo_frame_23 {x : Int32} : Rr X d MTo_frame 23 L (.int x :: st) h = if x = 0 then Rr X d MTo_frame 38 L st h else Rr X d MTo_frame 26 L st h := R_if_eq d_MTo_frame_23 (by decide)
theorem r_MTo_frame_26 {l1 l2 : Value} {x : Nat} : Rr X d MTo_frame 26 [.ref x, l1, l2] st h = Rr X d MTo_frame 27 [.ref x, l1, l2] (.ref x :: st) h := Rr_nx d_MTo_frame_26 rfl
theorem r_MTo_frame_27 {a : Nat} (hq : (qR a 9 6).isSome = true) : Rr X d MTo_frame 27 L (.ref a :: st) (Wd mu la ro et) = Rr X d MTo_frame 30 L (.ref (qRd a 9 6) :: st) (Wd mu la ro et) := R_gfR d_MTo_frame_27 ff_9_51 hq
theorem ff_9_211 : fF 9 211 = some (2, 2, 0, 0) := rfl
theorem r_MTo_frame_30 {a : Nat} (hq : qI a 2 2 = true) : Rr X d MTo_frame 30 L (.ref a :: st) (Wd mu la ro et) = Rr X d MTo_frame 33 L (.int (mu a 2) :: st) (Wd mu la ro et) := R_gfI d_MTo_frame_30 ff_9_211 hq
theorem r_MTo_frame_33 : Rr X d MTo_frame 33 L st h = Rr X d MTo_frame 34 L (.int (1) :: st) h := Rr_nx d_MTo_frame_33 rfl
theorem r_MTo_frame_34 {x y : Int32} : Rr X d MTo_frame 34 L (.int y :: .int x :: st) h = Rr X d MTo_frame 35 L (.int (x - y) :: st) h := Rr_nx d_MTo_frame_34 rfl
theorem r_MTo_frame_35 : Rr X d MTo_frame 35 L st h = Rr X d MTo_frame 40 L st h := R_goto d_MTo_frame_35 (by decide)
theorem r_MTo_frame_38 : Rr X d MTo_frame 38 L st h = Rr X d MTo_frame 40 L (.int (-3) :: st) h := Rr_nx d_MTo_frame_38 rfl
theorem r_MTo_frame_40 {x : Int32} : Rr X d MTo_frame 40 L [.int x] h = some (some (.int x), h) := R_ir d_MTo_frame_40 rfl
theorem d_MTo_frames_0 : decode MTo_frames.2.2.1 0 = .ok (.aload_n 0, 1) := lkT_ok tk_MTo_frames rfl
theorem d_MTo_frames_1 : decode MTo_frames.2.2.1 1 = .ok (.iload_n 1, 1) := lkT_ok tk_MTo_frames rfl
theorem d_MTo_frames_2 : decode MTo_frames.2.2.1 2 = .ok (.invokevirtual 212, 3) := lkT_ok tk_MTo_frames rfl
theorem d_MTo_frames_5 : decode MTo_frames.2.2.1 5 = .ok (.astore 4, 2) := lkT_ok tk_MTo_frames rfl
theorem d_MTo_frames_7 : decode MTo_frames.2.2.1 7 = .ok (.aload 4, 2) := lkT_ok tk_MTo_frames rfl
theorem d_MTo_frames_9 : decode MTo_frames.2.2.1 9 = .ok (.ifnull 13, 3) := lkT_ok tk_MTo_frames rfl
theorem d_MTo_frames_12 : decode MTo_frames.2.2.1 12 = .ok (.iload_n 3, 1) := lkT_ok tk_MTo_frames rfl
theorem d_MTo_frames_13 : decode MTo_frames.2.2.1 13 = .ok (.iconst 1, 1) := lkT_ok tk_MTo_frames rfl
theorem d_MTo_frames_14 : decode MTo_frames.2.2.1 14 = .ok (.bipush 30, 2) := lkT_ok tk_MTo_frames rfl
theorem d_MTo_frames_16 : decode MTo_frames.2.2.1 16 = .ok (.invokestatic 72, 3) := lkT_ok tk_MTo_frames rfl
theorem d_MTo_frames_19 : decode MTo_frames.2.2.1 19 = .ok (.ifCond .ne 5, 3) := lkT_ok tk_MTo_frames rfl
theorem d_MTo_frames_22 : decode MTo_frames.2.2.1 22 = .ok (.iconst (-1), 1) := lkT_ok tk_MTo_frames rfl
theorem d_MTo_frames_23 : decode MTo_frames.2.2.1 23 = .ok (.ireturn, 1) := lkT_ok tk_MTo_frames rfl
theorem d_MTo_frames_24 : decode MTo_frames.2.2.1 24 = .ok (.aload 4, 2) := lkT_ok tk_MTo_frames rfl
theorem d_MTo_frames_26 : decode MTo_frames.2.2.1 26 = .ok (.invokevirtual 216, 3) := lkT_ok tk_MTo_frames rfl
theorem d_MTo_frames_29 : decode MTo_frames.2.2.1 29 = .ok (.ifCond .ne 15, 3) := lkT_ok tk_MTo_frames rfl
theorem d_MTo_frames_32 : decode MTo_frames.2.2.1 32 = .ok (.aload 4, 2) := lkT_ok tk_MTo_frames rfl
theorem d_MTo_frames_34 : decode MTo_frames.2.2.1 34 = .ok (.iconst 1, 1) := lkT_ok tk_MTo_frames rfl
theorem d_MTo_frames_35 : decode MTo_frames.2.2.1 35 = .ok (.invokevirtual 219, 3) := lkT_ok tk_MTo_frames rfl
theorem d_MTo_frames_38 : decode MTo_frames.2.2.1 38 = .ok (.ifCond .ne 6, 3) := lkT_ok tk_MTo_frames rfl
theorem d_MTo_frames_41 : decode MTo_frames.2.2.1 41 = .ok (.bipush (-12), 2) := lkT_ok tk_MTo_frames rfl
theorem d_MTo_frames_43 : decode MTo_frames.2.2.1 43 = .ok (.ireturn, 1) := lkT_ok tk_MTo_frames rfl
theorem d_MTo_frames_44 : decode MTo_frames.2.2.1 44 = .ok (.aload 4, 2) := lkT_ok tk_MTo_frames rfl
theorem d_MTo_frames_46 : decode MTo_frames.2.2.1 46 = .ok (.invokevirtual 216, 3) := lkT_ok tk_MTo_frames rfl
theorem d_MTo_frames_49 : decode MTo_frames.2.2.1 49 = .ok (.ifCond .ne 7, 3) := lkT_ok tk_MTo_frames rfl
theorem d_MTo_frames_52 : decode MTo_frames.2.2.1 52 = .ok (.iload_n 2, 1) := lkT_ok tk_MTo_frames rfl
theorem d_MTo_frames_53 : decode MTo_frames.2.2.1 53 = .ok (.ifCond .ge 7, 3) := lkT_ok tk_MTo_frames rfl
theorem d_MTo_frames_56 : decode MTo_frames.2.2.1 56 = .ok (.iconst 0, 1) := lkT_ok tk_MTo_frames rfl
theorem d_MTo_frames_57 : decode MTo_frames.2.2.1 57 = .ok (.goto 14, 3) := lkT_ok tk_MTo_frames rfl
theorem d_MTo_frames_60 : decode MTo_frames.2.2.1 60 = .ok (.aload_n 0, 1) := lkT_ok tk_MTo_frames rfl
theorem d_MTo_frames_61 : decode MTo_frames.2.2.1 61 = .ok (.getfield 51, 3) := lkT_ok tk_MTo_frames rfl
theorem d_MTo_frames_64 : decode MTo_frames.2.2.1 64 = .ok (.aload 4, 2) := lkT_ok tk_MTo_frames rfl
theorem d_MTo_frames_66 : decode MTo_frames.2.2.1 66 = .ok (.iload_n 2, 1) := lkT_ok tk_MTo_frames rfl
theorem d_MTo_frames_67 : decode MTo_frames.2.2.1 67 = .ok (.iload_n 3, 1) := lkT_ok tk_MTo_frames rfl
theorem d_MTo_frames_68 : decode MTo_frames.2.2.1 68 = .ok (.invokevirtual 222, 3) := lkT_ok tk_MTo_frames rfl
theorem d_MTo_frames_71 : decode MTo_frames.2.2.1 71 = .ok (.ireturn, 1) := lkT_ok tk_MTo_frames rfl
theorem r_MTo_frames_0 {l1 l2 l3 l4 : Value} {x : Nat} : Rr X d MTo_frames 0 [.ref x, l1, l2, l3, l4] st h = Rr X d MTo_frames 1 [.ref x, l1, l2, l3, l4] (.ref x :: st) h := Rr_nx d_MTo_frames_0 rfl
theorem r_MTo_frames_1 {l0 l2 l3 l4 : Value} {x : Int32} : Rr X d MTo_frames 1 [l0, .int x, l2, l3, l4] st h = Rr X d MTo_frames 2 [l0, .int x, l2, l3, l4] (.int x :: st) h := Rr_nx d_MTo_frames_1 rfl
theorem r_MTo_frames_2 {y0 : Int32} {a : Nat} (hO : qO a 9 = true) (hc : ckS st = true) : Rr X (d + 1) MTo_frames 2 L (.int y0 :: .ref a :: st) (Wd mu la ro et) = (Rr X d MTo_shelfAt 0 [.ref a, .int y0] [] (Wd mu la ro et)).bind fun q => Rr X (d + 1) MTo_frames 5 L (psh q.1 st) q.2 := R_iv (av := [.int y0]) d_MTo_frames_2 fc_9_212 hO (ckS_le hc) rfl (Nat.le_of_ble_eq_true rfl) (Nat.le_of_ble_eq_true rfl)
theorem r_MTo_frames_5 {l0 l1 l2 l3 l4 : Value} {x : Nat} : Rr X d MTo_frames 5 [l0, l1, l2, l3, l4] (.ref x :: st) h = Rr X d MTo_frames 7 (sL [l0, l1, l2, l3, l4] 4 (.ref x)) st h := Rr_nx d_MTo_frames_5 rfl
theorem r_MTo_frames_5n {l0 l1 l2 l3 l4 : Value} : Rr X d MTo_frames 5 [l0, l1, l2, l3, l4] (.null :: st) h = Rr X d MTo_frames 7 (sL [l0, l1, l2, l3, l4] 4 .null) st h := Rr_nx d_MTo_frames_5 rfl
theorem r_MTo_frames_7 {l0 l1 l2 l3 : Value} {x : Nat} : Rr X d MTo_frames 7 [l0, l1, l2, l3, .ref x] st h = Rr X d MTo_frames 9 [l0, l1, l2, l3, .ref x] (.ref x :: st) h := Rr_nx d_MTo_frames_7 rfl
theorem r_MTo_frames_7n {l0 l1 l2 l3 : Value} : Rr X d MTo_frames 7 [l0, l1, l2, l3, .null] st h = Rr X d MTo_frames 9 [l0, l1, l2, l3, .null] (.null :: st) h := Rr_nx d_MTo_frames_7 rfl
theorem r_MTo_frames_9 {x : Nat} : Rr X d MTo_frames 9 L (.ref x :: st) h = Rr X d MTo_frames 12 L st h := R_nul1 d_MTo_frames_9
theorem r_MTo_frames_9n : Rr X d MTo_frames 9 L (.null :: st) h = Rr X d MTo_frames 22 L st h := R_nul0 d_MTo_frames_9 (by decide)
theorem r_MTo_frames_12 {l0 l1 l2 l4 : Value} {x : Int32} : Rr X d MTo_frames 12 [l0, l1, l2, .int x, l4] st h = Rr X d MTo_frames 13 [l0, l1, l2, .int x, l4] (.int x :: st) h := Rr_nx d_MTo_frames_12 rfl
theorem r_MTo_frames_13 : Rr X d MTo_frames 13 L st h = Rr X d MTo_frames 14 L (.int (1) :: st) h := Rr_nx d_MTo_frames_13 rfl
theorem r_MTo_frames_14 : Rr X d MTo_frames 14 L st h = Rr X d MTo_frames 16 L (.int (30) :: st) h := Rr_nx d_MTo_frames_14 rfl
theorem r_MTo_frames_16 {y0 : Int32} {y1 : Int32} {y2 : Int32} (hc : ckS st = true) : Rr X (d + 1) MTo_frames 16 L (.int y2 :: .int y1 :: .int y0 :: st) h = (Rr X d MTo_isWithin 0 [.int y0, .int y1, .int y2] [] h).bind fun q => Rr X (d + 1) MTo_frames 19 L (psh q.1 st) q.2 := R_is (av := [.int y2, .int y1, .int y0]) d_MTo_frames_16 (Or.inl fc_9_72) (ckS_le hc) rfl (Nat.le_of_ble_eq_true rfl) (Nat.le_of_ble_eq_true rfl)
theorem r_MTo_frames_19 {x : Int32} : Rr X d MTo_frames 19 L (.int x :: st) h = if ¬ x = 0 then Rr X d MTo_frames 24 L st h else Rr X d MTo_frames 22 L st h := R_if_ne d_MTo_frames_19 (by decide)
theorem r_MTo_frames_22 : Rr X d MTo_frames 22 L st h = Rr X d MTo_frames 23 L (.int (-1) :: st) h := Rr_nx d_MTo_frames_22 rfl
theorem r_MTo_frames_23 {x : Int32} : Rr X d MTo_frames 23 L [.int x] h = some (some (.int x), h) := R_ir d_MTo_frames_23 rfl
theorem r_MTo_frames_24 {l0 l1 l2 l3 : Value} {x : Nat} : Rr X d MTo_frames 24 [l0, l1, l2, l3, .ref x] st h = Rr X d MTo_frames 26 [l0, l1, l2, l3, .ref x] (.ref x :: st) h := Rr_nx d_MTo_frames_24 rfl
theorem r_MTo_frames_24n {l0 l1 l2 l3 : Value} : Rr X d MTo_frames 24 [l0, l1, l2, l3, .null] st h = Rr X d MTo_frames 26 [l0, l1, l2, l3, .null] (.null :: st) h := Rr_nx d_MTo_frames_24 rfl
theorem r_MTo_frames_26 {a : Nat} (hO : qO a 6 = true) (hc : ckS st = true) : Rr X (d + 1) MTo_frames 26 L (.ref a :: st) (Wd mu la ro et) = (Rr X d MSh_isEmpty 0 [.ref a] [] (Wd mu la ro et)).bind fun q => Rr X (d + 1) MTo_frames 29 L (psh q.1 st) q.2 := R_iv (av := []) d_MTo_frames_26 fc_9_216 hO (ckS_le hc) rfl (Nat.le_of_ble_eq_true rfl) (Nat.le_of_ble_eq_true rfl)
theorem r_MTo_frames_29 {x : Int32} : Rr X d MTo_frames 29 L (.int x :: st) h = if ¬ x = 0 then Rr X d MTo_frames 44 L st h else Rr X d MTo_frames 32 L st h := R_if_ne d_MTo_frames_29 (by decide)
theorem r_MTo_frames_32 {l0 l1 l2 l3 : Value} {x : Nat} : Rr X d MTo_frames 32 [l0, l1, l2, l3, .ref x] st h = Rr X d MTo_frames 34 [l0, l1, l2, l3, .ref x] (.ref x :: st) h := Rr_nx d_MTo_frames_32 rfl
theorem r_MTo_frames_32n {l0 l1 l2 l3 : Value} : Rr X d MTo_frames 32 [l0, l1, l2, l3, .null] st h = Rr X d MTo_frames 34 [l0, l1, l2, l3, .null] (.null :: st) h := Rr_nx d_MTo_frames_32 rfl
theorem r_MTo_frames_34 : Rr X d MTo_frames 34 L st h = Rr X d MTo_frames 35 L (.int (1) :: st) h := Rr_nx d_MTo_frames_34 rfl
theorem r_MTo_frames_35 {y0 : Int32} {a : Nat} (hO : qO a 6 = true) (hc : ckS st = true) : Rr X (d + 1) MTo_frames 35 L (.int y0 :: .ref a :: st) (Wd mu la ro et) = (Rr X d MSh_isRowOf 0 [.ref a, .int y0] [] (Wd mu la ro et)).bind fun q => Rr X (d + 1) MTo_frames 38 L (psh q.1 st) q.2 := R_iv (av := [.int y0]) d_MTo_frames_35 fc_9_219 hO (ckS_le hc) rfl (Nat.le_of_ble_eq_true rfl) (Nat.le_of_ble_eq_true rfl)
theorem r_MTo_frames_38 {x : Int32} : Rr X d MTo_frames 38 L (.int x :: st) h = if ¬ x = 0 then Rr X d MTo_frames 44 L st h else Rr X d MTo_frames 41 L st h := R_if_ne d_MTo_frames_38 (by decide)
theorem r_MTo_frames_41 : Rr X d MTo_frames 41 L st h = Rr X d MTo_frames 43 L (.int (-12) :: st) h := Rr_nx d_MTo_frames_41 rfl
theorem r_MTo_frames_43 {x : Int32} : Rr X d MTo_frames 43 L [.int x] h = some (some (.int x), h) := R_ir d_MTo_frames_43 rfl
theorem r_MTo_frames_44 {l0 l1 l2 l3 : Value} {x : Nat} : Rr X d MTo_frames 44 [l0, l1, l2, l3, .ref x] st h = Rr X d MTo_frames 46 [l0, l1, l2, l3, .ref x] (.ref x :: st) h := Rr_nx d_MTo_frames_44 rfl
theorem r_MTo_frames_44n {l0 l1 l2 l3 : Value} : Rr X d MTo_frames 44 [l0, l1, l2, l3, .null] st h = Rr X d MTo_frames 46 [l0, l1, l2, l3, .null] (.null :: st) h := Rr_nx d_MTo_frames_44 rfl
theorem r_MTo_frames_46 {a : Nat} (hO : qO a 6 = true) (hc : ckS st = true) : Rr X (d + 1) MTo_frames 46 L (.ref a :: st) (Wd mu la ro et) = (Rr X d MSh_isEmpty 0 [.ref a] [] (Wd mu la ro et)).bind fun q => Rr X (d + 1) MTo_frames 49 L (psh q.1 st) q.2 := R_iv (av := []) d_MTo_frames_46 fc_9_216 hO (ckS_le hc) rfl (Nat.le_of_ble_eq_true rfl) (Nat.le_of_ble_eq_true rfl)
theorem r_MTo_frames_49 {x : Int32} : Rr X d MTo_frames 49 L (.int x :: st) h = if ¬ x = 0 then Rr X d MTo_frames 56 L st h else Rr X d MTo_frames 52 L st h := R_if_ne d_MTo_frames_49 (by decide)
theorem r_MTo_frames_52 {l0 l1 l3 l4 : Value} {x : Int32} : Rr X d MTo_frames 52 [l0, l1, .int x, l3, l4] st h = Rr X d MTo_frames 53 [l0, l1, .int x, l3, l4] (.int x :: st) h := Rr_nx d_MTo_frames_52 rfl
theorem r_MTo_frames_53 {x : Int32} : Rr X d MTo_frames 53 L (.int x :: st) h = if 0 ≤ x then Rr X d MTo_frames 60 L st h else Rr X d MTo_frames 56 L st h := R_if_ge d_MTo_frames_53 (by decide)
theorem r_MTo_frames_56 : Rr X d MTo_frames 56 L st h = Rr X d MTo_frames 57 L (.int (0) :: st) h := Rr_nx d_MTo_frames_56 rfl
theorem r_MTo_frames_57 : Rr X d MTo_frames 57 L st h = Rr X d MTo_frames 71 L st h := R_goto d_MTo_frames_57 (by decide)
theorem r_MTo_frames_60 {l1 l2 l3 l4 : Value} {x : Nat} : Rr X d MTo_frames 60 [.ref x, l1, l2, l3, l4] st h = Rr X d MTo_frames 61 [.ref x, l1, l2, l3, l4] (.ref x :: st) h := Rr_nx d_MTo_frames_60 rfl
theorem r_MTo_frames_61 {a : Nat} (hq : (qR a 9 6).isSome = true) : Rr X d MTo_frames 61 L (.ref a :: st) (Wd mu la ro et) = Rr X d MTo_frames 64 L (.ref (qRd a 9 6) :: st) (Wd mu la ro et) := R_gfR d_MTo_frames_61 ff_9_51 hq
theorem r_MTo_frames_64 {l0 l1 l2 l3 : Value} {x : Nat} : Rr X d MTo_frames 64 [l0, l1, l2, l3, .ref x] st h = Rr X d MTo_frames 66 [l0, l1, l2, l3, .ref x] (.ref x :: st) h := Rr_nx d_MTo_frames_64 rfl
theorem r_MTo_frames_64n {l0 l1 l2 l3 : Value} : Rr X d MTo_frames 64 [l0, l1, l2, l3, .null] st h = Rr X d MTo_frames 66 [l0, l1, l2, l3, .null] (.null :: st) h := Rr_nx d_MTo_frames_64 rfl
theorem r_MTo_frames_66 {l0 l1 l3 l4 : Value} {x : Int32} : Rr X d MTo_frames 66 [l0, l1, .int x, l3, l4] st h = Rr X d MTo_frames 67 [l0, l1, .int x, l3, l4] (.int x :: st) h := Rr_nx d_MTo_frames_66 rfl
theorem r_MTo_frames_67 {l0 l1 l2 l4 : Value} {x : Int32} : Rr X d MTo_frames 67 [l0, l1, l2, .int x, l4] st h = Rr X d MTo_frames 68 [l0, l1, l2, .int x, l4] (.int x :: st) h := Rr_nx d_MTo_frames_67 rfl
theorem fc_9_222 : fC 9 222 = some (0, 2, 3, MFi_takeFrom) := rfl
theorem r_MTo_frames_68 {y0 : Nat} {y1 : Int32} {y2 : Int32} {a : Nat} (hO : qO a 2 = true) (hc : ckS st = true) : Rr X (d + 1) MTo_frames 68 L (.int y2 :: .int y1 :: .ref y0 :: .ref a :: st) (Wd mu la ro et) = (Rr X d MFi_takeFrom 0 [.ref a, .ref y0, .int y1, .int y2, mkU, mkU, mkU, mkU, mkU] [] (Wd mu la ro et)).bind fun q => Rr X (d + 1) MTo_frames 71 L (psh q.1 st) q.2 := R_iv (av := [.int y2, .int y1, .ref y0]) d_MTo_frames_68 fc_9_222 hO (ckS_le hc) rfl (Nat.le_of_ble_eq_true rfl) (Nat.le_of_ble_eq_true rfl)
theorem r_MTo_frames_71 {x : Int32} : Rr X d MTo_frames 71 L [.int x] h = some (some (.int x), h) := R_ir d_MTo_frames_71 rfl
theorem d_MTo_cut_0 : decode MTo_cut.2.2.1 0 = .ok (.aload_n 0, 1) := lkT_ok tk_MTo_cut rfl
theorem d_MTo_cut_1 : decode MTo_cut.2.2.1 1 = .ok (.getfield 51, 3) := lkT_ok tk_MTo_cut rfl
theorem d_MTo_cut_4 : decode MTo_cut.2.2.1 4 = .ok (.getfield 211, 3) := lkT_ok tk_MTo_cut rfl
theorem d_MTo_cut_7 : decode MTo_cut.2.2.1 7 = .ok (.istore_n 1, 1) := lkT_ok tk_MTo_cut rfl
theorem d_MTo_cut_8 : decode MTo_cut.2.2.1 8 = .ok (.aload_n 0, 1) := lkT_ok tk_MTo_cut rfl
theorem d_MTo_cut_9 : decode MTo_cut.2.2.1 9 = .ok (.getfield 51, 3) := lkT_ok tk_MTo_cut rfl
theorem d_MTo_cut_12 : decode MTo_cut.2.2.1 12 = .ok (.iconst 0, 1) := lkT_ok tk_MTo_cut rfl
theorem d_MTo_cut_13 : decode MTo_cut.2.2.1 13 = .ok (.putfield 211, 3) := lkT_ok tk_MTo_cut rfl
theorem d_MTo_cut_16 : decode MTo_cut.2.2.1 16 = .ok (.iload_n 1, 1) := lkT_ok tk_MTo_cut rfl
theorem d_MTo_cut_17 : decode MTo_cut.2.2.1 17 = .ok (.ireturn, 1) := lkT_ok tk_MTo_cut rfl
theorem r_MTo_cut_0 {l1 : Value} {x : Nat} : Rr X d MTo_cut 0 [.ref x, l1] st h = Rr X d MTo_cut 1 [.ref x, l1] (.ref x :: st) h := Rr_nx d_MTo_cut_0 rfl
theorem r_MTo_cut_1 {a : Nat} (hq : (qR a 9 6).isSome = true) : Rr X d MTo_cut 1 L (.ref a :: st) (Wd mu la ro et) = Rr X d MTo_cut 4 L (.ref (qRd a 9 6) :: st) (Wd mu la ro et) := R_gfR d_MTo_cut_1 ff_9_51 hq
theorem r_MTo_cut_4 {a : Nat} (hq : qI a 2 2 = true) : Rr X d MTo_cut 4 L (.ref a :: st) (Wd mu la ro et) = Rr X d MTo_cut 7 L (.int (mu a 2) :: st) (Wd mu la ro et) := R_gfI d_MTo_cut_4 ff_9_211 hq
theorem r_MTo_cut_7 {l0 l1 : Value} {x : Int32} : Rr X d MTo_cut 7 [l0, l1] (.int x :: st) h = Rr X d MTo_cut 8 (sL [l0, l1] 1 (.int x)) st h := Rr_nx d_MTo_cut_7 rfl
theorem r_MTo_cut_8 {l1 : Value} {x : Nat} : Rr X d MTo_cut 8 [.ref x, l1] st h = Rr X d MTo_cut 9 [.ref x, l1] (.ref x :: st) h := Rr_nx d_MTo_cut_8 rfl
theorem r_MTo_cut_9 {a : Nat} (hq : (qR a 9 6).isSome = true) : Rr X d MTo_cut 9 L (.ref a :: st) (Wd mu la ro et) = Rr X d MTo_cut 12 L (.ref (qRd a 9 6) :: st) (Wd mu la ro et) := R_gfR d_MTo_cut_9 ff_9_51 hq
theorem r_MTo_cut_12 : Rr X d MTo_cut 12 L st h = Rr X d MTo_cut 13 L (.int (0) :: st) h := Rr_nx d_MTo_cut_12 rfl
theorem r_MTo_cut_13 {a : Nat} {x : Int32} (hq : qI a 2 2 = true) : Rr X d MTo_cut 13 L (.int x :: .ref a :: st) (Wd mu la ro et) = Rr X d MTo_cut 16 L st (Wd (up2 mu a 2 x) la ro et) := R_pfI d_MTo_cut_13 ff_9_211 hq
theorem r_MTo_cut_16 {l0 : Value} {x : Int32} : Rr X d MTo_cut 16 [l0, .int x] st h = Rr X d MTo_cut 17 [l0, .int x] (.int x :: st) h := Rr_nx d_MTo_cut_16 rfl
theorem r_MTo_cut_17 {x : Int32} : Rr X d MTo_cut 17 L [.int x] h = some (some (.int x), h) := R_ir d_MTo_cut_17 rfl
end RULES
