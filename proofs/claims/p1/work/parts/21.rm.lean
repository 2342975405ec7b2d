section RULES
variable {X : Tok} {d : Nat} {st L : List Value} {h : Hp} {mu : Nat → Nat → Int32} {la : Nat → Nat → Int64} {ro : Nat → Nat → Option Nat} {et : Nat → Option va_E}
theorem d_MRm_in_0 : decode MRm_in.2.2.1 0 = .ok (.iload_n 0, 1) := by decide +kernel
theorem d_MRm_in_1 : decode MRm_in.2.2.1 1 = .ok (.iload_n 1, 1) := by decide +kernel
theorem d_MRm_in_2 : decode MRm_in.2.2.1 2 = .ok (.if_icmp .lt 12, 3) := by decide +kernel
theorem d_MRm_in_5 : decode MRm_in.2.2.1 5 = .ok (.iload_n 0, 1) := by decide +kernel
theorem d_MRm_in_6 : decode MRm_in.2.2.1 6 = .ok (.iload_n 2, 1) := by decide +kernel
theorem d_MRm_in_7 : decode MRm_in.2.2.1 7 = .ok (.if_icmp .gt 7, 3) := by decide +kernel
theorem d_MRm_in_10 : decode MRm_in.2.2.1 10 = .ok (.iconst 1, 1) := by decide +kernel
theorem d_MRm_in_11 : decode MRm_in.2.2.1 11 = .ok (.goto 4, 3) := by decide +kernel
theorem d_MRm_in_14 : decode MRm_in.2.2.1 14 = .ok (.iconst 0, 1) := by decide +kernel
theorem d_MRm_in_15 : decode MRm_in.2.2.1 15 = .ok (.ireturn, 1) := by decide +kernel
theorem r_MRm_in_0 {l1 l2 : Value} {x : Int32} : Rr X d MRm_in 0 [.int x, l1, l2] st h = Rr X d MRm_in 1 [.int x, l1, l2] (.int x :: st) h := Rr_nx d_MRm_in_0 rfl
theorem r_MRm_in_1 {l0 l2 : Value} {x : Int32} : Rr X d MRm_in 1 [l0, .int x, l2] st h = Rr X d MRm_in 2 [l0, .int x, l2] (.int x :: st) h := Rr_nx d_MRm_in_1 rfl
theorem r_MRm_in_2 {x y : Int32} : Rr X d MRm_in 2 L (.int y :: .int x :: st) h = if x < y then Rr X d MRm_in 14 L st h else Rr X d MRm_in 5 L st h := R_ic_lt d_MRm_in_2 (by decide)
theorem r_MRm_in_5 {l1 l2 : Value} {x : Int32} : Rr X d MRm_in 5 [.int x, l1, l2] st h = Rr X d MRm_in 6 [.int x, l1, l2] (.int x :: st) h := Rr_nx d_MRm_in_5 rfl
theorem r_MRm_in_6 {l0 l1 : Value} {x : Int32} : Rr X d MRm_in 6 [l0, l1, .int x] st h = Rr X d MRm_in 7 [l0, l1, .int x] (.int x :: st) h := Rr_nx d_MRm_in_6 rfl
theorem r_MRm_in_7 {x y : Int32} : Rr X d MRm_in 7 L (.int y :: .int x :: st) h = if y < x then Rr X d MRm_in 14 L st h else Rr X d MRm_in 10 L st h := R_ic_gt d_MRm_in_7 (by decide)
theorem r_MRm_in_10 : Rr X d MRm_in 10 L st h = Rr X d MRm_in 11 L (.int (1) :: st) h := Rr_nx d_MRm_in_10 rfl
theorem r_MRm_in_11 : Rr X d MRm_in 11 L st h = Rr X d MRm_in 15 L st h := R_goto d_MRm_in_11 (by decide)
theorem r_MRm_in_14 : Rr X d MRm_in 14 L st h = Rr X d MRm_in 15 L (.int (0) :: st) h := Rr_nx d_MRm_in_14 rfl
theorem r_MRm_in_15 {x : Int32} : Rr X d MRm_in 15 L [.int x] h = if x = 0 ∨ x = 1 then some (some (.int x), h) else none := R_zr d_MRm_in_15 rfl
theorem d_MRm_sizeOf_0 : decode MRm_sizeOf.2.2.1 0 = .ok (.iload_n 0, 1) := by decide +kernel
theorem d_MRm_sizeOf_1 : decode MRm_sizeOf.2.2.1 1 = .ok (.ifCond .ge 8, 3) := by decide +kernel
theorem d_MRm_sizeOf_4 : decode MRm_sizeOf.2.2.1 4 = .ok (.iload_n 0, 1) := by decide +kernel
theorem d_MRm_sizeOf_5 : decode MRm_sizeOf.2.2.1 5 = .ok (.ineg, 1) := by decide +kernel
theorem d_MRm_sizeOf_6 : decode MRm_sizeOf.2.2.1 6 = .ok (.goto 4, 3) := by decide +kernel
theorem d_MRm_sizeOf_9 : decode MRm_sizeOf.2.2.1 9 = .ok (.iload_n 0, 1) := by decide +kernel
theorem d_MRm_sizeOf_10 : decode MRm_sizeOf.2.2.1 10 = .ok (.ireturn, 1) := by decide +kernel
theorem r_MRm_sizeOf_0 {x : Int32} : Rr X d MRm_sizeOf 0 [.int x] st h = Rr X d MRm_sizeOf 1 [.int x] (.int x :: st) h := Rr_nx d_MRm_sizeOf_0 rfl
theorem r_MRm_sizeOf_1 {x : Int32} : Rr X d MRm_sizeOf 1 L (.int x :: st) h = if 0 ≤ x then Rr X d MRm_sizeOf 9 L st h else Rr X d MRm_sizeOf 4 L st h := R_if_ge d_MRm_sizeOf_1 (by decide)
theorem r_MRm_sizeOf_4 {x : Int32} : Rr X d MRm_sizeOf 4 [.int x] st h = Rr X d MRm_sizeOf 5 [.int x] (.int x :: st) h := Rr_nx d_MRm_sizeOf_4 rfl
theorem r_MRm_sizeOf_5 {x : Int32} : Rr X d MRm_sizeOf 5 L (.int x :: st) h = Rr X d MRm_sizeOf 6 L (.int (-x) :: st) h := Rr_nx d_MRm_sizeOf_5 rfl
theorem r_MRm_sizeOf_6 : Rr X d MRm_sizeOf 6 L st h = Rr X d MRm_sizeOf 10 L st h := R_goto d_MRm_sizeOf_6 (by decide)
theorem r_MRm_sizeOf_9 {x : Int32} : Rr X d MRm_sizeOf 9 [.int x] st h = Rr X d MRm_sizeOf 10 [.int x] (.int x :: st) h := Rr_nx d_MRm_sizeOf_9 rfl
theorem r_MRm_sizeOf_10 {x : Int32} : Rr X d MRm_sizeOf 10 L [.int x] h = some (some (.int x), h) := R_ir d_MRm_sizeOf_10 rfl
theorem d_MRm_held_0 : decode MRm_held.2.2.1 0 = .ok (.iload_n 0, 1) := by decide +kernel
theorem d_MRm_held_1 : decode MRm_held.2.2.1 1 = .ok (.iload_n 1, 1) := by decide +kernel
theorem d_MRm_held_2 : decode MRm_held.2.2.1 2 = .ok (.if_icmp .ge 7, 3) := by decide +kernel
theorem d_MRm_held_5 : decode MRm_held.2.2.1 5 = .ok (.iload_n 1, 1) := by decide +kernel
theorem d_MRm_held_6 : decode MRm_held.2.2.1 6 = .ok (.goto 13, 3) := by decide +kernel
theorem d_MRm_held_9 : decode MRm_held.2.2.1 9 = .ok (.iload_n 0, 1) := by decide +kernel
theorem d_MRm_held_10 : decode MRm_held.2.2.1 10 = .ok (.iload_n 2, 1) := by decide +kernel
theorem d_MRm_held_11 : decode MRm_held.2.2.1 11 = .ok (.if_icmp .le 7, 3) := by decide +kernel
theorem d_MRm_held_14 : decode MRm_held.2.2.1 14 = .ok (.iload_n 2, 1) := by decide +kernel
theorem d_MRm_held_15 : decode MRm_held.2.2.1 15 = .ok (.goto 4, 3) := by decide +kernel
theorem d_MRm_held_18 : decode MRm_held.2.2.1 18 = .ok (.iload_n 0, 1) := by decide +kernel
theorem d_MRm_held_19 : decode MRm_held.2.2.1 19 = .ok (.ireturn, 1) := by decide +kernel
theorem r_MRm_held_0 {l1 l2 : Value} {x : Int32} : Rr X d MRm_held 0 [.int x, l1, l2] st h = Rr X d MRm_held 1 [.int x, l1, l2] (.int x :: st) h := Rr_nx d_MRm_held_0 rfl
theorem r_MRm_held_1 {l0 l2 : Value} {x : Int32} : Rr X d MRm_held 1 [l0, .int x, l2] st h = Rr X d MRm_held 2 [l0, .int x, l2] (.int x :: st) h := Rr_nx d_MRm_held_1 rfl
theorem r_MRm_held_2 {x y : Int32} : Rr X d MRm_held 2 L (.int y :: .int x :: st) h = if y ≤ x then Rr X d MRm_held 9 L st h else Rr X d MRm_held 5 L st h := R_ic_ge d_MRm_held_2 (by decide)
theorem r_MRm_held_5 {l0 l2 : Value} {x : Int32} : Rr X d MRm_held 5 [l0, .int x, l2] st h = Rr X d MRm_held 6 [l0, .int x, l2] (.int x :: st) h := Rr_nx d_MRm_held_5 rfl
theorem r_MRm_held_6 : Rr X d MRm_held 6 L st h = Rr X d MRm_held 19 L st h := R_goto d_MRm_held_6 (by decide)
theorem r_MRm_held_9 {l1 l2 : Value} {x : Int32} : Rr X d MRm_held 9 [.int x, l1, l2] st h = Rr X d MRm_held 10 [.int x, l1, l2] (.int x :: st) h := Rr_nx d_MRm_held_9 rfl
theorem r_MRm_held_10 {l0 l1 : Value} {x : Int32} : Rr X d MRm_held 10 [l0, l1, .int x] st h = Rr X d MRm_held 11 [l0, l1, .int x] (.int x :: st) h := Rr_nx d_MRm_held_10 rfl
theorem r_MRm_held_11 {x y : Int32} : Rr X d MRm_held 11 L (.int y :: .int x :: st) h = if x ≤ y then Rr X d MRm_held 18 L st h else Rr X d MRm_held 14 L st h := R_ic_le d_MRm_held_11 (by decide)
theorem r_MRm_held_14 {l0 l1 : Value} {x : Int32} : Rr X d MRm_held 14 [l0, l1, .int x] st h = Rr X d MRm_held 15 [l0, l1, .int x] (.int x :: st) h := Rr_nx d_MRm_held_14 rfl
theorem r_MRm_held_15 : Rr X d MRm_held 15 L st h = Rr X d MRm_held 19 L st h := R_goto d_MRm_held_15 (by decide)
theorem r_MRm_held_18 {l1 l2 : Value} {x : Int32} : Rr X d MRm_held 18 [.int x, l1, l2] st h = Rr X d MRm_held 19 [.int x, l1, l2] (.int x :: st) h := Rr_nx d_MRm_held_18 rfl
theorem r_MRm_held_19 {x : Int32} : Rr X d MRm_held 19 L [.int x] h = some (some (.int x), h) := R_ir d_MRm_held_19 rfl
theorem d_MRm_feed_0 : decode MRm_feed.2.2.1 0 = .ok (.iload_n 1, 1) := by decide +kernel
theorem d_MRm_feed_1 : decode MRm_feed.2.2.1 1 = .ok (.iconst 1, 1) := by decide +kernel
theorem d_MRm_feed_2 : decode MRm_feed.2.2.1 2 = .ok (.iconst 4, 1) := by decide +kernel
theorem d_MRm_feed_3 : decode MRm_feed.2.2.1 3 = .ok (.invokestatic 107, 3) := by decide +kernel
theorem d_MRm_feed_6 : decode MRm_feed.2.2.1 6 = .ok (.ifCond .ne 5, 3) := by decide +kernel
theorem d_MRm_feed_9 : decode MRm_feed.2.2.1 9 = .ok (.iconst (-1), 1) := by decide +kernel
theorem d_MRm_feed_10 : decode MRm_feed.2.2.1 10 = .ok (.ireturn, 1) := by decide +kernel
theorem d_MRm_feed_11 : decode MRm_feed.2.2.1 11 = .ok (.aload_n 0, 1) := by decide +kernel
theorem d_MRm_feed_12 : decode MRm_feed.2.2.1 12 = .ok (.getfield 111, 3) := by decide +kernel
theorem d_MRm_feed_15 : decode MRm_feed.2.2.1 15 = .ok (.iload_n 1, 1) := by decide +kernel
theorem d_MRm_feed_16 : decode MRm_feed.2.2.1 16 = .ok (.iadd, 1) := by decide +kernel
theorem d_MRm_feed_17 : decode MRm_feed.2.2.1 17 = .ok (.bipush 120, 2) := by decide +kernel
theorem d_MRm_feed_19 : decode MRm_feed.2.2.1 19 = .ok (.if_icmp .le 6, 3) := by decide +kernel
theorem d_MRm_feed_22 : decode MRm_feed.2.2.1 22 = .ok (.bipush (-3), 2) := by decide +kernel
theorem d_MRm_feed_24 : decode MRm_feed.2.2.1 24 = .ok (.ireturn, 1) := by decide +kernel
theorem d_MRm_feed_25 : decode MRm_feed.2.2.1 25 = .ok (.iconst 0, 1) := by decide +kernel
theorem d_MRm_feed_26 : decode MRm_feed.2.2.1 26 = .ok (.istore_n 3, 1) := by decide +kernel
theorem d_MRm_feed_27 : decode MRm_feed.2.2.1 27 = .ok (.iload_n 3, 1) := by decide +kernel
theorem d_MRm_feed_28 : decode MRm_feed.2.2.1 28 = .ok (.iload_n 1, 1) := by decide +kernel
theorem d_MRm_feed_29 : decode MRm_feed.2.2.1 29 = .ok (.if_icmp .ge 35, 3) := by decide +kernel
theorem d_MRm_feed_32 : decode MRm_feed.2.2.1 32 = .ok (.aload_n 0, 1) := by decide +kernel
theorem d_MRm_feed_33 : decode MRm_feed.2.2.1 33 = .ok (.getfield 7, 3) := by decide +kernel
theorem d_MRm_feed_36 : decode MRm_feed.2.2.1 36 = .ok (.aload_n 0, 1) := by decide +kernel
theorem d_MRm_feed_37 : decode MRm_feed.2.2.1 37 = .ok (.getfield 111, 3) := by decide +kernel
theorem d_MRm_feed_40 : decode MRm_feed.2.2.1 40 = .ok (.iload_n 2, 1) := by decide +kernel
theorem d_MRm_feed_41 : decode MRm_feed.2.2.1 41 = .ok (.bipush 8, 2) := by decide +kernel
theorem d_MRm_feed_43 : decode MRm_feed.2.2.1 43 = .ok (.iload_n 3, 1) := by decide +kernel
theorem d_MRm_feed_44 : decode MRm_feed.2.2.1 44 = .ok (.imul, 1) := by decide +kernel
theorem d_MRm_feed_45 : decode MRm_feed.2.2.1 45 = .ok (.ishr, 1) := by decide +kernel
theorem d_MRm_feed_46 : decode MRm_feed.2.2.1 46 = .ok (.i2b, 1) := by decide +kernel
theorem d_MRm_feed_47 : decode MRm_feed.2.2.1 47 = .ok (.bastore, 1) := by decide +kernel
theorem d_MRm_feed_48 : decode MRm_feed.2.2.1 48 = .ok (.aload_n 0, 1) := by decide +kernel
theorem d_MRm_feed_49 : decode MRm_feed.2.2.1 49 = .ok (.dup, 1) := by decide +kernel
theorem d_MRm_feed_50 : decode MRm_feed.2.2.1 50 = .ok (.getfield 111, 3) := by decide +kernel
theorem d_MRm_feed_53 : decode MRm_feed.2.2.1 53 = .ok (.iconst 1, 1) := by decide +kernel
theorem d_MRm_feed_54 : decode MRm_feed.2.2.1 54 = .ok (.iadd, 1) := by decide +kernel
theorem d_MRm_feed_55 : decode MRm_feed.2.2.1 55 = .ok (.putfield 111, 3) := by decide +kernel
theorem d_MRm_feed_58 : decode MRm_feed.2.2.1 58 = .ok (.iinc 3 1, 3) := by decide +kernel
theorem d_MRm_feed_61 : decode MRm_feed.2.2.1 61 = .ok (.goto (-34), 3) := by decide +kernel
theorem d_MRm_feed_64 : decode MRm_feed.2.2.1 64 = .ok (.aload_n 0, 1) := by decide +kernel
theorem d_MRm_feed_65 : decode MRm_feed.2.2.1 65 = .ok (.getfield 111, 3) := by decide +kernel
theorem d_MRm_feed_68 : decode MRm_feed.2.2.1 68 = .ok (.ireturn, 1) := by decide +kernel
theorem r_MRm_feed_0 {l0 l2 l3 : Value} {x : Int32} : Rr X d MRm_feed 0 [l0, .int x, l2, l3] st h = Rr X d MRm_feed 1 [l0, .int x, l2, l3] (.int x :: st) h := Rr_nx d_MRm_feed_0 rfl
theorem r_MRm_feed_1 : Rr X d MRm_feed 1 L st h = Rr X d MRm_feed 2 L (.int (1) :: st) h := Rr_nx d_MRm_feed_1 rfl
theorem r_MRm_feed_2 : Rr X d MRm_feed 2 L st h = Rr X d MRm_feed 3 L (.int (4) :: st) h := Rr_nx d_MRm_feed_2 rfl
theorem fc_10_107 : fC 10 107 = some (1, 0, 3, MRm_in) := rfl
theorem r_MRm_feed_3 {y0 : Int32} {y1 : Int32} {y2 : Int32} (hc : ckS st = true) : Rr X (d + 1) MRm_feed 3 L (.int y2 :: .int y1 :: .int y0 :: st) h = (Rr X d MRm_in 0 [.int y0, .int y1, .int y2] [] h).bind fun q => Rr X (d + 1) MRm_feed 6 L (psh q.1 st) q.2 := R_is (av := [.int y2, .int y1, .int y0]) d_MRm_feed_3 (Or.inl fc_10_107) (ckS_le hc) rfl (Nat.le_of_ble_eq_true rfl) (Nat.le_of_ble_eq_true rfl)
theorem r_MRm_feed_6 {x : Int32} : Rr X d MRm_feed 6 L (.int x :: st) h = if ¬ x = 0 then Rr X d MRm_feed 11 L st h else Rr X d MRm_feed 9 L st h := R_if_ne d_MRm_feed_6 (by decide)
theorem r_MRm_feed_9 : Rr X d MRm_feed 9 L st h = Rr X d MRm_feed 10 L (.int (-1) :: st) h := Rr_nx d_MRm_feed_9 rfl
theorem r_MRm_feed_10 {x : Int32} : Rr X d MRm_feed 10 L [.int x] h = some (some (.int x), h) := R_ir d_MRm_feed_10 rfl
theorem r_MRm_feed_11 {l1 l2 l3 : Value} {x : Nat} : Rr X d MRm_feed 11 [.ref x, l1, l2, l3] st h = Rr X d MRm_feed 12 [.ref x, l1, l2, l3] (.ref x :: st) h := Rr_nx d_MRm_feed_11 rfl
theorem ff_10_111 : fF 10 111 = some (10, 2, 0, 0) := rfl
theorem r_MRm_feed_12 {a : Nat} (hq : qI a 10 2 = true) : Rr X d MRm_feed 12 L (.ref a :: st) (Wd mu la ro et) = Rr X d MRm_feed 15 L (.int (mu a 2) :: st) (Wd mu la ro et) := R_gfI d_MRm_feed_12 ff_10_111 hq
theorem r_MRm_feed_15 {l0 l2 l3 : Value} {x : Int32} : Rr X d MRm_feed 15 [l0, .int x, l2, l3] st h = Rr X d MRm_feed 16 [l0, .int x, l2, l3] (.int x :: st) h := Rr_nx d_MRm_feed_15 rfl
theorem r_MRm_feed_16 {x y : Int32} : Rr X d MRm_feed 16 L (.int y :: .int x :: st) h = Rr X d MRm_feed 17 L (.int (x + y) :: st) h := Rr_nx d_MRm_feed_16 rfl
theorem r_MRm_feed_17 : Rr X d MRm_feed 17 L st h = Rr X d MRm_feed 19 L (.int (120) :: st) h := Rr_nx d_MRm_feed_17 rfl
theorem r_MRm_feed_19 {x y : Int32} : Rr X d MRm_feed 19 L (.int y :: .int x :: st) h = if x ≤ y then Rr X d MRm_feed 25 L st h else Rr X d MRm_feed 22 L st h := R_ic_le d_MRm_feed_19 (by decide)
theorem r_MRm_feed_22 : Rr X d MRm_feed 22 L st h = Rr X d MRm_feed 24 L (.int (-3) :: st) h := Rr_nx d_MRm_feed_22 rfl
theorem r_MRm_feed_24 {x : Int32} : Rr X d MRm_feed 24 L [.int x] h = some (some (.int x), h) := R_ir d_MRm_feed_24 rfl
theorem r_MRm_feed_25 : Rr X d MRm_feed 25 L st h = Rr X d MRm_feed 26 L (.int (0) :: st) h := Rr_nx d_MRm_feed_25 rfl
theorem r_MRm_feed_26 {l0 l1 l2 l3 : Value} {x : Int32} : Rr X d MRm_feed 26 [l0, l1, l2, l3] (.int x :: st) h = Rr X d MRm_feed 27 (sL [l0, l1, l2, l3] 3 (.int x)) st h := Rr_nx d_MRm_feed_26 rfl
theorem r_MRm_feed_27 {l0 l1 l2 : Value} {x : Int32} : Rr X d MRm_feed 27 [l0, l1, l2, .int x] st h = Rr X d MRm_feed 28 [l0, l1, l2, .int x] (.int x :: st) h := Rr_nx d_MRm_feed_27 rfl
theorem r_MRm_feed_28 {l0 l2 l3 : Value} {x : Int32} : Rr X d MRm_feed 28 [l0, .int x, l2, l3] st h = Rr X d MRm_feed 29 [l0, .int x, l2, l3] (.int x :: st) h := Rr_nx d_MRm_feed_28 rfl
theorem r_MRm_feed_29 {x y : Int32} : Rr X d MRm_feed 29 L (.int y :: .int x :: st) h = if y ≤ x then Rr X d MRm_feed 64 L st h else Rr X d MRm_feed 32 L st h := R_ic_ge d_MRm_feed_29 (by decide)
theorem r_MRm_feed_32 {l1 l2 l3 : Value} {x : Nat} : Rr X d MRm_feed 32 [.ref x, l1, l2, l3] st h = Rr X d MRm_feed 33 [.ref x, l1, l2, l3] (.ref x :: st) h := Rr_nx d_MRm_feed_32 rfl
theorem ff_10_7 : fF 10 7 = some (10, 1, 1, 1) := rfl
theorem r_MRm_feed_33 {a : Nat} (hq : (qR a 10 1).isSome = true) : Rr X d MRm_feed 33 L (.ref a :: st) (Wd mu la ro et) = Rr X d MRm_feed 36 L (.ref (qRd a 10 1) :: st) (Wd mu la ro et) := R_gfR d_MRm_feed_33 ff_10_7 hq
theorem r_MRm_feed_36 {l1 l2 l3 : Value} {x : Nat} : Rr X d MRm_feed 36 [.ref x, l1, l2, l3] st h = Rr X d MRm_feed 37 [.ref x, l1, l2, l3] (.ref x :: st) h := Rr_nx d_MRm_feed_36 rfl
theorem r_MRm_feed_37 {a : Nat} (hq : qI a 10 2 = true) : Rr X d MRm_feed 37 L (.ref a :: st) (Wd mu la ro et) = Rr X d MRm_feed 40 L (.int (mu a 2) :: st) (Wd mu la ro et) := R_gfI d_MRm_feed_37 ff_10_111 hq
theorem r_MRm_feed_40 {l0 l1 l3 : Value} {x : Int32} : Rr X d MRm_feed 40 [l0, l1, .int x, l3] st h = Rr X d MRm_feed 41 [l0, l1, .int x, l3] (.int x :: st) h := Rr_nx d_MRm_feed_40 rfl
theorem r_MRm_feed_41 : Rr X d MRm_feed 41 L st h = Rr X d MRm_feed 43 L (.int (8) :: st) h := Rr_nx d_MRm_feed_41 rfl
theorem r_MRm_feed_43 {l0 l1 l2 : Value} {x : Int32} : Rr X d MRm_feed 43 [l0, l1, l2, .int x] st h = Rr X d MRm_feed 44 [l0, l1, l2, .int x] (.int x :: st) h := Rr_nx d_MRm_feed_43 rfl
theorem r_MRm_feed_44 {x y : Int32} : Rr X d MRm_feed 44 L (.int y :: .int x :: st) h = Rr X d MRm_feed 45 L (.int (x * y) :: st) h := Rr_nx d_MRm_feed_44 rfl
theorem r_MRm_feed_45 {x y : Int32} : Rr X d MRm_feed 45 L (.int y :: .int x :: st) h = Rr X d MRm_feed 46 L (.int (x >>> (y &&& 31)) :: st) h := Rr_nx d_MRm_feed_45 rfl
theorem r_MRm_feed_46 {x : Int32} : Rr X d MRm_feed 46 L (.int x :: st) h = Rr X d MRm_feed 47 L (.int (x.toInt8.toInt32) :: st) h := Rr_nx d_MRm_feed_46 rfl
theorem r_MRm_feed_47 {a : Nat} {j x : Int32} (hq : (qA a 2).isSome = true) : Rr X d MRm_feed 47 L (.int x :: .int j :: .ref a :: st) (Wd mu la ro et) = if j < 0 ∨ qAd a 2 ≤ j.toNatClampNeg then none else Rr X d MRm_feed 48 L st (Wd (up2 mu a j.toNatClampNeg (x.toInt8.toInt32)) la ro et) := R_basW d_MRm_feed_47 hq
theorem r_MRm_feed_48 {l1 l2 l3 : Value} {x : Nat} : Rr X d MRm_feed 48 [.ref x, l1, l2, l3] st h = Rr X d MRm_feed 49 [.ref x, l1, l2, l3] (.ref x :: st) h := Rr_nx d_MRm_feed_48 rfl
theorem r_MRm_feed_49 {x : Nat} : Rr X d MRm_feed 49 L (.ref x :: st) h = Rr X d MRm_feed 50 L (.ref x :: .ref x :: st) h := Rr_nx d_MRm_feed_49 rfl
theorem r_MRm_feed_49i {x : Int32} : Rr X d MRm_feed 49 L (.int x :: st) h = Rr X d MRm_feed 50 L (.int x :: .int x :: st) h := Rr_nx d_MRm_feed_49 rfl
theorem r_MRm_feed_50 {a : Nat} (hq : qI a 10 2 = true) : Rr X d MRm_feed 50 L (.ref a :: st) (Wd mu la ro et) = Rr X d MRm_feed 53 L (.int (mu a 2) :: st) (Wd mu la ro et) := R_gfI d_MRm_feed_50 ff_10_111 hq
theorem r_MRm_feed_53 : Rr X d MRm_feed 53 L st h = Rr X d MRm_feed 54 L (.int (1) :: st) h := Rr_nx d_MRm_feed_53 rfl
theorem r_MRm_feed_54 {x y : Int32} : Rr X d MRm_feed 54 L (.int y :: .int x :: st) h = Rr X d MRm_feed 55 L (.int (x + y) :: st) h := Rr_nx d_MRm_feed_54 rfl
theorem r_MRm_feed_55 {a : Nat} {x : Int32} (hq : qI a 10 2 = true) : Rr X d MRm_feed 55 L (.int x :: .ref a :: st) (Wd mu la ro et) = Rr X d MRm_feed 58 L st (Wd (up2 mu a 2 x) la ro et) := R_pfI d_MRm_feed_55 ff_10_111 hq
theorem r_MRm_feed_58 {l0 l1 l2 : Value} {x : Int32} : Rr X d MRm_feed 58 [l0, l1, l2, .int x] st h = Rr X d MRm_feed 61 (sL [l0, l1, l2, .int x] 3 (.int (x + (1)))) st h := Rr_nx d_MRm_feed_58 rfl
theorem r_MRm_feed_61 : Rr X d MRm_feed 61 L st h = Rr X d MRm_feed 27 L st h := R_goto d_MRm_feed_61 (by decide)
theorem r_MRm_feed_64 {l1 l2 l3 : Value} {x : Nat} : Rr X d MRm_feed 64 [.ref x, l1, l2, l3] st h = Rr X d MRm_feed 65 [.ref x, l1, l2, l3] (.ref x :: st) h := Rr_nx d_MRm_feed_64 rfl
theorem r_MRm_feed_65 {a : Nat} (hq : qI a 10 2 = true) : Rr X d MRm_feed 65 L (.ref a :: st) (Wd mu la ro et) = Rr X d MRm_feed 68 L (.int (mu a 2) :: st) (Wd mu la ro et) := R_gfI d_MRm_feed_65 ff_10_111 hq
theorem r_MRm_feed_68 {x : Int32} : Rr X d MRm_feed 68 L [.int x] h = some (some (.int x), h) := R_ir d_MRm_feed_68 rfl
theorem d_MRm_isStone_0 : decode MRm_isStone.2.2.1 0 = .ok (.iload_n 1, 1) := by decide +kernel
theorem d_MRm_isStone_1 : decode MRm_isStone.2.2.1 1 = .ok (.iconst 0, 1) := by decide +kernel
theorem d_MRm_isStone_2 : decode MRm_isStone.2.2.1 2 = .ok (.aload_n 0, 1) := by decide +kernel
theorem d_MRm_isStone_3 : decode MRm_isStone.2.2.1 3 = .ok (.getfield 114, 3) := by decide +kernel
theorem d_MRm_isStone_6 : decode MRm_isStone.2.2.1 6 = .ok (.iconst 1, 1) := by decide +kernel
theorem d_MRm_isStone_7 : decode MRm_isStone.2.2.1 7 = .ok (.isub, 1) := by decide +kernel
theorem d_MRm_isStone_8 : decode MRm_isStone.2.2.1 8 = .ok (.invokestatic 107, 3) := by decide +kernel
theorem d_MRm_isStone_11 : decode MRm_isStone.2.2.1 11 = .ok (.ireturn, 1) := by decide +kernel
theorem r_MRm_isStone_0 {l0 : Value} {x : Int32} : Rr X d MRm_isStone 0 [l0, .int x] st h = Rr X d MRm_isStone 1 [l0, .int x] (.int x :: st) h := Rr_nx d_MRm_isStone_0 rfl
theorem r_MRm_isStone_1 : Rr X d MRm_isStone 1 L st h = Rr X d MRm_isStone 2 L (.int (0) :: st) h := Rr_nx d_MRm_isStone_1 rfl
theorem r_MRm_isStone_2 {l1 : Value} {x : Nat} : Rr X d MRm_isStone 2 [.ref x, l1] st h = Rr X d MRm_isStone 3 [.ref x, l1] (.ref x :: st) h := Rr_nx d_MRm_isStone_2 rfl
theorem ff_10_114 : fF 10 114 = some (10, 3, 0, 0) := rfl
theorem r_MRm_isStone_3 {a : Nat} (hq : qI a 10 3 = true) : Rr X d MRm_isStone 3 L (.ref a :: st) (Wd mu la ro et) = Rr X d MRm_isStone 6 L (.int (mu a 3) :: st) (Wd mu la ro et) := R_gfI d_MRm_isStone_3 ff_10_114 hq
theorem r_MRm_isStone_6 : Rr X d MRm_isStone 6 L st h = Rr X d MRm_isStone 7 L (.int (1) :: st) h := Rr_nx d_MRm_isStone_6 rfl
theorem r_MRm_isStone_7 {x y : Int32} : Rr X d MRm_isStone 7 L (.int y :: .int x :: st) h = Rr X d MRm_isStone 8 L (.int (x - y) :: st) h := Rr_nx d_MRm_isStone_7 rfl
theorem r_MRm_isStone_8 {y0 : Int32} {y1 : Int32} {y2 : Int32} (hc : ckS st = true) : Rr X (d + 1) MRm_isStone 8 L (.int y2 :: .int y1 :: .int y0 :: st) h = (Rr X d MRm_in 0 [.int y0, .int y1, .int y2] [] h).bind fun q => Rr X (d + 1) MRm_isStone 11 L (psh q.1 st) q.2 := R_is (av := [.int y2, .int y1, .int y0]) d_MRm_isStone_8 (Or.inl fc_10_107) (ckS_le hc) rfl (Nat.le_of_ble_eq_true rfl) (Nat.le_of_ble_eq_true rfl)
theorem r_MRm_isStone_11 {x : Int32} : Rr X d MRm_isStone 11 L [.int x] h = if x = 0 ∨ x = 1 then some (some (.int x), h) else none := R_zr d_MRm_isStone_11 rfl
theorem d_MRm_isHere_0 : decode MRm_isHere.2.2.1 0 = .ok (.aload_n 0, 1) := by decide +kernel
theorem d_MRm_isHere_1 : decode MRm_isHere.2.2.1 1 = .ok (.getfield 117, 3) := by decide +kernel
theorem d_MRm_isHere_4 : decode MRm_isHere.2.2.1 4 = .ok (.ifCond .ge 31, 3) := by decide +kernel
theorem d_MRm_isHere_7 : decode MRm_isHere.2.2.1 7 = .ok (.aload_n 0, 1) := by decide +kernel
theorem d_MRm_isHere_8 : decode MRm_isHere.2.2.1 8 = .ok (.getfield 120, 3) := by decide +kernel
theorem d_MRm_isHere_11 : decode MRm_isHere.2.2.1 11 = .ok (.aload_n 0, 1) := by decide +kernel
theorem d_MRm_isHere_12 : decode MRm_isHere.2.2.1 12 = .ok (.getfield 111, 3) := by decide +kernel
theorem d_MRm_isHere_15 : decode MRm_isHere.2.2.1 15 = .ok (.if_icmp .ge 20, 3) := by decide +kernel
theorem d_MRm_isHere_18 : decode MRm_isHere.2.2.1 18 = .ok (.aload_n 0, 1) := by decide +kernel
theorem d_MRm_isHere_19 : decode MRm_isHere.2.2.1 19 = .ok (.getfield 7, 3) := by decide +kernel
theorem d_MRm_isHere_22 : decode MRm_isHere.2.2.1 22 = .ok (.aload_n 0, 1) := by decide +kernel
theorem d_MRm_isHere_23 : decode MRm_isHere.2.2.1 23 = .ok (.getfield 120, 3) := by decide +kernel
theorem d_MRm_isHere_26 : decode MRm_isHere.2.2.1 26 = .ok (.baload, 1) := by decide +kernel
theorem d_MRm_isHere_27 : decode MRm_isHere.2.2.1 27 = .ok (.iload_n 1, 1) := by decide +kernel
theorem d_MRm_isHere_28 : decode MRm_isHere.2.2.1 28 = .ok (.if_icmp .ne 7, 3) := by decide +kernel
theorem d_MRm_isHere_31 : decode MRm_isHere.2.2.1 31 = .ok (.iconst 1, 1) := by decide +kernel
theorem d_MRm_isHere_32 : decode MRm_isHere.2.2.1 32 = .ok (.goto 4, 3) := by decide +kernel
theorem d_MRm_isHere_35 : decode MRm_isHere.2.2.1 35 = .ok (.iconst 0, 1) := by decide +kernel
theorem d_MRm_isHere_36 : decode MRm_isHere.2.2.1 36 = .ok (.ireturn, 1) := by decide +kernel
theorem r_MRm_isHere_0 {l1 : Value} {x : Nat} : Rr X d MRm_isHere 0 [.ref x, l1] st h = Rr X d MRm_isHere 1 [.ref x, l1] (.ref x :: st) h := Rr_nx d_MRm_isHere_0 rfl
theorem ff_10_117 : fF 10 117 = some (10, 19, 0, 0) := rfl
theorem r_MRm_isHere_1 {a : Nat} (hq : qI a 10 19 = true) : Rr X d MRm_isHere 1 L (.ref a :: st) (Wd mu la ro et) = Rr X d MRm_isHere 4 L (.int (mu a 19) :: st) (Wd mu la ro et) := R_gfI d_MRm_isHere_1 ff_10_117 hq
theorem r_MRm_isHere_4 {x : Int32} : Rr X d MRm_isHere 4 L (.int x :: st) h = if 0 ≤ x then Rr X d MRm_isHere 35 L st h else Rr X d MRm_isHere 7 L st h := R_if_ge d_MRm_isHere_4 (by decide)
theorem r_MRm_isHere_7 {l1 : Value} {x : Nat} : Rr X d MRm_isHere 7 [.ref x, l1] st h = Rr X d MRm_isHere 8 [.ref x, l1] (.ref x :: st) h := Rr_nx d_MRm_isHere_7 rfl
theorem ff_10_120 : fF 10 120 = some (10, 18, 0, 0) := rfl
theorem r_MRm_isHere_8 {a : Nat} (hq : qI a 10 18 = true) : Rr X d MRm_isHere 8 L (.ref a :: st) (Wd mu la ro et) = Rr X d MRm_isHere 11 L (.int (mu a 18) :: st) (Wd mu la ro et) := R_gfI d_MRm_isHere_8 ff_10_120 hq
theorem r_MRm_isHere_11 {l1 : Value} {x : Nat} : Rr X d MRm_isHere 11 [.ref x, l1] st h = Rr X d MRm_isHere 12 [.ref x, l1] (.ref x :: st) h := Rr_nx d_MRm_isHere_11 rfl
theorem r_MRm_isHere_12 {a : Nat} (hq : qI a 10 2 = true) : Rr X d MRm_isHere 12 L (.ref a :: st) (Wd mu la ro et) = Rr X d MRm_isHere 15 L (.int (mu a 2) :: st) (Wd mu la ro et) := R_gfI d_MRm_isHere_12 ff_10_111 hq
theorem r_MRm_isHere_15 {x y : Int32} : Rr X d MRm_isHere 15 L (.int y :: .int x :: st) h = if y ≤ x then Rr X d MRm_isHere 35 L st h else Rr X d MRm_isHere 18 L st h := R_ic_ge d_MRm_isHere_15 (by decide)
theorem r_MRm_isHere_18 {l1 : Value} {x : Nat} : Rr X d MRm_isHere 18 [.ref x, l1] st h = Rr X d MRm_isHere 19 [.ref x, l1] (.ref x :: st) h := Rr_nx d_MRm_isHere_18 rfl
theorem r_MRm_isHere_19 {a : Nat} (hq : (qR a 10 1).isSome = true) : Rr X d MRm_isHere 19 L (.ref a :: st) (Wd mu la ro et) = Rr X d MRm_isHere 22 L (.ref (qRd a 10 1) :: st) (Wd mu la ro et) := R_gfR d_MRm_isHere_19 ff_10_7 hq
theorem r_MRm_isHere_22 {l1 : Value} {x : Nat} : Rr X d MRm_isHere 22 [.ref x, l1] st h = Rr X d MRm_isHere 23 [.ref x, l1] (.ref x :: st) h := Rr_nx d_MRm_isHere_22 rfl
theorem r_MRm_isHere_23 {a : Nat} (hq : qI a 10 18 = true) : Rr X d MRm_isHere 23 L (.ref a :: st) (Wd mu la ro et) = Rr X d MRm_isHere 26 L (.int (mu a 18) :: st) (Wd mu la ro et) := R_gfI d_MRm_isHere_23 ff_10_120 hq
theorem r_MRm_isHere_26 {a : Nat} {j : Int32} (hq : (qA a 2).isSome = true) : Rr X d MRm_isHere 26 L (.int j :: .ref a :: st) (Wd mu la ro et) = if j < 0 ∨ qAd a 2 ≤ j.toNatClampNeg then none else Rr X d MRm_isHere 27 L (.int (mu a j.toNatClampNeg) :: st) (Wd mu la ro et) := R_balW d_MRm_isHere_26 hq
theorem r_MRm_isHere_27 {l0 : Value} {x : Int32} : Rr X d MRm_isHere 27 [l0, .int x] st h = Rr X d MRm_isHere 28 [l0, .int x] (.int x :: st) h := Rr_nx d_MRm_isHere_27 rfl
theorem r_MRm_isHere_28 {x y : Int32} : Rr X d MRm_isHere 28 L (.int y :: .int x :: st) h = if ¬ x = y then Rr X d MRm_isHere 35 L st h else Rr X d MRm_isHere 31 L st h := R_ic_ne d_MRm_isHere_28 (by decide)
theorem r_MRm_isHere_31 : Rr X d MRm_isHere 31 L st h = Rr X d MRm_isHere 32 L (.int (1) :: st) h := Rr_nx d_MRm_isHere_31 rfl
theorem r_MRm_isHere_32 : Rr X d MRm_isHere 32 L st h = Rr X d MRm_isHere 36 L st h := R_goto d_MRm_isHere_32 (by decide)
theorem r_MRm_isHere_35 : Rr X d MRm_isHere 35 L st h = Rr X d MRm_isHere 36 L (.int (0) :: st) h := Rr_nx d_MRm_isHere_35 rfl
theorem r_MRm_isHere_36 {x : Int32} : Rr X d MRm_isHere 36 L [.int x] h = if x = 0 ∨ x = 1 then some (some (.int x), h) else none := R_zr d_MRm_isHere_36 rfl
theorem d_MRm_takes_0 : decode MRm_takes.2.2.1 0 = .ok (.aload_n 0, 1) := by decide +kernel
theorem d_MRm_takes_1 : decode MRm_takes.2.2.1 1 = .ok (.iload_n 1, 1) := by decide +kernel
theorem d_MRm_takes_2 : decode MRm_takes.2.2.1 2 = .ok (.invokevirtual 123, 3) := by decide +kernel
theorem d_MRm_takes_5 : decode MRm_takes.2.2.1 5 = .ok (.ifCond .eq 16, 3) := by decide +kernel
theorem d_MRm_takes_8 : decode MRm_takes.2.2.1 8 = .ok (.aload_n 0, 1) := by decide +kernel
theorem d_MRm_takes_9 : decode MRm_takes.2.2.1 9 = .ok (.dup, 1) := by decide +kernel
theorem d_MRm_takes_10 : decode MRm_takes.2.2.1 10 = .ok (.getfield 120, 3) := by decide +kernel
theorem d_MRm_takes_13 : decode MRm_takes.2.2.1 13 = .ok (.iconst 1, 1) := by decide +kernel
theorem d_MRm_takes_14 : decode MRm_takes.2.2.1 14 = .ok (.iadd, 1) := by decide +kernel
theorem d_MRm_takes_15 : decode MRm_takes.2.2.1 15 = .ok (.putfield 120, 3) := by decide +kernel
theorem d_MRm_takes_18 : decode MRm_takes.2.2.1 18 = .ok (.goto 18, 3) := by decide +kernel
theorem d_MRm_takes_21 : decode MRm_takes.2.2.1 21 = .ok (.aload_n 0, 1) := by decide +kernel
theorem d_MRm_takes_22 : decode MRm_takes.2.2.1 22 = .ok (.getfield 117, 3) := by decide +kernel
theorem d_MRm_takes_25 : decode MRm_takes.2.2.1 25 = .ok (.ifCond .ge 11, 3) := by decide +kernel
theorem d_MRm_takes_28 : decode MRm_takes.2.2.1 28 = .ok (.aload_n 0, 1) := by decide +kernel
theorem d_MRm_takes_29 : decode MRm_takes.2.2.1 29 = .ok (.aload_n 0, 1) := by decide +kernel
theorem d_MRm_takes_30 : decode MRm_takes.2.2.1 30 = .ok (.getfield 120, 3) := by decide +kernel
theorem d_MRm_takes_33 : decode MRm_takes.2.2.1 33 = .ok (.putfield 117, 3) := by decide +kernel
theorem d_MRm_takes_36 : decode MRm_takes.2.2.1 36 = .ok (.return_, 1) := by decide +kernel
theorem r_MRm_takes_0 {l1 : Value} {x : Nat} : Rr X d MRm_takes 0 [.ref x, l1] st h = Rr X d MRm_takes 1 [.ref x, l1] (.ref x :: st) h := Rr_nx d_MRm_takes_0 rfl
theorem r_MRm_takes_1 {l0 : Value} {x : Int32} : Rr X d MRm_takes 1 [l0, .int x] st h = Rr X d MRm_takes 2 [l0, .int x] (.int x :: st) h := Rr_nx d_MRm_takes_1 rfl
theorem fc_10_123 : fC 10 123 = some (0, 10, 1, MRm_isHere) := rfl
theorem r_MRm_takes_2 {y0 : Int32} {a : Nat} (hO : qO a 10 = true) (hc : ckS st = true) : Rr X (d + 1) MRm_takes 2 L (.int y0 :: .ref a :: st) (Wd mu la ro et) = (Rr X d MRm_isHere 0 [.ref a, .int y0] [] (Wd mu la ro et)).bind fun q => Rr X (d + 1) MRm_takes 5 L (psh q.1 st) q.2 := R_iv (av := [.int y0]) d_MRm_takes_2 fc_10_123 hO (ckS_le hc) rfl (Nat.le_of_ble_eq_true rfl) (Nat.le_of_ble_eq_true rfl)
theorem r_MRm_takes_5 {x : Int32} : Rr X d MRm_takes 5 L (.int x :: st) h = if x = 0 then Rr X d MRm_takes 21 L st h else Rr X d MRm_takes 8 L st h := R_if_eq d_MRm_takes_5 (by decide)
theorem r_MRm_takes_8 {l1 : Value} {x : Nat} : Rr X d MRm_takes 8 [.ref x, l1] st h = Rr X d MRm_takes 9 [.ref x, l1] (.ref x :: st) h := Rr_nx d_MRm_takes_8 rfl
theorem r_MRm_takes_9 {x : Nat} : Rr X d MRm_takes 9 L (.ref x :: st) h = Rr X d MRm_takes 10 L (.ref x :: .ref x :: st) h := Rr_nx d_MRm_takes_9 rfl
theorem r_MRm_takes_9i {x : Int32} : Rr X d MRm_takes 9 L (.int x :: st) h = Rr X d MRm_takes 10 L (.int x :: .int x :: st) h := Rr_nx d_MRm_takes_9 rfl
theorem r_MRm_takes_10 {a : Nat} (hq : qI a 10 18 = true) : Rr X d MRm_takes 10 L (.ref a :: st) (Wd mu la ro et) = Rr X d MRm_takes 13 L (.int (mu a 18) :: st) (Wd mu la ro et) := R_gfI d_MRm_takes_10 ff_10_120 hq
theorem r_MRm_takes_13 : Rr X d MRm_takes 13 L st h = Rr X d MRm_takes 14 L (.int (1) :: st) h := Rr_nx d_MRm_takes_13 rfl
theorem r_MRm_takes_14 {x y : Int32} : Rr X d MRm_takes 14 L (.int y :: .int x :: st) h = Rr X d MRm_takes 15 L (.int (x + y) :: st) h := Rr_nx d_MRm_takes_14 rfl
theorem r_MRm_takes_15 {a : Nat} {x : Int32} (hq : qI a 10 18 = true) : Rr X d MRm_takes 15 L (.int x :: .ref a :: st) (Wd mu la ro et) = Rr X d MRm_takes 18 L st (Wd (up2 mu a 18 x) la ro et) := R_pfI d_MRm_takes_15 ff_10_120 hq
theorem r_MRm_takes_18 : Rr X d MRm_takes 18 L st h = Rr X d MRm_takes 36 L st h := R_goto d_MRm_takes_18 (by decide)
theorem r_MRm_takes_21 {l1 : Value} {x : Nat} : Rr X d MRm_takes 21 [.ref x, l1] st h = Rr X d MRm_takes 22 [.ref x, l1] (.ref x :: st) h := Rr_nx d_MRm_takes_21 rfl
theorem r_MRm_takes_22 {a : Nat} (hq : qI a 10 19 = true) : Rr X d MRm_takes 22 L (.ref a :: st) (Wd mu la ro et) = Rr X d MRm_takes 25 L (.int (mu a 19) :: st) (Wd mu la ro et) := R_gfI d_MRm_takes_22 ff_10_117 hq
theorem r_MRm_takes_25 {x : Int32} : Rr X d MRm_takes 25 L (.int x :: st) h = if 0 ≤ x then Rr X d MRm_takes 36 L st h else Rr X d MRm_takes 28 L st h := R_if_ge d_MRm_takes_25 (by decide)
theorem r_MRm_takes_28 {l1 : Value} {x : Nat} : Rr X d MRm_takes 28 [.ref x, l1] st h = Rr X d MRm_takes 29 [.ref x, l1] (.ref x :: st) h := Rr_nx d_MRm_takes_28 rfl
theorem r_MRm_takes_29 {l1 : Value} {x : Nat} : Rr X d MRm_takes 29 [.ref x, l1] st h = Rr X d MRm_takes 30 [.ref x, l1] (.ref x :: st) h := Rr_nx d_MRm_takes_29 rfl
theorem r_MRm_takes_30 {a : Nat} (hq : qI a 10 18 = true) : Rr X d MRm_takes 30 L (.ref a :: st) (Wd mu la ro et) = Rr X d MRm_takes 33 L (.int (mu a 18) :: st) (Wd mu la ro et) := R_gfI d_MRm_takes_30 ff_10_120 hq
theorem r_MRm_takes_33 {a : Nat} {x : Int32} (hq : qI a 10 19 = true) : Rr X d MRm_takes 33 L (.int x :: .ref a :: st) (Wd mu la ro et) = Rr X d MRm_takes 36 L st (Wd (up2 mu a 19 x) la ro et) := R_pfI d_MRm_takes_33 ff_10_117 hq
theorem r_MRm_takes_36 : Rr X d MRm_takes 36 L [] h = some (none, h) := Rr_rt d_MRm_takes_36 rfl
theorem d_MRm_digit_0 : decode MRm_digit.2.2.1 0 = .ok (.aload_n 0, 1) := by decide +kernel
theorem d_MRm_digit_1 : decode MRm_digit.2.2.1 1 = .ok (.getfield 117, 3) := by decide +kernel
theorem d_MRm_digit_4 : decode MRm_digit.2.2.1 4 = .ok (.ifCond .lt 5, 3) := by decide +kernel
theorem d_MRm_digit_7 : decode MRm_digit.2.2.1 7 = .ok (.iconst 0, 1) := by decide +kernel
theorem d_MRm_digit_8 : decode MRm_digit.2.2.1 8 = .ok (.ireturn, 1) := by decide +kernel
theorem d_MRm_digit_9 : decode MRm_digit.2.2.1 9 = .ok (.aload_n 0, 1) := by decide +kernel
theorem d_MRm_digit_10 : decode MRm_digit.2.2.1 10 = .ok (.getfield 120, 3) := by decide +kernel
theorem d_MRm_digit_13 : decode MRm_digit.2.2.1 13 = .ok (.aload_n 0, 1) := by decide +kernel
theorem d_MRm_digit_14 : decode MRm_digit.2.2.1 14 = .ok (.getfield 111, 3) := by decide +kernel
theorem d_MRm_digit_17 : decode MRm_digit.2.2.1 17 = .ok (.if_icmp .ge 18, 3) := by decide +kernel
theorem d_MRm_digit_20 : decode MRm_digit.2.2.1 20 = .ok (.aload_n 0, 1) := by decide +kernel
theorem d_MRm_digit_21 : decode MRm_digit.2.2.1 21 = .ok (.getfield 7, 3) := by decide +kernel
theorem d_MRm_digit_24 : decode MRm_digit.2.2.1 24 = .ok (.aload_n 0, 1) := by decide +kernel
theorem d_MRm_digit_25 : decode MRm_digit.2.2.1 25 = .ok (.getfield 120, 3) := by decide +kernel
theorem d_MRm_digit_28 : decode MRm_digit.2.2.1 28 = .ok (.baload, 1) := by decide +kernel
theorem d_MRm_digit_29 : decode MRm_digit.2.2.1 29 = .ok (.bipush 48, 2) := by decide +kernel
theorem d_MRm_digit_31 : decode MRm_digit.2.2.1 31 = .ok (.isub, 1) := by decide +kernel
theorem d_MRm_digit_32 : decode MRm_digit.2.2.1 32 = .ok (.goto 4, 3) := by decide +kernel
theorem d_MRm_digit_35 : decode MRm_digit.2.2.1 35 = .ok (.iconst (-1), 1) := by decide +kernel
theorem d_MRm_digit_36 : decode MRm_digit.2.2.1 36 = .ok (.istore_n 2, 1) := by decide +kernel
theorem d_MRm_digit_37 : decode MRm_digit.2.2.1 37 = .ok (.iload_n 2, 1) := by decide +kernel
theorem d_MRm_digit_38 : decode MRm_digit.2.2.1 38 = .ok (.iload_n 1, 1) := by decide +kernel
theorem d_MRm_digit_39 : decode MRm_digit.2.2.1 39 = .ok (.bipush 9, 2) := by decide +kernel
theorem d_MRm_digit_41 : decode MRm_digit.2.2.1 41 = .ok (.invokestatic 107, 3) := by decide +kernel
theorem d_MRm_digit_44 : decode MRm_digit.2.2.1 44 = .ok (.ifCond .ne 13, 3) := by decide +kernel
theorem d_MRm_digit_47 : decode MRm_digit.2.2.1 47 = .ok (.aload_n 0, 1) := by decide +kernel
theorem d_MRm_digit_48 : decode MRm_digit.2.2.1 48 = .ok (.aload_n 0, 1) := by decide +kernel
theorem d_MRm_digit_49 : decode MRm_digit.2.2.1 49 = .ok (.getfield 120, 3) := by decide +kernel
theorem d_MRm_digit_52 : decode MRm_digit.2.2.1 52 = .ok (.putfield 117, 3) := by decide +kernel
theorem d_MRm_digit_55 : decode MRm_digit.2.2.1 55 = .ok (.iconst 0, 1) := by decide +kernel
theorem d_MRm_digit_56 : decode MRm_digit.2.2.1 56 = .ok (.ireturn, 1) := by decide +kernel
theorem d_MRm_digit_57 : decode MRm_digit.2.2.1 57 = .ok (.aload_n 0, 1) := by decide +kernel
theorem d_MRm_digit_58 : decode MRm_digit.2.2.1 58 = .ok (.dup, 1) := by decide +kernel
theorem d_MRm_digit_59 : decode MRm_digit.2.2.1 59 = .ok (.getfield 120, 3) := by decide +kernel
theorem d_MRm_digit_62 : decode MRm_digit.2.2.1 62 = .ok (.iconst 1, 1) := by decide +kernel
theorem d_MRm_digit_63 : decode MRm_digit.2.2.1 63 = .ok (.iadd, 1) := by decide +kernel
theorem d_MRm_digit_64 : decode MRm_digit.2.2.1 64 = .ok (.putfield 120, 3) := by decide +kernel
theorem d_MRm_digit_67 : decode MRm_digit.2.2.1 67 = .ok (.iload_n 2, 1) := by decide +kernel
theorem d_MRm_digit_68 : decode MRm_digit.2.2.1 68 = .ok (.ireturn, 1) := by decide +kernel
theorem r_MRm_digit_0 {l1 l2 : Value} {x : Nat} : Rr X d MRm_digit 0 [.ref x, l1, l2] st h = Rr X d MRm_digit 1 [.ref x, l1, l2] (.ref x :: st) h := Rr_nx d_MRm_digit_0 rfl
theorem r_MRm_digit_1 {a : Nat} (hq : qI a 10 19 = true) : Rr X d MRm_digit 1 L (.ref a :: st) (Wd mu la ro et) = Rr X d MRm_digit 4 L (.int (mu a 19) :: st) (Wd mu la ro et) := R_gfI d_MRm_digit_1 ff_10_117 hq
theorem r_MRm_digit_4 {x : Int32} : Rr X d MRm_digit 4 L (.int x :: st) h = if x < 0 then Rr X d MRm_digit 9 L st h else Rr X d MRm_digit 7 L st h := R_if_lt d_MRm_digit_4 (by decide)
theorem r_MRm_digit_7 : Rr X d MRm_digit 7 L st h = Rr X d MRm_digit 8 L (.int (0) :: st) h := Rr_nx d_MRm_digit_7 rfl
theorem r_MRm_digit_8 {x : Int32} : Rr X d MRm_digit 8 L [.int x] h = some (some (.int x), h) := R_ir d_MRm_digit_8 rfl
theorem r_MRm_digit_9 {l1 l2 : Value} {x : Nat} : Rr X d MRm_digit 9 [.ref x, l1, l2] st h = Rr X d MRm_digit 10 [.ref x, l1, l2] (.ref x :: st) h := Rr_nx d_MRm_digit_9 rfl
theorem r_MRm_digit_10 {a : Nat} (hq : qI a 10 18 = true) : Rr X d MRm_digit 10 L (.ref a :: st) (Wd mu la ro et) = Rr X d MRm_digit 13 L (.int (mu a 18) :: st) (Wd mu la ro et) := R_gfI d_MRm_digit_10 ff_10_120 hq
theorem r_MRm_digit_13 {l1 l2 : Value} {x : Nat} : Rr X d MRm_digit 13 [.ref x, l1, l2] st h = Rr X d MRm_digit 14 [.ref x, l1, l2] (.ref x :: st) h := Rr_nx d_MRm_digit_13 rfl
theorem r_MRm_digit_14 {a : Nat} (hq : qI a 10 2 = true) : Rr X d MRm_digit 14 L (.ref a :: st) (Wd mu la ro et) = Rr X d MRm_digit 17 L (.int (mu a 2) :: st) (Wd mu la ro et) := R_gfI d_MRm_digit_14 ff_10_111 hq
theorem r_MRm_digit_17 {x y : Int32} : Rr X d MRm_digit 17 L (.int y :: .int x :: st) h = if y ≤ x then Rr X d MRm_digit 35 L st h else Rr X d MRm_digit 20 L st h := R_ic_ge d_MRm_digit_17 (by decide)
theorem r_MRm_digit_20 {l1 l2 : Value} {x : Nat} : Rr X d MRm_digit 20 [.ref x, l1, l2] st h = Rr X d MRm_digit 21 [.ref x, l1, l2] (.ref x :: st) h := Rr_nx d_MRm_digit_20 rfl
theorem r_MRm_digit_21 {a : Nat} (hq : (qR a 10 1).isSome = true) : Rr X d MRm_digit 21 L (.ref a :: st) (Wd mu la ro et) = Rr X d MRm_digit 24 L (.ref (qRd a 10 1) :: st) (Wd mu la ro et) := R_gfR d_MRm_digit_21 ff_10_7 hq
theorem r_MRm_digit_24 {l1 l2 : Value} {x : Nat} : Rr X d MRm_digit 24 [.ref x, l1, l2] st h = Rr X d MRm_digit 25 [.ref x, l1, l2] (.ref x :: st) h := Rr_nx d_MRm_digit_24 rfl
theorem r_MRm_digit_25 {a : Nat} (hq : qI a 10 18 = true) : Rr X d MRm_digit 25 L (.ref a :: st) (Wd mu la ro et) = Rr X d MRm_digit 28 L (.int (mu a 18) :: st) (Wd mu la ro et) := R_gfI d_MRm_digit_25 ff_10_120 hq
theorem r_MRm_digit_28 {a : Nat} {j : Int32} (hq : (qA a 2).isSome = true) : Rr X d MRm_digit 28 L (.int j :: .ref a :: st) (Wd mu la ro et) = if j < 0 ∨ qAd a 2 ≤ j.toNatClampNeg then none else Rr X d MRm_digit 29 L (.int (mu a j.toNatClampNeg) :: st) (Wd mu la ro et) := R_balW d_MRm_digit_28 hq
theorem r_MRm_digit_29 : Rr X d MRm_digit 29 L st h = Rr X d MRm_digit 31 L (.int (48) :: st) h := Rr_nx d_MRm_digit_29 rfl
theorem r_MRm_digit_31 {x y : Int32} : Rr X d MRm_digit 31 L (.int y :: .int x :: st) h = Rr X d MRm_digit 32 L (.int (x - y) :: st) h := Rr_nx d_MRm_digit_31 rfl
theorem r_MRm_digit_32 : Rr X d MRm_digit 32 L st h = Rr X d MRm_digit 36 L st h := R_goto d_MRm_digit_32 (by decide)
theorem r_MRm_digit_35 : Rr X d MRm_digit 35 L st h = Rr X d MRm_digit 36 L (.int (-1) :: st) h := Rr_nx d_MRm_digit_35 rfl
theorem r_MRm_digit_36 {l0 l1 l2 : Value} {x : Int32} : Rr X d MRm_digit 36 [l0, l1, l2] (.int x :: st) h = Rr X d MRm_digit 37 (sL [l0, l1, l2] 2 (.int x)) st h := Rr_nx d_MRm_digit_36 rfl
theorem r_MRm_digit_37 {l0 l1 : Value} {x : Int32} : Rr X d MRm_digit 37 [l0, l1, .int x] st h = Rr X d MRm_digit 38 [l0, l1, .int x] (.int x :: st) h := Rr_nx d_MRm_digit_37 rfl
theorem r_MRm_digit_38 {l0 l2 : Value} {x : Int32} : Rr X d MRm_digit 38 [l0, .int x, l2] st h = Rr X d MRm_digit 39 [l0, .int x, l2] (.int x :: st) h := Rr_nx d_MRm_digit_38 rfl
theorem r_MRm_digit_39 : Rr X d MRm_digit 39 L st h = Rr X d MRm_digit 41 L (.int (9) :: st) h := Rr_nx d_MRm_digit_39 rfl
theorem r_MRm_digit_41 {y0 : Int32} {y1 : Int32} {y2 : Int32} (hc : ckS st = true) : Rr X (d + 1) MRm_digit 41 L (.int y2 :: .int y1 :: .int y0 :: st) h = (Rr X d MRm_in 0 [.int y0, .int y1, .int y2] [] h).bind fun q => Rr X (d + 1) MRm_digit 44 L (psh q.1 st) q.2 := R_is (av := [.int y2, .int y1, .int y0]) d_MRm_digit_41 (Or.inl fc_10_107) (ckS_le hc) rfl (Nat.le_of_ble_eq_true rfl) (Nat.le_of_ble_eq_true rfl)
theorem r_MRm_digit_44 {x : Int32} : Rr X d MRm_digit 44 L (.int x :: st) h = if ¬ x = 0 then Rr X d MRm_digit 57 L st h else Rr X d MRm_digit 47 L st h := R_if_ne d_MRm_digit_44 (by decide)
theorem r_MRm_digit_47 {l1 l2 : Value} {x : Nat} : Rr X d MRm_digit 47 [.ref x, l1, l2] st h = Rr X d MRm_digit 48 [.ref x, l1, l2] (.ref x :: st) h := Rr_nx d_MRm_digit_47 rfl
theorem r_MRm_digit_48 {l1 l2 : Value} {x : Nat} : Rr X d MRm_digit 48 [.ref x, l1, l2] st h = Rr X d MRm_digit 49 [.ref x, l1, l2] (.ref x :: st) h := Rr_nx d_MRm_digit_48 rfl
theorem r_MRm_digit_49 {a : Nat} (hq : qI a 10 18 = true) : Rr X d MRm_digit 49 L (.ref a :: st) (Wd mu la ro et) = Rr X d MRm_digit 52 L (.int (mu a 18) :: st) (Wd mu la ro et) := R_gfI d_MRm_digit_49 ff_10_120 hq
theorem r_MRm_digit_52 {a : Nat} {x : Int32} (hq : qI a 10 19 = true) : Rr X d MRm_digit 52 L (.int x :: .ref a :: st) (Wd mu la ro et) = Rr X d MRm_digit 55 L st (Wd (up2 mu a 19 x) la ro et) := R_pfI d_MRm_digit_52 ff_10_117 hq
theorem r_MRm_digit_55 : Rr X d MRm_digit 55 L st h = Rr X d MRm_digit 56 L (.int (0) :: st) h := Rr_nx d_MRm_digit_55 rfl
theorem r_MRm_digit_56 {x : Int32} : Rr X d MRm_digit 56 L [.int x] h = some (some (.int x), h) := R_ir d_MRm_digit_56 rfl
theorem r_MRm_digit_57 {l1 l2 : Value} {x : Nat} : Rr X d MRm_digit 57 [.ref x, l1, l2] st h = Rr X d MRm_digit 58 [.ref x, l1, l2] (.ref x :: st) h := Rr_nx d_MRm_digit_57 rfl
theorem r_MRm_digit_58 {x : Nat} : Rr X d MRm_digit 58 L (.ref x :: st) h = Rr X d MRm_digit 59 L (.ref x :: .ref x :: st) h := Rr_nx d_MRm_digit_58 rfl
theorem r_MRm_digit_58i {x : Int32} : Rr X d MRm_digit 58 L (.int x :: st) h = Rr X d MRm_digit 59 L (.int x :: .int x :: st) h := Rr_nx d_MRm_digit_58 rfl
theorem r_MRm_digit_59 {a : Nat} (hq : qI a 10 18 = true) : Rr X d MRm_digit 59 L (.ref a :: st) (Wd mu la ro et) = Rr X d MRm_digit 62 L (.int (mu a 18) :: st) (Wd mu la ro et) := R_gfI d_MRm_digit_59 ff_10_120 hq
theorem r_MRm_digit_62 : Rr X d MRm_digit 62 L st h = Rr X d MRm_digit 63 L (.int (1) :: st) h := Rr_nx d_MRm_digit_62 rfl
theorem r_MRm_digit_63 {x y : Int32} : Rr X d MRm_digit 63 L (.int y :: .int x :: st) h = Rr X d MRm_digit 64 L (.int (x + y) :: st) h := Rr_nx d_MRm_digit_63 rfl
theorem r_MRm_digit_64 {a : Nat} {x : Int32} (hq : qI a 10 18 = true) : Rr X d MRm_digit 64 L (.int x :: .ref a :: st) (Wd mu la ro et) = Rr X d MRm_digit 67 L st (Wd (up2 mu a 18 x) la ro et) := R_pfI d_MRm_digit_64 ff_10_120 hq
theorem r_MRm_digit_67 {l0 l1 : Value} {x : Int32} : Rr X d MRm_digit 67 [l0, l1, .int x] st h = Rr X d MRm_digit 68 [l0, l1, .int x] (.int x :: st) h := Rr_nx d_MRm_digit_67 rfl
theorem r_MRm_digit_68 {x : Int32} : Rr X d MRm_digit 68 L [.int x] h = some (some (.int x), h) := R_ir d_MRm_digit_68 rfl
theorem d_MRm_signed_0 : decode MRm_signed.2.2.1 0 = .ok (.aload_n 0, 1) := by decide +kernel
theorem d_MRm_signed_1 : decode MRm_signed.2.2.1 1 = .ok (.bipush 45, 2) := by decide +kernel
theorem d_MRm_signed_3 : decode MRm_signed.2.2.1 3 = .ok (.invokevirtual 123, 3) := by decide +kernel
theorem d_MRm_signed_6 : decode MRm_signed.2.2.1 6 = .ok (.ifCond .eq 7, 3) := by decide +kernel
theorem d_MRm_signed_9 : decode MRm_signed.2.2.1 9 = .ok (.iconst (-1), 1) := by decide +kernel
theorem d_MRm_signed_10 : decode MRm_signed.2.2.1 10 = .ok (.goto 4, 3) := by decide +kernel
theorem d_MRm_signed_13 : decode MRm_signed.2.2.1 13 = .ok (.iconst 1, 1) := by decide +kernel
theorem d_MRm_signed_14 : decode MRm_signed.2.2.1 14 = .ok (.istore_n 1, 1) := by decide +kernel
theorem d_MRm_signed_15 : decode MRm_signed.2.2.1 15 = .ok (.aload_n 0, 1) := by decide +kernel
theorem d_MRm_signed_16 : decode MRm_signed.2.2.1 16 = .ok (.bipush 43, 2) := by decide +kernel
theorem d_MRm_signed_18 : decode MRm_signed.2.2.1 18 = .ok (.invokevirtual 123, 3) := by decide +kernel
theorem d_MRm_signed_21 : decode MRm_signed.2.2.1 21 = .ok (.ifCond .ne 12, 3) := by decide +kernel
theorem d_MRm_signed_24 : decode MRm_signed.2.2.1 24 = .ok (.aload_n 0, 1) := by decide +kernel
theorem d_MRm_signed_25 : decode MRm_signed.2.2.1 25 = .ok (.bipush 45, 2) := by decide +kernel
theorem d_MRm_signed_27 : decode MRm_signed.2.2.1 27 = .ok (.invokevirtual 123, 3) := by decide +kernel
theorem d_MRm_signed_30 : decode MRm_signed.2.2.1 30 = .ok (.ifCond .eq 16, 3) := by decide +kernel
theorem d_MRm_signed_33 : decode MRm_signed.2.2.1 33 = .ok (.aload_n 0, 1) := by decide +kernel
theorem d_MRm_signed_34 : decode MRm_signed.2.2.1 34 = .ok (.dup, 1) := by decide +kernel
theorem d_MRm_signed_35 : decode MRm_signed.2.2.1 35 = .ok (.getfield 120, 3) := by decide +kernel
theorem d_MRm_signed_38 : decode MRm_signed.2.2.1 38 = .ok (.iconst 1, 1) := by decide +kernel
theorem d_MRm_signed_39 : decode MRm_signed.2.2.1 39 = .ok (.iadd, 1) := by decide +kernel
theorem d_MRm_signed_40 : decode MRm_signed.2.2.1 40 = .ok (.putfield 120, 3) := by decide +kernel
theorem d_MRm_signed_43 : decode MRm_signed.2.2.1 43 = .ok (.goto 18, 3) := by decide +kernel
theorem d_MRm_signed_46 : decode MRm_signed.2.2.1 46 = .ok (.aload_n 0, 1) := by decide +kernel
theorem d_MRm_signed_47 : decode MRm_signed.2.2.1 47 = .ok (.getfield 117, 3) := by decide +kernel
theorem d_MRm_signed_50 : decode MRm_signed.2.2.1 50 = .ok (.ifCond .ge 11, 3) := by decide +kernel
theorem d_MRm_signed_53 : decode MRm_signed.2.2.1 53 = .ok (.aload_n 0, 1) := by decide +kernel
theorem d_MRm_signed_54 : decode MRm_signed.2.2.1 54 = .ok (.aload_n 0, 1) := by decide +kernel
theorem d_MRm_signed_55 : decode MRm_signed.2.2.1 55 = .ok (.getfield 120, 3) := by decide +kernel
theorem d_MRm_signed_58 : decode MRm_signed.2.2.1 58 = .ok (.putfield 117, 3) := by decide +kernel
theorem d_MRm_signed_61 : decode MRm_signed.2.2.1 61 = .ok (.iload_n 1, 1) := by decide +kernel
theorem d_MRm_signed_62 : decode MRm_signed.2.2.1 62 = .ok (.aload_n 0, 1) := by decide +kernel
theorem d_MRm_signed_63 : decode MRm_signed.2.2.1 63 = .ok (.iconst 0, 1) := by decide +kernel
theorem d_MRm_signed_64 : decode MRm_signed.2.2.1 64 = .ok (.invokevirtual 127, 3) := by decide +kernel
theorem d_MRm_signed_67 : decode MRm_signed.2.2.1 67 = .ok (.imul, 1) := by decide +kernel
theorem d_MRm_signed_68 : decode MRm_signed.2.2.1 68 = .ok (.ireturn, 1) := by decide +kernel
theorem r_MRm_signed_0 {l1 : Value} {x : Nat} : Rr X d MRm_signed 0 [.ref x, l1] st h = Rr X d MRm_signed 1 [.ref x, l1] (.ref x :: st) h := Rr_nx d_MRm_signed_0 rfl
theorem r_MRm_signed_1 : Rr X d MRm_signed 1 L st h = Rr X d MRm_signed 3 L (.int (45) :: st) h := Rr_nx d_MRm_signed_1 rfl
theorem r_MRm_signed_3 {y0 : Int32} {a : Nat} (hO : qO a 10 = true) (hc : ckS st = true) : Rr X (d + 1) MRm_signed 3 L (.int y0 :: .ref a :: st) (Wd mu la ro et) = (Rr X d MRm_isHere 0 [.ref a, .int y0] [] (Wd mu la ro et)).bind fun q => Rr X (d + 1) MRm_signed 6 L (psh q.1 st) q.2 := R_iv (av := [.int y0]) d_MRm_signed_3 fc_10_123 hO (ckS_le hc) rfl (Nat.le_of_ble_eq_true rfl) (Nat.le_of_ble_eq_true rfl)
theorem r_MRm_signed_6 {x : Int32} : Rr X d MRm_signed 6 L (.int x :: st) h = if x = 0 then Rr X d MRm_signed 13 L st h else Rr X d MRm_signed 9 L st h := R_if_eq d_MRm_signed_6 (by decide)
theorem r_MRm_signed_9 : Rr X d MRm_signed 9 L st h = Rr X d MRm_signed 10 L (.int (-1) :: st) h := Rr_nx d_MRm_signed_9 rfl
theorem r_MRm_signed_10 : Rr X d MRm_signed 10 L st h = Rr X d MRm_signed 14 L st h := R_goto d_MRm_signed_10 (by decide)
theorem r_MRm_signed_13 : Rr X d MRm_signed 13 L st h = Rr X d MRm_signed 14 L (.int (1) :: st) h := Rr_nx d_MRm_signed_13 rfl
theorem r_MRm_signed_14 {l0 l1 : Value} {x : Int32} : Rr X d MRm_signed 14 [l0, l1] (.int x :: st) h = Rr X d MRm_signed 15 (sL [l0, l1] 1 (.int x)) st h := Rr_nx d_MRm_signed_14 rfl
theorem r_MRm_signed_15 {l1 : Value} {x : Nat} : Rr X d MRm_signed 15 [.ref x, l1] st h = Rr X d MRm_signed 16 [.ref x, l1] (.ref x :: st) h := Rr_nx d_MRm_signed_15 rfl
theorem r_MRm_signed_16 : Rr X d MRm_signed 16 L st h = Rr X d MRm_signed 18 L (.int (43) :: st) h := Rr_nx d_MRm_signed_16 rfl
theorem r_MRm_signed_18 {y0 : Int32} {a : Nat} (hO : qO a 10 = true) (hc : ckS st = true) : Rr X (d + 1) MRm_signed 18 L (.int y0 :: .ref a :: st) (Wd mu la ro et) = (Rr X d MRm_isHere 0 [.ref a, .int y0] [] (Wd mu la ro et)).bind fun q => Rr X (d + 1) MRm_signed 21 L (psh q.1 st) q.2 := R_iv (av := [.int y0]) d_MRm_signed_18 fc_10_123 hO (ckS_le hc) rfl (Nat.le_of_ble_eq_true rfl) (Nat.le_of_ble_eq_true rfl)
theorem r_MRm_signed_21 {x : Int32} : Rr X d MRm_signed 21 L (.int x :: st) h = if ¬ x = 0 then Rr X d MRm_signed 33 L st h else Rr X d MRm_signed 24 L st h := R_if_ne d_MRm_signed_21 (by decide)
theorem r_MRm_signed_24 {l1 : Value} {x : Nat} : Rr X d MRm_signed 24 [.ref x, l1] st h = Rr X d MRm_signed 25 [.ref x, l1] (.ref x :: st) h := Rr_nx d_MRm_signed_24 rfl
theorem r_MRm_signed_25 : Rr X d MRm_signed 25 L st h = Rr X d MRm_signed 27 L (.int (45) :: st) h := Rr_nx d_MRm_signed_25 rfl
theorem r_MRm_signed_27 {y0 : Int32} {a : Nat} (hO : qO a 10 = true) (hc : ckS st = true) : Rr X (d + 1) MRm_signed 27 L (.int y0 :: .ref a :: st) (Wd mu la ro et) = (Rr X d MRm_isHere 0 [.ref a, .int y0] [] (Wd mu la ro et)).bind fun q => Rr X (d + 1) MRm_signed 30 L (psh q.1 st) q.2 := R_iv (av := [.int y0]) d_MRm_signed_27 fc_10_123 hO (ckS_le hc) rfl (Nat.le_of_ble_eq_true rfl) (Nat.le_of_ble_eq_true rfl)
theorem r_MRm_signed_30 {x : Int32} : Rr X d MRm_signed 30 L (.int x :: st) h = if x = 0 then Rr X d MRm_signed 46 L st h else Rr X d MRm_signed 33 L st h := R_if_eq d_MRm_signed_30 (by decide)
theorem r_MRm_signed_33 {l1 : Value} {x : Nat} : Rr X d MRm_signed 33 [.ref x, l1] st h = Rr X d MRm_signed 34 [.ref x, l1] (.ref x :: st) h := Rr_nx d_MRm_signed_33 rfl
theorem r_MRm_signed_34 {x : Nat} : Rr X d MRm_signed 34 L (.ref x :: st) h = Rr X d MRm_signed 35 L (.ref x :: .ref x :: st) h := Rr_nx d_MRm_signed_34 rfl
theorem r_MRm_signed_34i {x : Int32} : Rr X d MRm_signed 34 L (.int x :: st) h = Rr X d MRm_signed 35 L (.int x :: .int x :: st) h := Rr_nx d_MRm_signed_34 rfl
theorem r_MRm_signed_35 {a : Nat} (hq : qI a 10 18 = true) : Rr X d MRm_signed 35 L (.ref a :: st) (Wd mu la ro et) = Rr X d MRm_signed 38 L (.int (mu a 18) :: st) (Wd mu la ro et) := R_gfI d_MRm_signed_35 ff_10_120 hq
theorem r_MRm_signed_38 : Rr X d MRm_signed 38 L st h = Rr X d MRm_signed 39 L (.int (1) :: st) h := Rr_nx d_MRm_signed_38 rfl
theorem r_MRm_signed_39 {x y : Int32} : Rr X d MRm_signed 39 L (.int y :: .int x :: st) h = Rr X d MRm_signed 40 L (.int (x + y) :: st) h := Rr_nx d_MRm_signed_39 rfl
theorem r_MRm_signed_40 {a : Nat} {x : Int32} (hq : qI a 10 18 = true) : Rr X d MRm_signed 40 L (.int x :: .ref a :: st) (Wd mu la ro et) = Rr X d MRm_signed 43 L st (Wd (up2 mu a 18 x) la ro et) := R_pfI d_MRm_signed_40 ff_10_120 hq
theorem r_MRm_signed_43 : Rr X d MRm_signed 43 L st h = Rr X d MRm_signed 61 L st h := R_goto d_MRm_signed_43 (by decide)
theorem r_MRm_signed_46 {l1 : Value} {x : Nat} : Rr X d MRm_signed 46 [.ref x, l1] st h = Rr X d MRm_signed 47 [.ref x, l1] (.ref x :: st) h := Rr_nx d_MRm_signed_46 rfl
theorem r_MRm_signed_47 {a : Nat} (hq : qI a 10 19 = true) : Rr X d MRm_signed 47 L (.ref a :: st) (Wd mu la ro et) = Rr X d MRm_signed 50 L (.int (mu a 19) :: st) (Wd mu la ro et) := R_gfI d_MRm_signed_47 ff_10_117 hq
theorem r_MRm_signed_50 {x : Int32} : Rr X d MRm_signed 50 L (.int x :: st) h = if 0 ≤ x then Rr X d MRm_signed 61 L st h else Rr X d MRm_signed 53 L st h := R_if_ge d_MRm_signed_50 (by decide)
theorem r_MRm_signed_53 {l1 : Value} {x : Nat} : Rr X d MRm_signed 53 [.ref x, l1] st h = Rr X d MRm_signed 54 [.ref x, l1] (.ref x :: st) h := Rr_nx d_MRm_signed_53 rfl
theorem r_MRm_signed_54 {l1 : Value} {x : Nat} : Rr X d MRm_signed 54 [.ref x, l1] st h = Rr X d MRm_signed 55 [.ref x, l1] (.ref x :: st) h := Rr_nx d_MRm_signed_54 rfl
theorem r_MRm_signed_55 {a : Nat} (hq : qI a 10 18 = true) : Rr X d MRm_signed 55 L (.ref a :: st) (Wd mu la ro et) = Rr X d MRm_signed 58 L (.int (mu a 18) :: st) (Wd mu la ro et) := R_gfI d_MRm_signed_55 ff_10_120 hq
theorem r_MRm_signed_58 {a : Nat} {x : Int32} (hq : qI a 10 19 = true) : Rr X d MRm_signed 58 L (.int x :: .ref a :: st) (Wd mu la ro et) = Rr X d MRm_signed 61 L st (Wd (up2 mu a 19 x) la ro et) := R_pfI d_MRm_signed_58 ff_10_117 hq
theorem r_MRm_signed_61 {l0 : Value} {x : Int32} : Rr X d MRm_signed 61 [l0, .int x] st h = Rr X d MRm_signed 62 [l0, .int x] (.int x :: st) h := Rr_nx d_MRm_signed_61 rfl
theorem r_MRm_signed_62 {l1 : Value} {x : Nat} : Rr X d MRm_signed 62 [.ref x, l1] st h = Rr X d MRm_signed 63 [.ref x, l1] (.ref x :: st) h := Rr_nx d_MRm_signed_62 rfl
theorem r_MRm_signed_63 : Rr X d MRm_signed 63 L st h = Rr X d MRm_signed 64 L (.int (0) :: st) h := Rr_nx d_MRm_signed_63 rfl
theorem fc_10_127 : fC 10 127 = some (0, 10, 1, MRm_digit) := rfl
theorem r_MRm_signed_64 {y0 : Int32} {a : Nat} (hO : qO a 10 = true) (hc : ckS st = true) : Rr X (d + 1) MRm_signed 64 L (.int y0 :: .ref a :: st) (Wd mu la ro et) = (Rr X d MRm_digit 0 [.ref a, .int y0, mkU] [] (Wd mu la ro et)).bind fun q => Rr X (d + 1) MRm_signed 67 L (psh q.1 st) q.2 := R_iv (av := [.int y0]) d_MRm_signed_64 fc_10_127 hO (ckS_le hc) rfl (Nat.le_of_ble_eq_true rfl) (Nat.le_of_ble_eq_true rfl)
theorem r_MRm_signed_67 {x y : Int32} : Rr X d MRm_signed 67 L (.int y :: .int x :: st) h = Rr X d MRm_signed 68 L (.int (x * y) :: st) h := Rr_nx d_MRm_signed_67 rfl
theorem r_MRm_signed_68 {x : Int32} : Rr X d MRm_signed 68 L [.int x] h = some (some (.int x), h) := R_ir d_MRm_signed_68 rfl
theorem d_MRm_readNumber_0 : decode MRm_readNumber.2.2.1 0 = .ok (.aload_n 0, 1) := by decide +kernel
theorem d_MRm_readNumber_1 : decode MRm_readNumber.2.2.1 1 = .ok (.getfield 120, 3) := by decide +kernel
theorem d_MRm_readNumber_4 : decode MRm_readNumber.2.2.1 4 = .ok (.istore_n 2, 1) := by decide +kernel
theorem d_MRm_readNumber_5 : decode MRm_readNumber.2.2.1 5 = .ok (.iconst 0, 1) := by decide +kernel
theorem d_MRm_readNumber_6 : decode MRm_readNumber.2.2.1 6 = .ok (.istore_n 3, 1) := by decide +kernel
theorem d_MRm_readNumber_7 : decode MRm_readNumber.2.2.1 7 = .ok (.aload_n 0, 1) := by decide +kernel
theorem d_MRm_readNumber_8 : decode MRm_readNumber.2.2.1 8 = .ok (.getfield 117, 3) := by decide +kernel
theorem d_MRm_readNumber_11 : decode MRm_readNumber.2.2.1 11 = .ok (.ifCond .ge 74, 3) := by decide +kernel
theorem d_MRm_readNumber_14 : decode MRm_readNumber.2.2.1 14 = .ok (.aload_n 0, 1) := by decide +kernel
theorem d_MRm_readNumber_15 : decode MRm_readNumber.2.2.1 15 = .ok (.getfield 120, 3) := by decide +kernel
theorem d_MRm_readNumber_18 : decode MRm_readNumber.2.2.1 18 = .ok (.aload_n 0, 1) := by decide +kernel
theorem d_MRm_readNumber_19 : decode MRm_readNumber.2.2.1 19 = .ok (.getfield 111, 3) := by decide +kernel
theorem d_MRm_readNumber_22 : decode MRm_readNumber.2.2.1 22 = .ok (.if_icmp .ge 63, 3) := by decide +kernel
theorem d_MRm_readNumber_25 : decode MRm_readNumber.2.2.1 25 = .ok (.aload_n 0, 1) := by decide +kernel
theorem d_MRm_readNumber_26 : decode MRm_readNumber.2.2.1 26 = .ok (.getfield 120, 3) := by decide +kernel
theorem d_MRm_readNumber_29 : decode MRm_readNumber.2.2.1 29 = .ok (.iload_n 2, 1) := by decide +kernel
theorem d_MRm_readNumber_30 : decode MRm_readNumber.2.2.1 30 = .ok (.iconst 3, 1) := by decide +kernel
theorem d_MRm_readNumber_31 : decode MRm_readNumber.2.2.1 31 = .ok (.iadd, 1) := by decide +kernel
theorem d_MRm_readNumber_32 : decode MRm_readNumber.2.2.1 32 = .ok (.if_icmp .ge 53, 3) := by decide +kernel
theorem d_MRm_readNumber_35 : decode MRm_readNumber.2.2.1 35 = .ok (.aload_n 0, 1) := by decide +kernel
theorem d_MRm_readNumber_36 : decode MRm_readNumber.2.2.1 36 = .ok (.getfield 7, 3) := by decide +kernel
theorem d_MRm_readNumber_39 : decode MRm_readNumber.2.2.1 39 = .ok (.aload_n 0, 1) := by decide +kernel
theorem d_MRm_readNumber_40 : decode MRm_readNumber.2.2.1 40 = .ok (.getfield 120, 3) := by decide +kernel
theorem d_MRm_readNumber_43 : decode MRm_readNumber.2.2.1 43 = .ok (.baload, 1) := by decide +kernel
theorem d_MRm_readNumber_44 : decode MRm_readNumber.2.2.1 44 = .ok (.bipush 48, 2) := by decide +kernel
theorem d_MRm_readNumber_46 : decode MRm_readNumber.2.2.1 46 = .ok (.bipush 57, 2) := by decide +kernel
theorem d_MRm_readNumber_48 : decode MRm_readNumber.2.2.1 48 = .ok (.invokestatic 107, 3) := by decide +kernel
theorem d_MRm_readNumber_51 : decode MRm_readNumber.2.2.1 51 = .ok (.ifCond .eq 34, 3) := by decide +kernel
theorem d_MRm_readNumber_54 : decode MRm_readNumber.2.2.1 54 = .ok (.bipush 10, 2) := by decide +kernel
theorem d_MRm_readNumber_56 : decode MRm_readNumber.2.2.1 56 = .ok (.iload_n 3, 1) := by decide +kernel
theorem d_MRm_readNumber_57 : decode MRm_readNumber.2.2.1 57 = .ok (.imul, 1) := by decide +kernel
theorem d_MRm_readNumber_58 : decode MRm_readNumber.2.2.1 58 = .ok (.aload_n 0, 1) := by decide +kernel
theorem d_MRm_readNumber_59 : decode MRm_readNumber.2.2.1 59 = .ok (.getfield 7, 3) := by decide +kernel
theorem d_MRm_readNumber_62 : decode MRm_readNumber.2.2.1 62 = .ok (.aload_n 0, 1) := by decide +kernel
theorem d_MRm_readNumber_63 : decode MRm_readNumber.2.2.1 63 = .ok (.getfield 120, 3) := by decide +kernel
theorem d_MRm_readNumber_66 : decode MRm_readNumber.2.2.1 66 = .ok (.baload, 1) := by decide +kernel
theorem d_MRm_readNumber_67 : decode MRm_readNumber.2.2.1 67 = .ok (.iadd, 1) := by decide +kernel
theorem d_MRm_readNumber_68 : decode MRm_readNumber.2.2.1 68 = .ok (.bipush 48, 2) := by decide +kernel
theorem d_MRm_readNumber_70 : decode MRm_readNumber.2.2.1 70 = .ok (.isub, 1) := by decide +kernel
theorem d_MRm_readNumber_71 : decode MRm_readNumber.2.2.1 71 = .ok (.istore_n 3, 1) := by decide +kernel
theorem d_MRm_readNumber_72 : decode MRm_readNumber.2.2.1 72 = .ok (.aload_n 0, 1) := by decide +kernel
theorem d_MRm_readNumber_73 : decode MRm_readNumber.2.2.1 73 = .ok (.dup, 1) := by decide +kernel
theorem d_MRm_readNumber_74 : decode MRm_readNumber.2.2.1 74 = .ok (.getfield 120, 3) := by decide +kernel
theorem d_MRm_readNumber_77 : decode MRm_readNumber.2.2.1 77 = .ok (.iconst 1, 1) := by decide +kernel
theorem d_MRm_readNumber_78 : decode MRm_readNumber.2.2.1 78 = .ok (.iadd, 1) := by decide +kernel
theorem d_MRm_readNumber_79 : decode MRm_readNumber.2.2.1 79 = .ok (.putfield 120, 3) := by decide +kernel
theorem d_MRm_readNumber_82 : decode MRm_readNumber.2.2.1 82 = .ok (.goto (-75), 3) := by decide +kernel
theorem d_MRm_readNumber_85 : decode MRm_readNumber.2.2.1 85 = .ok (.aload_n 0, 1) := by decide +kernel
theorem d_MRm_readNumber_86 : decode MRm_readNumber.2.2.1 86 = .ok (.getfield 117, 3) := by decide +kernel
theorem d_MRm_readNumber_89 : decode MRm_readNumber.2.2.1 89 = .ok (.ifCond .ge 21, 3) := by decide +kernel
theorem d_MRm_readNumber_92 : decode MRm_readNumber.2.2.1 92 = .ok (.aload_n 0, 1) := by decide +kernel
theorem d_MRm_readNumber_93 : decode MRm_readNumber.2.2.1 93 = .ok (.getfield 120, 3) := by decide +kernel
theorem d_MRm_readNumber_96 : decode MRm_readNumber.2.2.1 96 = .ok (.iload_n 2, 1) := by decide +kernel
theorem d_MRm_readNumber_97 : decode MRm_readNumber.2.2.1 97 = .ok (.if_icmp .eq 8, 3) := by decide +kernel
theorem d_MRm_readNumber_100 : decode MRm_readNumber.2.2.1 100 = .ok (.iload_n 3, 1) := by decide +kernel
theorem d_MRm_readNumber_101 : decode MRm_readNumber.2.2.1 101 = .ok (.iload_n 1, 1) := by decide +kernel
theorem d_MRm_readNumber_102 : decode MRm_readNumber.2.2.1 102 = .ok (.if_icmp .le 8, 3) := by decide +kernel
theorem d_MRm_readNumber_105 : decode MRm_readNumber.2.2.1 105 = .ok (.aload_n 0, 1) := by decide +kernel
theorem d_MRm_readNumber_106 : decode MRm_readNumber.2.2.1 106 = .ok (.iload_n 2, 1) := by decide +kernel
theorem d_MRm_readNumber_107 : decode MRm_readNumber.2.2.1 107 = .ok (.putfield 117, 3) := by decide +kernel
theorem d_MRm_readNumber_110 : decode MRm_readNumber.2.2.1 110 = .ok (.iload_n 3, 1) := by decide +kernel
theorem d_MRm_readNumber_111 : decode MRm_readNumber.2.2.1 111 = .ok (.ireturn, 1) := by decide +kernel
theorem r_MRm_readNumber_0 {l1 l2 l3 : Value} {x : Nat} : Rr X d MRm_readNumber 0 [.ref x, l1, l2, l3] st h = Rr X d MRm_readNumber 1 [.ref x, l1, l2, l3] (.ref x :: st) h := Rr_nx d_MRm_readNumber_0 rfl
theorem r_MRm_readNumber_1 {a : Nat} (hq : qI a 10 18 = true) : Rr X d MRm_readNumber 1 L (.ref a :: st) (Wd mu la ro et) = Rr X d MRm_readNumber 4 L (.int (mu a 18) :: st) (Wd mu la ro et) := R_gfI d_MRm_readNumber_1 ff_10_120 hq
theorem r_MRm_readNumber_4 {l0 l1 l2 l3 : Value} {x : Int32} : Rr X d MRm_readNumber 4 [l0, l1, l2, l3] (.int x :: st) h = Rr X d MRm_readNumber 5 (sL [l0, l1, l2, l3] 2 (.int x)) st h := Rr_nx d_MRm_readNumber_4 rfl
theorem r_MRm_readNumber_5 : Rr X d MRm_readNumber 5 L st h = Rr X d MRm_readNumber 6 L (.int (0) :: st) h := Rr_nx d_MRm_readNumber_5 rfl
theorem r_MRm_readNumber_6 {l0 l1 l2 l3 : Value} {x : Int32} : Rr X d MRm_readNumber 6 [l0, l1, l2, l3] (.int x :: st) h = Rr X d MRm_readNumber 7 (sL [l0, l1, l2, l3] 3 (.int x)) st h := Rr_nx d_MRm_readNumber_6 rfl
theorem r_MRm_readNumber_7 {l1 l2 l3 : Value} {x : Nat} : Rr X d MRm_readNumber 7 [.ref x, l1, l2, l3] st h = Rr X d MRm_readNumber 8 [.ref x, l1, l2, l3] (.ref x :: st) h := Rr_nx d_MRm_readNumber_7 rfl
theorem r_MRm_readNumber_8 {a : Nat} (hq : qI a 10 19 = true) : Rr X d MRm_readNumber 8 L (.ref a :: st) (Wd mu la ro et) = Rr X d MRm_readNumber 11 L (.int (mu a 19) :: st) (Wd mu la ro et) := R_gfI d_MRm_readNumber_8 ff_10_117 hq
theorem r_MRm_readNumber_11 {x : Int32} : Rr X d MRm_readNumber 11 L (.int x :: st) h = if 0 ≤ x then Rr X d MRm_readNumber 85 L st h else Rr X d MRm_readNumber 14 L st h := R_if_ge d_MRm_readNumber_11 (by decide)
theorem r_MRm_readNumber_14 {l1 l2 l3 : Value} {x : Nat} : Rr X d MRm_readNumber 14 [.ref x, l1, l2, l3] st h = Rr X d MRm_readNumber 15 [.ref x, l1, l2, l3] (.ref x :: st) h := Rr_nx d_MRm_readNumber_14 rfl
theorem r_MRm_readNumber_15 {a : Nat} (hq : qI a 10 18 = true) : Rr X d MRm_readNumber 15 L (.ref a :: st) (Wd mu la ro et) = Rr X d MRm_readNumber 18 L (.int (mu a 18) :: st) (Wd mu la ro et) := R_gfI d_MRm_readNumber_15 ff_10_120 hq
theorem r_MRm_readNumber_18 {l1 l2 l3 : Value} {x : Nat} : Rr X d MRm_readNumber 18 [.ref x, l1, l2, l3] st h = Rr X d MRm_readNumber 19 [.ref x, l1, l2, l3] (.ref x :: st) h := Rr_nx d_MRm_readNumber_18 rfl
theorem r_MRm_readNumber_19 {a : Nat} (hq : qI a 10 2 = true) : Rr X d MRm_readNumber 19 L (.ref a :: st) (Wd mu la ro et) = Rr X d MRm_readNumber 22 L (.int (mu a 2) :: st) (Wd mu la ro et) := R_gfI d_MRm_readNumber_19 ff_10_111 hq
theorem r_MRm_readNumber_22 {x y : Int32} : Rr X d MRm_readNumber 22 L (.int y :: .int x :: st) h = if y ≤ x then Rr X d MRm_readNumber 85 L st h else Rr X d MRm_readNumber 25 L st h := R_ic_ge d_MRm_readNumber_22 (by decide)
theorem r_MRm_readNumber_25 {l1 l2 l3 : Value} {x : Nat} : Rr X d MRm_readNumber 25 [.ref x, l1, l2, l3] st h = Rr X d MRm_readNumber 26 [.ref x, l1, l2, l3] (.ref x :: st) h := Rr_nx d_MRm_readNumber_25 rfl
theorem r_MRm_readNumber_26 {a : Nat} (hq : qI a 10 18 = true) : Rr X d MRm_readNumber 26 L (.ref a :: st) (Wd mu la ro et) = Rr X d MRm_readNumber 29 L (.int (mu a 18) :: st) (Wd mu la ro et) := R_gfI d_MRm_readNumber_26 ff_10_120 hq
theorem r_MRm_readNumber_29 {l0 l1 l3 : Value} {x : Int32} : Rr X d MRm_readNumber 29 [l0, l1, .int x, l3] st h = Rr X d MRm_readNumber 30 [l0, l1, .int x, l3] (.int x :: st) h := Rr_nx d_MRm_readNumber_29 rfl
theorem r_MRm_readNumber_30 : Rr X d MRm_readNumber 30 L st h = Rr X d MRm_readNumber 31 L (.int (3) :: st) h := Rr_nx d_MRm_readNumber_30 rfl
theorem r_MRm_readNumber_31 {x y : Int32} : Rr X d MRm_readNumber 31 L (.int y :: .int x :: st) h = Rr X d MRm_readNumber 32 L (.int (x + y) :: st) h := Rr_nx d_MRm_readNumber_31 rfl
theorem r_MRm_readNumber_32 {x y : Int32} : Rr X d MRm_readNumber 32 L (.int y :: .int x :: st) h = if y ≤ x then Rr X d MRm_readNumber 85 L st h else Rr X d MRm_readNumber 35 L st h := R_ic_ge d_MRm_readNumber_32 (by decide)
theorem r_MRm_readNumber_35 {l1 l2 l3 : Value} {x : Nat} : Rr X d MRm_readNumber 35 [.ref x, l1, l2, l3] st h = Rr X d MRm_readNumber 36 [.ref x, l1, l2, l3] (.ref x :: st) h := Rr_nx d_MRm_readNumber_35 rfl
theorem r_MRm_readNumber_36 {a : Nat} (hq : (qR a 10 1).isSome = true) : Rr X d MRm_readNumber 36 L (.ref a :: st) (Wd mu la ro et) = Rr X d MRm_readNumber 39 L (.ref (qRd a 10 1) :: st) (Wd mu la ro et) := R_gfR d_MRm_readNumber_36 ff_10_7 hq
theorem r_MRm_readNumber_39 {l1 l2 l3 : Value} {x : Nat} : Rr X d MRm_readNumber 39 [.ref x, l1, l2, l3] st h = Rr X d MRm_readNumber 40 [.ref x, l1, l2, l3] (.ref x :: st) h := Rr_nx d_MRm_readNumber_39 rfl
theorem r_MRm_readNumber_40 {a : Nat} (hq : qI a 10 18 = true) : Rr X d MRm_readNumber 40 L (.ref a :: st) (Wd mu la ro et) = Rr X d MRm_readNumber 43 L (.int (mu a 18) :: st) (Wd mu la ro et) := R_gfI d_MRm_readNumber_40 ff_10_120 hq
theorem r_MRm_readNumber_43 {a : Nat} {j : Int32} (hq : (qA a 2).isSome = true) : Rr X d MRm_readNumber 43 L (.int j :: .ref a :: st) (Wd mu la ro et) = if j < 0 ∨ qAd a 2 ≤ j.toNatClampNeg then none else Rr X d MRm_readNumber 44 L (.int (mu a j.toNatClampNeg) :: st) (Wd mu la ro et) := R_balW d_MRm_readNumber_43 hq
theorem r_MRm_readNumber_44 : Rr X d MRm_readNumber 44 L st h = Rr X d MRm_readNumber 46 L (.int (48) :: st) h := Rr_nx d_MRm_readNumber_44 rfl
theorem r_MRm_readNumber_46 : Rr X d MRm_readNumber 46 L st h = Rr X d MRm_readNumber 48 L (.int (57) :: st) h := Rr_nx d_MRm_readNumber_46 rfl
theorem r_MRm_readNumber_48 {y0 : Int32} {y1 : Int32} {y2 : Int32} (hc : ckS st = true) : Rr X (d + 1) MRm_readNumber 48 L (.int y2 :: .int y1 :: .int y0 :: st) h = (Rr X d MRm_in 0 [.int y0, .int y1, .int y2] [] h).bind fun q => Rr X (d + 1) MRm_readNumber 51 L (psh q.1 st) q.2 := R_is (av := [.int y2, .int y1, .int y0]) d_MRm_readNumber_48 (Or.inl fc_10_107) (ckS_le hc) rfl (Nat.le_of_ble_eq_true rfl) (Nat.le_of_ble_eq_true rfl)
theorem r_MRm_readNumber_51 {x : Int32} : Rr X d MRm_readNumber 51 L (.int x :: st) h = if x = 0 then Rr X d MRm_readNumber 85 L st h else Rr X d MRm_readNumber 54 L st h := R_if_eq d_MRm_readNumber_51 (by decide)
theorem r_MRm_readNumber_54 : Rr X d MRm_readNumber 54 L st h = Rr X d MRm_readNumber 56 L (.int (10) :: st) h := Rr_nx d_MRm_readNumber_54 rfl
theorem r_MRm_readNumber_56 {l0 l1 l2 : Value} {x : Int32} : Rr X d MRm_readNumber 56 [l0, l1, l2, .int x] st h = Rr X d MRm_readNumber 57 [l0, l1, l2, .int x] (.int x :: st) h := Rr_nx d_MRm_readNumber_56 rfl
theorem r_MRm_readNumber_57 {x y : Int32} : Rr X d MRm_readNumber 57 L (.int y :: .int x :: st) h = Rr X d MRm_readNumber 58 L (.int (x * y) :: st) h := Rr_nx d_MRm_readNumber_57 rfl
theorem r_MRm_readNumber_58 {l1 l2 l3 : Value} {x : Nat} : Rr X d MRm_readNumber 58 [.ref x, l1, l2, l3] st h = Rr X d MRm_readNumber 59 [.ref x, l1, l2, l3] (.ref x :: st) h := Rr_nx d_MRm_readNumber_58 rfl
theorem r_MRm_readNumber_59 {a : Nat} (hq : (qR a 10 1).isSome = true) : Rr X d MRm_readNumber 59 L (.ref a :: st) (Wd mu la ro et) = Rr X d MRm_readNumber 62 L (.ref (qRd a 10 1) :: st) (Wd mu la ro et) := R_gfR d_MRm_readNumber_59 ff_10_7 hq
theorem r_MRm_readNumber_62 {l1 l2 l3 : Value} {x : Nat} : Rr X d MRm_readNumber 62 [.ref x, l1, l2, l3] st h = Rr X d MRm_readNumber 63 [.ref x, l1, l2, l3] (.ref x :: st) h := Rr_nx d_MRm_readNumber_62 rfl
theorem r_MRm_readNumber_63 {a : Nat} (hq : qI a 10 18 = true) : Rr X d MRm_readNumber 63 L (.ref a :: st) (Wd mu la ro et) = Rr X d MRm_readNumber 66 L (.int (mu a 18) :: st) (Wd mu la ro et) := R_gfI d_MRm_readNumber_63 ff_10_120 hq
theorem r_MRm_readNumber_66 {a : Nat} {j : Int32} (hq : (qA a 2).isSome = true) : Rr X d MRm_readNumber 66 L (.int j :: .ref a :: st) (Wd mu la ro et) = if j < 0 ∨ qAd a 2 ≤ j.toNatClampNeg then none else Rr X d MRm_readNumber 67 L (.int (mu a j.toNatClampNeg) :: st) (Wd mu la ro et) := R_balW d_MRm_readNumber_66 hq
theorem r_MRm_readNumber_67 {x y : Int32} : Rr X d MRm_readNumber 67 L (.int y :: .int x :: st) h = Rr X d MRm_readNumber 68 L (.int (x + y) :: st) h := Rr_nx d_MRm_readNumber_67 rfl
theorem r_MRm_readNumber_68 : Rr X d MRm_readNumber 68 L st h = Rr X d MRm_readNumber 70 L (.int (48) :: st) h := Rr_nx d_MRm_readNumber_68 rfl
theorem r_MRm_readNumber_70 {x y : Int32} : Rr X d MRm_readNumber 70 L (.int y :: .int x :: st) h = Rr X d MRm_readNumber 71 L (.int (x - y) :: st) h := Rr_nx d_MRm_readNumber_70 rfl
theorem r_MRm_readNumber_71 {l0 l1 l2 l3 : Value} {x : Int32} : Rr X d MRm_readNumber 71 [l0, l1, l2, l3] (.int x :: st) h = Rr X d MRm_readNumber 72 (sL [l0, l1, l2, l3] 3 (.int x)) st h := Rr_nx d_MRm_readNumber_71 rfl
theorem r_MRm_readNumber_72 {l1 l2 l3 : Value} {x : Nat} : Rr X d MRm_readNumber 72 [.ref x, l1, l2, l3] st h = Rr X d MRm_readNumber 73 [.ref x, l1, l2, l3] (.ref x :: st) h := Rr_nx d_MRm_readNumber_72 rfl
theorem r_MRm_readNumber_73 {x : Nat} : Rr X d MRm_readNumber 73 L (.ref x :: st) h = Rr X d MRm_readNumber 74 L (.ref x :: .ref x :: st) h := Rr_nx d_MRm_readNumber_73 rfl
theorem r_MRm_readNumber_73i {x : Int32} : Rr X d MRm_readNumber 73 L (.int x :: st) h = Rr X d MRm_readNumber 74 L (.int x :: .int x :: st) h := Rr_nx d_MRm_readNumber_73 rfl
theorem r_MRm_readNumber_74 {a : Nat} (hq : qI a 10 18 = true) : Rr X d MRm_readNumber 74 L (.ref a :: st) (Wd mu la ro et) = Rr X d MRm_readNumber 77 L (.int (mu a 18) :: st) (Wd mu la ro et) := R_gfI d_MRm_readNumber_74 ff_10_120 hq
theorem r_MRm_readNumber_77 : Rr X d MRm_readNumber 77 L st h = Rr X d MRm_readNumber 78 L (.int (1) :: st) h := Rr_nx d_MRm_readNumber_77 rfl
theorem r_MRm_readNumber_78 {x y : Int32} : Rr X d MRm_readNumber 78 L (.int y :: .int x :: st) h = Rr X d MRm_readNumber 79 L (.int (x + y) :: st) h := Rr_nx d_MRm_readNumber_78 rfl
theorem r_MRm_readNumber_79 {a : Nat} {x : Int32} (hq : qI a 10 18 = true) : Rr X d MRm_readNumber 79 L (.int x :: .ref a :: st) (Wd mu la ro et) = Rr X d MRm_readNumber 82 L st (Wd (up2 mu a 18 x) la ro et) := R_pfI d_MRm_readNumber_79 ff_10_120 hq
theorem r_MRm_readNumber_82 : Rr X d MRm_readNumber 82 L st h = Rr X d MRm_readNumber 7 L st h := R_goto d_MRm_readNumber_82 (by decide)
theorem r_MRm_readNumber_85 {l1 l2 l3 : Value} {x : Nat} : Rr X d MRm_readNumber 85 [.ref x, l1, l2, l3] st h = Rr X d MRm_readNumber 86 [.ref x, l1, l2, l3] (.ref x :: st) h := Rr_nx d_MRm_readNumber_85 rfl
theorem r_MRm_readNumber_86 {a : Nat} (hq : qI a 10 19 = true) : Rr X d MRm_readNumber 86 L (.ref a :: st) (Wd mu la ro et) = Rr X d MRm_readNumber 89 L (.int (mu a 19) :: st) (Wd mu la ro et) := R_gfI d_MRm_readNumber_86 ff_10_117 hq
theorem r_MRm_readNumber_89 {x : Int32} : Rr X d MRm_readNumber 89 L (.int x :: st) h = if 0 ≤ x then Rr X d MRm_readNumber 110 L st h else Rr X d MRm_readNumber 92 L st h := R_if_ge d_MRm_readNumber_89 (by decide)
theorem r_MRm_readNumber_92 {l1 l2 l3 : Value} {x : Nat} : Rr X d MRm_readNumber 92 [.ref x, l1, l2, l3] st h = Rr X d MRm_readNumber 93 [.ref x, l1, l2, l3] (.ref x :: st) h := Rr_nx d_MRm_readNumber_92 rfl
theorem r_MRm_readNumber_93 {a : Nat} (hq : qI a 10 18 = true) : Rr X d MRm_readNumber 93 L (.ref a :: st) (Wd mu la ro et) = Rr X d MRm_readNumber 96 L (.int (mu a 18) :: st) (Wd mu la ro et) := R_gfI d_MRm_readNumber_93 ff_10_120 hq
theorem r_MRm_readNumber_96 {l0 l1 l3 : Value} {x : Int32} : Rr X d MRm_readNumber 96 [l0, l1, .int x, l3] st h = Rr X d MRm_readNumber 97 [l0, l1, .int x, l3] (.int x :: st) h := Rr_nx d_MRm_readNumber_96 rfl
theorem r_MRm_readNumber_97 {x y : Int32} : Rr X d MRm_readNumber 97 L (.int y :: .int x :: st) h = if x = y then Rr X d MRm_readNumber 105 L st h else Rr X d MRm_readNumber 100 L st h := R_ic_eq d_MRm_readNumber_97 (by decide)
theorem r_MRm_readNumber_100 {l0 l1 l2 : Value} {x : Int32} : Rr X d MRm_readNumber 100 [l0, l1, l2, .int x] st h = Rr X d MRm_readNumber 101 [l0, l1, l2, .int x] (.int x :: st) h := Rr_nx d_MRm_readNumber_100 rfl
theorem r_MRm_readNumber_101 {l0 l2 l3 : Value} {x : Int32} : Rr X d MRm_readNumber 101 [l0, .int x, l2, l3] st h = Rr X d MRm_readNumber 102 [l0, .int x, l2, l3] (.int x :: st) h := Rr_nx d_MRm_readNumber_101 rfl
theorem r_MRm_readNumber_102 {x y : Int32} : Rr X d MRm_readNumber 102 L (.int y :: .int x :: st) h = if x ≤ y then Rr X d MRm_readNumber 110 L st h else Rr X d MRm_readNumber 105 L st h := R_ic_le d_MRm_readNumber_102 (by decide)
theorem r_MRm_readNumber_105 {l1 l2 l3 : Value} {x : Nat} : Rr X d MRm_readNumber 105 [.ref x, l1, l2, l3] st h = Rr X d MRm_readNumber 106 [.ref x, l1, l2, l3] (.ref x :: st) h := Rr_nx d_MRm_readNumber_105 rfl
theorem r_MRm_readNumber_106 {l0 l1 l3 : Value} {x : Int32} : Rr X d MRm_readNumber 106 [l0, l1, .int x, l3] st h = Rr X d MRm_readNumber 107 [l0, l1, .int x, l3] (.int x :: st) h := Rr_nx d_MRm_readNumber_106 rfl
theorem r_MRm_readNumber_107 {a : Nat} {x : Int32} (hq : qI a 10 19 = true) : Rr X d MRm_readNumber 107 L (.int x :: .ref a :: st) (Wd mu la ro et) = Rr X d MRm_readNumber 110 L st (Wd (up2 mu a 19 x) la ro et) := R_pfI d_MRm_readNumber_107 ff_10_117 hq
theorem r_MRm_readNumber_110 {l0 l1 l2 : Value} {x : Int32} : Rr X d MRm_readNumber 110 [l0, l1, l2, .int x] st h = Rr X d MRm_readNumber 111 [l0, l1, l2, .int x] (.int x :: st) h := Rr_nx d_MRm_readNumber_110 rfl
theorem r_MRm_readNumber_111 {x : Int32} : Rr X d MRm_readNumber 111 L [.int x] h = some (some (.int x), h) := R_ir d_MRm_readNumber_111 rfl
theorem d_MRm_readLump_0 : decode MRm_readLump.2.2.1 0 = .ok (.bipush 12, 2) := by decide +kernel
theorem d_MRm_readLump_2 : decode MRm_readLump.2.2.1 2 = .ok (.iload_n 1, 1) := by decide +kernel
theorem d_MRm_readLump_3 : decode MRm_readLump.2.2.1 3 = .ok (.imul, 1) := by decide +kernel
theorem d_MRm_readLump_4 : decode MRm_readLump.2.2.1 4 = .ok (.aload_n 0, 1) := by decide +kernel
theorem d_MRm_readLump_5 : decode MRm_readLump.2.2.1 5 = .ok (.getfield 13, 3) := by decide +kernel
theorem d_MRm_readLump_8 : decode MRm_readLump.2.2.1 8 = .ok (.iload_n 1, 1) := by decide +kernel
theorem d_MRm_readLump_9 : decode MRm_readLump.2.2.1 9 = .ok (.iaload, 1) := by decide +kernel
theorem d_MRm_readLump_10 : decode MRm_readLump.2.2.1 10 = .ok (.iadd, 1) := by decide +kernel
theorem d_MRm_readLump_11 : decode MRm_readLump.2.2.1 11 = .ok (.istore_n 2, 1) := by decide +kernel
theorem d_MRm_readLump_12 : decode MRm_readLump.2.2.1 12 = .ok (.aload_n 0, 1) := by decide +kernel
theorem d_MRm_readLump_13 : decode MRm_readLump.2.2.1 13 = .ok (.getfield 17, 3) := by decide +kernel
theorem d_MRm_readLump_16 : decode MRm_readLump.2.2.1 16 = .ok (.iload_n 2, 1) := by decide +kernel
theorem d_MRm_readLump_17 : decode MRm_readLump.2.2.1 17 = .ok (.aload_n 0, 1) := by decide +kernel
theorem d_MRm_readLump_18 : decode MRm_readLump.2.2.1 18 = .ok (.iconst 1, 1) := by decide +kernel
theorem d_MRm_readLump_19 : decode MRm_readLump.2.2.1 19 = .ok (.invokevirtual 127, 3) := by decide +kernel
theorem d_MRm_readLump_22 : decode MRm_readLump.2.2.1 22 = .ok (.iastore, 1) := by decide +kernel
theorem d_MRm_readLump_23 : decode MRm_readLump.2.2.1 23 = .ok (.aload_n 0, 1) := by decide +kernel
theorem d_MRm_readLump_24 : decode MRm_readLump.2.2.1 24 = .ok (.getfield 20, 3) := by decide +kernel
theorem d_MRm_readLump_27 : decode MRm_readLump.2.2.1 27 = .ok (.iload_n 2, 1) := by decide +kernel
theorem d_MRm_readLump_28 : decode MRm_readLump.2.2.1 28 = .ok (.aload_n 0, 1) := by decide +kernel
theorem d_MRm_readLump_29 : decode MRm_readLump.2.2.1 29 = .ok (.invokevirtual 131, 3) := by decide +kernel
theorem d_MRm_readLump_32 : decode MRm_readLump.2.2.1 32 = .ok (.iastore, 1) := by decide +kernel
theorem d_MRm_readLump_33 : decode MRm_readLump.2.2.1 33 = .ok (.aload_n 0, 1) := by decide +kernel
theorem d_MRm_readLump_34 : decode MRm_readLump.2.2.1 34 = .ok (.getfield 23, 3) := by decide +kernel
theorem d_MRm_readLump_37 : decode MRm_readLump.2.2.1 37 = .ok (.iload_n 2, 1) := by decide +kernel
theorem d_MRm_readLump_38 : decode MRm_readLump.2.2.1 38 = .ok (.aload_n 0, 1) := by decide +kernel
theorem d_MRm_readLump_39 : decode MRm_readLump.2.2.1 39 = .ok (.invokevirtual 131, 3) := by decide +kernel
theorem d_MRm_readLump_42 : decode MRm_readLump.2.2.1 42 = .ok (.iastore, 1) := by decide +kernel
theorem d_MRm_readLump_43 : decode MRm_readLump.2.2.1 43 = .ok (.aload_n 0, 1) := by decide +kernel
theorem d_MRm_readLump_44 : decode MRm_readLump.2.2.1 44 = .ok (.getfield 13, 3) := by decide +kernel
theorem d_MRm_readLump_47 : decode MRm_readLump.2.2.1 47 = .ok (.iload_n 1, 1) := by decide +kernel
theorem d_MRm_readLump_48 : decode MRm_readLump.2.2.1 48 = .ok (.dup2, 1) := by decide +kernel
theorem d_MRm_readLump_49 : decode MRm_readLump.2.2.1 49 = .ok (.iaload, 1) := by decide +kernel
theorem d_MRm_readLump_50 : decode MRm_readLump.2.2.1 50 = .ok (.iconst 1, 1) := by decide +kernel
theorem d_MRm_readLump_51 : decode MRm_readLump.2.2.1 51 = .ok (.iadd, 1) := by decide +kernel
theorem d_MRm_readLump_52 : decode MRm_readLump.2.2.1 52 = .ok (.iastore, 1) := by decide +kernel
theorem d_MRm_readLump_53 : decode MRm_readLump.2.2.1 53 = .ok (.return_, 1) := by decide +kernel
theorem r_MRm_readLump_0 : Rr X d MRm_readLump 0 L st h = Rr X d MRm_readLump 2 L (.int (12) :: st) h := Rr_nx d_MRm_readLump_0 rfl
theorem r_MRm_readLump_2 {l0 l2 : Value} {x : Int32} : Rr X d MRm_readLump 2 [l0, .int x, l2] st h = Rr X d MRm_readLump 3 [l0, .int x, l2] (.int x :: st) h := Rr_nx d_MRm_readLump_2 rfl
theorem r_MRm_readLump_3 {x y : Int32} : Rr X d MRm_readLump 3 L (.int y :: .int x :: st) h = Rr X d MRm_readLump 4 L (.int (x * y) :: st) h := Rr_nx d_MRm_readLump_3 rfl
theorem r_MRm_readLump_4 {l1 l2 : Value} {x : Nat} : Rr X d MRm_readLump 4 [.ref x, l1, l2] st h = Rr X d MRm_readLump 5 [.ref x, l1, l2] (.ref x :: st) h := Rr_nx d_MRm_readLump_4 rfl
theorem ff_10_13 : fF 10 13 = some (10, 4, 1, 1) := rfl
theorem r_MRm_readLump_5 {a : Nat} (hq : (qR a 10 4).isSome = true) : Rr X d MRm_readLump 5 L (.ref a :: st) (Wd mu la ro et) = Rr X d MRm_readLump 8 L (.ref (qRd a 10 4) :: st) (Wd mu la ro et) := R_gfR d_MRm_readLump_5 ff_10_13 hq
theorem r_MRm_readLump_8 {l0 l2 : Value} {x : Int32} : Rr X d MRm_readLump 8 [l0, .int x, l2] st h = Rr X d MRm_readLump 9 [l0, .int x, l2] (.int x :: st) h := Rr_nx d_MRm_readLump_8 rfl
theorem r_MRm_readLump_9 {a : Nat} {j : Int32} (hq : (qA a 0).isSome = true) : Rr X d MRm_readLump 9 L (.int j :: .ref a :: st) (Wd mu la ro et) = if j < 0 ∨ qAd a 0 ≤ j.toNatClampNeg then none else Rr X d MRm_readLump 10 L (.int (mu a j.toNatClampNeg) :: st) (Wd mu la ro et) := R_ialW d_MRm_readLump_9 hq
theorem r_MRm_readLump_10 {x y : Int32} : Rr X d MRm_readLump 10 L (.int y :: .int x :: st) h = Rr X d MRm_readLump 11 L (.int (x + y) :: st) h := Rr_nx d_MRm_readLump_10 rfl
theorem r_MRm_readLump_11 {l0 l1 l2 : Value} {x : Int32} : Rr X d MRm_readLump 11 [l0, l1, l2] (.int x :: st) h = Rr X d MRm_readLump 12 (sL [l0, l1, l2] 2 (.int x)) st h := Rr_nx d_MRm_readLump_11 rfl
theorem r_MRm_readLump_12 {l1 l2 : Value} {x : Nat} : Rr X d MRm_readLump 12 [.ref x, l1, l2] st h = Rr X d MRm_readLump 13 [.ref x, l1, l2] (.ref x :: st) h := Rr_nx d_MRm_readLump_12 rfl
theorem ff_10_17 : fF 10 17 = some (10, 5, 1, 1) := rfl
theorem r_MRm_readLump_13 {a : Nat} (hq : (qR a 10 5).isSome = true) : Rr X d MRm_readLump 13 L (.ref a :: st) (Wd mu la ro et) = Rr X d MRm_readLump 16 L (.ref (qRd a 10 5) :: st) (Wd mu la ro et) := R_gfR d_MRm_readLump_13 ff_10_17 hq
theorem r_MRm_readLump_16 {l0 l1 : Value} {x : Int32} : Rr X d MRm_readLump 16 [l0, l1, .int x] st h = Rr X d MRm_readLump 17 [l0, l1, .int x] (.int x :: st) h := Rr_nx d_MRm_readLump_16 rfl
theorem r_MRm_readLump_17 {l1 l2 : Value} {x : Nat} : Rr X d MRm_readLump 17 [.ref x, l1, l2] st h = Rr X d MRm_readLump 18 [.ref x, l1, l2] (.ref x :: st) h := Rr_nx d_MRm_readLump_17 rfl
theorem r_MRm_readLump_18 : Rr X d MRm_readLump 18 L st h = Rr X d MRm_readLump 19 L (.int (1) :: st) h := Rr_nx d_MRm_readLump_18 rfl
theorem r_MRm_readLump_19 {y0 : Int32} {a : Nat} (hO : qO a 10 = true) (hc : ckS st = true) : Rr X (d + 1) MRm_readLump 19 L (.int y0 :: .ref a :: st) (Wd mu la ro et) = (Rr X d MRm_digit 0 [.ref a, .int y0, mkU] [] (Wd mu la ro et)).bind fun q => Rr X (d + 1) MRm_readLump 22 L (psh q.1 st) q.2 := R_iv (av := [.int y0]) d_MRm_readLump_19 fc_10_127 hO (ckS_le hc) rfl (Nat.le_of_ble_eq_true rfl) (Nat.le_of_ble_eq_true rfl)
theorem r_MRm_readLump_22 {a : Nat} {j x : Int32} (hq : (qA a 0).isSome = true) : Rr X d MRm_readLump 22 L (.int x :: .int j :: .ref a :: st) (Wd mu la ro et) = if j < 0 ∨ qAd a 0 ≤ j.toNatClampNeg then none else Rr X d MRm_readLump 23 L st (Wd (up2 mu a j.toNatClampNeg (x)) la ro et) := R_iasW d_MRm_readLump_22 hq
theorem r_MRm_readLump_23 {l1 l2 : Value} {x : Nat} : Rr X d MRm_readLump 23 [.ref x, l1, l2] st h = Rr X d MRm_readLump 24 [.ref x, l1, l2] (.ref x :: st) h := Rr_nx d_MRm_readLump_23 rfl
theorem ff_10_20 : fF 10 20 = some (10, 6, 1, 1) := rfl
theorem r_MRm_readLump_24 {a : Nat} (hq : (qR a 10 6).isSome = true) : Rr X d MRm_readLump 24 L (.ref a :: st) (Wd mu la ro et) = Rr X d MRm_readLump 27 L (.ref (qRd a 10 6) :: st) (Wd mu la ro et) := R_gfR d_MRm_readLump_24 ff_10_20 hq
theorem r_MRm_readLump_27 {l0 l1 : Value} {x : Int32} : Rr X d MRm_readLump 27 [l0, l1, .int x] st h = Rr X d MRm_readLump 28 [l0, l1, .int x] (.int x :: st) h := Rr_nx d_MRm_readLump_27 rfl
theorem r_MRm_readLump_28 {l1 l2 : Value} {x : Nat} : Rr X d MRm_readLump 28 [.ref x, l1, l2] st h = Rr X d MRm_readLump 29 [.ref x, l1, l2] (.ref x :: st) h := Rr_nx d_MRm_readLump_28 rfl
theorem fc_10_131 : fC 10 131 = some (0, 10, 0, MRm_signed) := rfl
theorem r_MRm_readLump_29 {a : Nat} (hO : qO a 10 = true) (hc : ckS st = true) : Rr X (d + 1) MRm_readLump 29 L (.ref a :: st) (Wd mu la ro et) = (Rr X d MRm_signed 0 [.ref a, mkU] [] (Wd mu la ro et)).bind fun q => Rr X (d + 1) MRm_readLump 32 L (psh q.1 st) q.2 := R_iv (av := []) d_MRm_readLump_29 fc_10_131 hO (ckS_le hc) rfl (Nat.le_of_ble_eq_true rfl) (Nat.le_of_ble_eq_true rfl)
theorem r_MRm_readLump_32 {a : Nat} {j x : Int32} (hq : (qA a 0).isSome = true) : Rr X d MRm_readLump 32 L (.int x :: .int j :: .ref a :: st) (Wd mu la ro et) = if j < 0 ∨ qAd a 0 ≤ j.toNatClampNeg then none else Rr X d MRm_readLump 33 L st (Wd (up2 mu a j.toNatClampNeg (x)) la ro et) := R_iasW d_MRm_readLump_32 hq
theorem r_MRm_readLump_33 {l1 l2 : Value} {x : Nat} : Rr X d MRm_readLump 33 [.ref x, l1, l2] st h = Rr X d MRm_readLump 34 [.ref x, l1, l2] (.ref x :: st) h := Rr_nx d_MRm_readLump_33 rfl
theorem ff_10_23 : fF 10 23 = some (10, 7, 1, 1) := rfl
theorem r_MRm_readLump_34 {a : Nat} (hq : (qR a 10 7).isSome = true) : Rr X d MRm_readLump 34 L (.ref a :: st) (Wd mu la ro et) = Rr X d MRm_readLump 37 L (.ref (qRd a 10 7) :: st) (Wd mu la ro et) := R_gfR d_MRm_readLump_34 ff_10_23 hq
theorem r_MRm_readLump_37 {l0 l1 : Value} {x : Int32} : Rr X d MRm_readLump 37 [l0, l1, .int x] st h = Rr X d MRm_readLump 38 [l0, l1, .int x] (.int x :: st) h := Rr_nx d_MRm_readLump_37 rfl
theorem r_MRm_readLump_38 {l1 l2 : Value} {x : Nat} : Rr X d MRm_readLump 38 [.ref x, l1, l2] st h = Rr X d MRm_readLump 39 [.ref x, l1, l2] (.ref x :: st) h := Rr_nx d_MRm_readLump_38 rfl
theorem r_MRm_readLump_39 {a : Nat} (hO : qO a 10 = true) (hc : ckS st = true) : Rr X (d + 1) MRm_readLump 39 L (.ref a :: st) (Wd mu la ro et) = (Rr X d MRm_signed 0 [.ref a, mkU] [] (Wd mu la ro et)).bind fun q => Rr X (d + 1) MRm_readLump 42 L (psh q.1 st) q.2 := R_iv (av := []) d_MRm_readLump_39 fc_10_131 hO (ckS_le hc) rfl (Nat.le_of_ble_eq_true rfl) (Nat.le_of_ble_eq_true rfl)
theorem r_MRm_readLump_42 {a : Nat} {j x : Int32} (hq : (qA a 0).isSome = true) : Rr X d MRm_readLump 42 L (.int x :: .int j :: .ref a :: st) (Wd mu la ro et) = if j < 0 ∨ qAd a 0 ≤ j.toNatClampNeg then none else Rr X d MRm_readLump 43 L st (Wd (up2 mu a j.toNatClampNeg (x)) la ro et) := R_iasW d_MRm_readLump_42 hq
theorem r_MRm_readLump_43 {l1 l2 : Value} {x : Nat} : Rr X d MRm_readLump 43 [.ref x, l1, l2] st h = Rr X d MRm_readLump 44 [.ref x, l1, l2] (.ref x :: st) h := Rr_nx d_MRm_readLump_43 rfl
theorem r_MRm_readLump_44 {a : Nat} (hq : (qR a 10 4).isSome = true) : Rr X d MRm_readLump 44 L (.ref a :: st) (Wd mu la ro et) = Rr X d MRm_readLump 47 L (.ref (qRd a 10 4) :: st) (Wd mu la ro et) := R_gfR d_MRm_readLump_44 ff_10_13 hq
theorem r_MRm_readLump_47 {l0 l2 : Value} {x : Int32} : Rr X d MRm_readLump 47 [l0, .int x, l2] st h = Rr X d MRm_readLump 48 [l0, .int x, l2] (.int x :: st) h := Rr_nx d_MRm_readLump_47 rfl
theorem r_MRm_readLump_48 {x : Int32} {y : Nat} : Rr X d MRm_readLump 48 L (.int x :: .ref y :: st) h = Rr X d MRm_readLump 49 L (.int x :: .ref y :: .int x :: .ref y :: st) h := Rr_nx d_MRm_readLump_48 rfl
theorem r_MRm_readLump_49 {a : Nat} {j : Int32} (hq : (qA a 0).isSome = true) : Rr X d MRm_readLump 49 L (.int j :: .ref a :: st) (Wd mu la ro et) = if j < 0 ∨ qAd a 0 ≤ j.toNatClampNeg then none else Rr X d MRm_readLump 50 L (.int (mu a j.toNatClampNeg) :: st) (Wd mu la ro et) := R_ialW d_MRm_readLump_49 hq
theorem r_MRm_readLump_50 : Rr X d MRm_readLump 50 L st h = Rr X d MRm_readLump 51 L (.int (1) :: st) h := Rr_nx d_MRm_readLump_50 rfl
theorem r_MRm_readLump_51 {x y : Int32} : Rr X d MRm_readLump 51 L (.int y :: .int x :: st) h = Rr X d MRm_readLump 52 L (.int (x + y) :: st) h := Rr_nx d_MRm_readLump_51 rfl
theorem r_MRm_readLump_52 {a : Nat} {j x : Int32} (hq : (qA a 0).isSome = true) : Rr X d MRm_readLump 52 L (.int x :: .int j :: .ref a :: st) (Wd mu la ro et) = if j < 0 ∨ qAd a 0 ≤ j.toNatClampNeg then none else Rr X d MRm_readLump 53 L st (Wd (up2 mu a j.toNatClampNeg (x)) la ro et) := R_iasW d_MRm_readLump_52 hq
theorem r_MRm_readLump_53 : Rr X d MRm_readLump 53 L [] h = some (none, h) := Rr_rt d_MRm_readLump_53 rfl
theorem d_MRm_stone_0 : decode MRm_stone.2.2.1 0 = .ok (.aload_n 0, 1) := by decide +kernel
theorem d_MRm_stone_1 : decode MRm_stone.2.2.1 1 = .ok (.getfield 114, 3) := by decide +kernel
theorem d_MRm_stone_4 : decode MRm_stone.2.2.1 4 = .ok (.bipush 6, 2) := by decide +kernel
theorem d_MRm_stone_6 : decode MRm_stone.2.2.1 6 = .ok (.if_icmp .ne 6, 3) := by decide +kernel
theorem d_MRm_stone_9 : decode MRm_stone.2.2.1 9 = .ok (.bipush (-3), 2) := by decide +kernel
theorem d_MRm_stone_11 : decode MRm_stone.2.2.1 11 = .ok (.ireturn, 1) := by decide +kernel
theorem d_MRm_stone_12 : decode MRm_stone.2.2.1 12 = .ok (.aload_n 0, 1) := by decide +kernel
theorem d_MRm_stone_13 : decode MRm_stone.2.2.1 13 = .ok (.iconst 0, 1) := by decide +kernel
theorem d_MRm_stone_14 : decode MRm_stone.2.2.1 14 = .ok (.putfield 120, 3) := by decide +kernel
theorem d_MRm_stone_17 : decode MRm_stone.2.2.1 17 = .ok (.aload_n 0, 1) := by decide +kernel
theorem d_MRm_stone_18 : decode MRm_stone.2.2.1 18 = .ok (.iconst (-1), 1) := by decide +kernel
theorem d_MRm_stone_19 : decode MRm_stone.2.2.1 19 = .ok (.putfield 117, 3) := by decide +kernel
theorem d_MRm_stone_22 : decode MRm_stone.2.2.1 22 = .ok (.aload_n 0, 1) := by decide +kernel
theorem d_MRm_stone_23 : decode MRm_stone.2.2.1 23 = .ok (.getfield 114, 3) := by decide +kernel
theorem d_MRm_stone_26 : decode MRm_stone.2.2.1 26 = .ok (.istore_n 1, 1) := by decide +kernel
theorem d_MRm_stone_27 : decode MRm_stone.2.2.1 27 = .ok (.aload_n 0, 1) := by decide +kernel
theorem d_MRm_stone_28 : decode MRm_stone.2.2.1 28 = .ok (.getfield 13, 3) := by decide +kernel
theorem d_MRm_stone_31 : decode MRm_stone.2.2.1 31 = .ok (.iload_n 1, 1) := by decide +kernel
theorem d_MRm_stone_32 : decode MRm_stone.2.2.1 32 = .ok (.iconst 0, 1) := by decide +kernel
theorem d_MRm_stone_33 : decode MRm_stone.2.2.1 33 = .ok (.iastore, 1) := by decide +kernel
theorem d_MRm_stone_34 : decode MRm_stone.2.2.1 34 = .ok (.aload_n 0, 1) := by decide +kernel
theorem d_MRm_stone_35 : decode MRm_stone.2.2.1 35 = .ok (.iload_n 1, 1) := by decide +kernel
theorem d_MRm_stone_36 : decode MRm_stone.2.2.1 36 = .ok (.invokevirtual 135, 3) := by decide +kernel
theorem d_MRm_stone_39 : decode MRm_stone.2.2.1 39 = .ok (.aload_n 0, 1) := by decide +kernel
theorem d_MRm_stone_40 : decode MRm_stone.2.2.1 40 = .ok (.bipush 59, 2) := by decide +kernel
theorem d_MRm_stone_42 : decode MRm_stone.2.2.1 42 = .ok (.invokevirtual 123, 3) := by decide +kernel
theorem d_MRm_stone_45 : decode MRm_stone.2.2.1 45 = .ok (.ifCond .eq 32, 3) := by decide +kernel
theorem d_MRm_stone_48 : decode MRm_stone.2.2.1 48 = .ok (.aload_n 0, 1) := by decide +kernel
theorem d_MRm_stone_49 : decode MRm_stone.2.2.1 49 = .ok (.getfield 13, 3) := by decide +kernel
theorem d_MRm_stone_52 : decode MRm_stone.2.2.1 52 = .ok (.iload_n 1, 1) := by decide +kernel
theorem d_MRm_stone_53 : decode MRm_stone.2.2.1 53 = .ok (.iaload, 1) := by decide +kernel
theorem d_MRm_stone_54 : decode MRm_stone.2.2.1 54 = .ok (.bipush 12, 2) := by decide +kernel
theorem d_MRm_stone_56 : decode MRm_stone.2.2.1 56 = .ok (.if_icmp .ge 21, 3) := by decide +kernel
theorem d_MRm_stone_59 : decode MRm_stone.2.2.1 59 = .ok (.aload_n 0, 1) := by decide +kernel
theorem d_MRm_stone_60 : decode MRm_stone.2.2.1 60 = .ok (.dup, 1) := by decide +kernel
theorem d_MRm_stone_61 : decode MRm_stone.2.2.1 61 = .ok (.getfield 120, 3) := by decide +kernel
theorem d_MRm_stone_64 : decode MRm_stone.2.2.1 64 = .ok (.iconst 1, 1) := by decide +kernel
theorem d_MRm_stone_65 : decode MRm_stone.2.2.1 65 = .ok (.iadd, 1) := by decide +kernel
theorem d_MRm_stone_66 : decode MRm_stone.2.2.1 66 = .ok (.putfield 120, 3) := by decide +kernel
theorem d_MRm_stone_69 : decode MRm_stone.2.2.1 69 = .ok (.aload_n 0, 1) := by decide +kernel
theorem d_MRm_stone_70 : decode MRm_stone.2.2.1 70 = .ok (.iload_n 1, 1) := by decide +kernel
theorem d_MRm_stone_71 : decode MRm_stone.2.2.1 71 = .ok (.invokevirtual 135, 3) := by decide +kernel
theorem d_MRm_stone_74 : decode MRm_stone.2.2.1 74 = .ok (.goto (-35), 3) := by decide +kernel
theorem d_MRm_stone_77 : decode MRm_stone.2.2.1 77 = .ok (.aload_n 0, 1) := by decide +kernel
theorem d_MRm_stone_78 : decode MRm_stone.2.2.1 78 = .ok (.bipush 47, 2) := by decide +kernel
theorem d_MRm_stone_80 : decode MRm_stone.2.2.1 80 = .ok (.invokevirtual 139, 3) := by decide +kernel
theorem d_MRm_stone_83 : decode MRm_stone.2.2.1 83 = .ok (.iconst 0, 1) := by decide +kernel
theorem d_MRm_stone_84 : decode MRm_stone.2.2.1 84 = .ok (.istore_n 2, 1) := by decide +kernel
theorem d_MRm_stone_85 : decode MRm_stone.2.2.1 85 = .ok (.iload_n 2, 1) := by decide +kernel
theorem d_MRm_stone_86 : decode MRm_stone.2.2.1 86 = .ok (.iconst 4, 1) := by decide +kernel
theorem d_MRm_stone_87 : decode MRm_stone.2.2.1 87 = .ok (.if_icmp .ge 46, 3) := by decide +kernel
theorem d_MRm_stone_90 : decode MRm_stone.2.2.1 90 = .ok (.iload_n 2, 1) := by decide +kernel
theorem d_MRm_stone_91 : decode MRm_stone.2.2.1 91 = .ok (.ifCond .le 9, 3) := by decide +kernel
theorem d_MRm_stone_94 : decode MRm_stone.2.2.1 94 = .ok (.aload_n 0, 1) := by decide +kernel
theorem d_MRm_stone_95 : decode MRm_stone.2.2.1 95 = .ok (.bipush 44, 2) := by decide +kernel
theorem d_MRm_stone_97 : decode MRm_stone.2.2.1 97 = .ok (.invokevirtual 139, 3) := by decide +kernel
theorem d_MRm_stone_100 : decode MRm_stone.2.2.1 100 = .ok (.aload_n 0, 1) := by decide +kernel
theorem d_MRm_stone_101 : decode MRm_stone.2.2.1 101 = .ok (.getfield 26, 3) := by decide +kernel
theorem d_MRm_stone_104 : decode MRm_stone.2.2.1 104 = .ok (.iconst 4, 1) := by decide +kernel
theorem d_MRm_stone_105 : decode MRm_stone.2.2.1 105 = .ok (.iload_n 1, 1) := by decide +kernel
theorem d_MRm_stone_106 : decode MRm_stone.2.2.1 106 = .ok (.imul, 1) := by decide +kernel
theorem d_MRm_stone_107 : decode MRm_stone.2.2.1 107 = .ok (.iload_n 2, 1) := by decide +kernel
theorem d_MRm_stone_108 : decode MRm_stone.2.2.1 108 = .ok (.iadd, 1) := by decide +kernel
theorem d_MRm_stone_109 : decode MRm_stone.2.2.1 109 = .ok (.aload_n 0, 1) := by decide +kernel
theorem d_MRm_stone_110 : decode MRm_stone.2.2.1 110 = .ok (.iload_n 2, 1) := by decide +kernel
theorem d_MRm_stone_111 : decode MRm_stone.2.2.1 111 = .ok (.iconst 2, 1) := by decide +kernel
theorem d_MRm_stone_112 : decode MRm_stone.2.2.1 112 = .ok (.if_icmp .ge 9, 3) := by decide +kernel
theorem d_MRm_stone_115 : decode MRm_stone.2.2.1 115 = .ok (.sipush 999, 3) := by decide +kernel
theorem d_MRm_stone_118 : decode MRm_stone.2.2.1 118 = .ok (.goto 5, 3) := by decide +kernel
theorem d_MRm_stone_121 : decode MRm_stone.2.2.1 121 = .ok (.bipush 100, 2) := by decide +kernel
theorem d_MRm_stone_123 : decode MRm_stone.2.2.1 123 = .ok (.invokevirtual 142, 3) := by decide +kernel
theorem d_MRm_stone_126 : decode MRm_stone.2.2.1 126 = .ok (.iastore, 1) := by decide +kernel
theorem d_MRm_stone_127 : decode MRm_stone.2.2.1 127 = .ok (.iinc 2 1, 3) := by decide +kernel
theorem d_MRm_stone_130 : decode MRm_stone.2.2.1 130 = .ok (.goto (-45), 3) := by decide +kernel
theorem d_MRm_stone_133 : decode MRm_stone.2.2.1 133 = .ok (.aload_n 0, 1) := by decide +kernel
theorem d_MRm_stone_134 : decode MRm_stone.2.2.1 134 = .ok (.getfield 117, 3) := by decide +kernel
theorem d_MRm_stone_137 : decode MRm_stone.2.2.1 137 = .ok (.ifCond .ge 22, 3) := by decide +kernel
theorem d_MRm_stone_140 : decode MRm_stone.2.2.1 140 = .ok (.aload_n 0, 1) := by decide +kernel
theorem d_MRm_stone_141 : decode MRm_stone.2.2.1 141 = .ok (.getfield 120, 3) := by decide +kernel
theorem d_MRm_stone_144 : decode MRm_stone.2.2.1 144 = .ok (.aload_n 0, 1) := by decide +kernel
theorem d_MRm_stone_145 : decode MRm_stone.2.2.1 145 = .ok (.getfield 111, 3) := by decide +kernel
theorem d_MRm_stone_148 : decode MRm_stone.2.2.1 148 = .ok (.if_icmp .ge 11, 3) := by decide +kernel
theorem d_MRm_stone_151 : decode MRm_stone.2.2.1 151 = .ok (.aload_n 0, 1) := by decide +kernel
theorem d_MRm_stone_152 : decode MRm_stone.2.2.1 152 = .ok (.aload_n 0, 1) := by decide +kernel
theorem d_MRm_stone_153 : decode MRm_stone.2.2.1 153 = .ok (.getfield 120, 3) := by decide +kernel
theorem d_MRm_stone_156 : decode MRm_stone.2.2.1 156 = .ok (.putfield 117, 3) := by decide +kernel
theorem d_MRm_stone_159 : decode MRm_stone.2.2.1 159 = .ok (.aload_n 0, 1) := by decide +kernel
theorem d_MRm_stone_160 : decode MRm_stone.2.2.1 160 = .ok (.iconst 0, 1) := by decide +kernel
theorem d_MRm_stone_161 : decode MRm_stone.2.2.1 161 = .ok (.putfield 111, 3) := by decide +kernel
theorem d_MRm_stone_164 : decode MRm_stone.2.2.1 164 = .ok (.aload_n 0, 1) := by decide +kernel
theorem d_MRm_stone_165 : decode MRm_stone.2.2.1 165 = .ok (.getfield 117, 3) := by decide +kernel
theorem d_MRm_stone_168 : decode MRm_stone.2.2.1 168 = .ok (.ifCond .lt 11, 3) := by decide +kernel
theorem d_MRm_stone_171 : decode MRm_stone.2.2.1 171 = .ok (.bipush (-100), 2) := by decide +kernel
theorem d_MRm_stone_173 : decode MRm_stone.2.2.1 173 = .ok (.aload_n 0, 1) := by decide +kernel
theorem d_MRm_stone_174 : decode MRm_stone.2.2.1 174 = .ok (.getfield 117, 3) := by decide +kernel
theorem d_MRm_stone_177 : decode MRm_stone.2.2.1 177 = .ok (.isub, 1) := by decide +kernel
theorem d_MRm_stone_178 : decode MRm_stone.2.2.1 178 = .ok (.ireturn, 1) := by decide +kernel
theorem d_MRm_stone_179 : decode MRm_stone.2.2.1 179 = .ok (.aload_n 0, 1) := by decide +kernel
theorem d_MRm_stone_180 : decode MRm_stone.2.2.1 180 = .ok (.dup, 1) := by decide +kernel
theorem d_MRm_stone_181 : decode MRm_stone.2.2.1 181 = .ok (.getfield 114, 3) := by decide +kernel
theorem d_MRm_stone_184 : decode MRm_stone.2.2.1 184 = .ok (.iconst 1, 1) := by decide +kernel
theorem d_MRm_stone_185 : decode MRm_stone.2.2.1 185 = .ok (.iadd, 1) := by decide +kernel
theorem d_MRm_stone_186 : decode MRm_stone.2.2.1 186 = .ok (.putfield 114, 3) := by decide +kernel
theorem d_MRm_stone_189 : decode MRm_stone.2.2.1 189 = .ok (.iload_n 1, 1) := by decide +kernel
theorem d_MRm_stone_190 : decode MRm_stone.2.2.1 190 = .ok (.ireturn, 1) := by decide +kernel
theorem r_MRm_stone_0 {l1 l2 : Value} {x : Nat} : Rr X d MRm_stone 0 [.ref x, l1, l2] st h = Rr X d MRm_stone 1 [.ref x, l1, l2] (.ref x :: st) h := Rr_nx d_MRm_stone_0 rfl
theorem r_MRm_stone_1 {a : Nat} (hq : qI a 10 3 = true) : Rr X d MRm_stone 1 L (.ref a :: st) (Wd mu la ro et) = Rr X d MRm_stone 4 L (.int (mu a 3) :: st) (Wd mu la ro et) := R_gfI d_MRm_stone_1 ff_10_114 hq
theorem r_MRm_stone_4 : Rr X d MRm_stone 4 L st h = Rr X d MRm_stone 6 L (.int (6) :: st) h := Rr_nx d_MRm_stone_4 rfl
theorem r_MRm_stone_6 {x y : Int32} : Rr X d MRm_stone 6 L (.int y :: .int x :: st) h = if ¬ x = y then Rr X d MRm_stone 12 L st h else Rr X d MRm_stone 9 L st h := R_ic_ne d_MRm_stone_6 (by decide)
theorem r_MRm_stone_9 : Rr X d MRm_stone 9 L st h = Rr X d MRm_stone 11 L (.int (-3) :: st) h := Rr_nx d_MRm_stone_9 rfl
theorem r_MRm_stone_11 {x : Int32} : Rr X d MRm_stone 11 L [.int x] h = some (some (.int x), h) := R_ir d_MRm_stone_11 rfl
theorem r_MRm_stone_12 {l1 l2 : Value} {x : Nat} : Rr X d MRm_stone 12 [.ref x, l1, l2] st h = Rr X d MRm_stone 13 [.ref x, l1, l2] (.ref x :: st) h := Rr_nx d_MRm_stone_12 rfl
theorem r_MRm_stone_13 : Rr X d MRm_stone 13 L st h = Rr X d MRm_stone 14 L (.int (0) :: st) h := Rr_nx d_MRm_stone_13 rfl
theorem r_MRm_stone_14 {a : Nat} {x : Int32} (hq : qI a 10 18 = true) : Rr X d MRm_stone 14 L (.int x :: .ref a :: st) (Wd mu la ro et) = Rr X d MRm_stone 17 L st (Wd (up2 mu a 18 x) la ro et) := R_pfI d_MRm_stone_14 ff_10_120 hq
theorem r_MRm_stone_17 {l1 l2 : Value} {x : Nat} : Rr X d MRm_stone 17 [.ref x, l1, l2] st h = Rr X d MRm_stone 18 [.ref x, l1, l2] (.ref x :: st) h := Rr_nx d_MRm_stone_17 rfl
theorem r_MRm_stone_18 : Rr X d MRm_stone 18 L st h = Rr X d MRm_stone 19 L (.int (-1) :: st) h := Rr_nx d_MRm_stone_18 rfl
theorem r_MRm_stone_19 {a : Nat} {x : Int32} (hq : qI a 10 19 = true) : Rr X d MRm_stone 19 L (.int x :: .ref a :: st) (Wd mu la ro et) = Rr X d MRm_stone 22 L st (Wd (up2 mu a 19 x) la ro et) := R_pfI d_MRm_stone_19 ff_10_117 hq
theorem r_MRm_stone_22 {l1 l2 : Value} {x : Nat} : Rr X d MRm_stone 22 [.ref x, l1, l2] st h = Rr X d MRm_stone 23 [.ref x, l1, l2] (.ref x :: st) h := Rr_nx d_MRm_stone_22 rfl
theorem r_MRm_stone_23 {a : Nat} (hq : qI a 10 3 = true) : Rr X d MRm_stone 23 L (.ref a :: st) (Wd mu la ro et) = Rr X d MRm_stone 26 L (.int (mu a 3) :: st) (Wd mu la ro et) := R_gfI d_MRm_stone_23 ff_10_114 hq
theorem r_MRm_stone_26 {l0 l1 l2 : Value} {x : Int32} : Rr X d MRm_stone 26 [l0, l1, l2] (.int x :: st) h = Rr X d MRm_stone 27 (sL [l0, l1, l2] 1 (.int x)) st h := Rr_nx d_MRm_stone_26 rfl
theorem r_MRm_stone_27 {l1 l2 : Value} {x : Nat} : Rr X d MRm_stone 27 [.ref x, l1, l2] st h = Rr X d MRm_stone 28 [.ref x, l1, l2] (.ref x :: st) h := Rr_nx d_MRm_stone_27 rfl
theorem r_MRm_stone_28 {a : Nat} (hq : (qR a 10 4).isSome = true) : Rr X d MRm_stone 28 L (.ref a :: st) (Wd mu la ro et) = Rr X d MRm_stone 31 L (.ref (qRd a 10 4) :: st) (Wd mu la ro et) := R_gfR d_MRm_stone_28 ff_10_13 hq
theorem r_MRm_stone_31 {l0 l2 : Value} {x : Int32} : Rr X d MRm_stone 31 [l0, .int x, l2] st h = Rr X d MRm_stone 32 [l0, .int x, l2] (.int x :: st) h := Rr_nx d_MRm_stone_31 rfl
theorem r_MRm_stone_32 : Rr X d MRm_stone 32 L st h = Rr X d MRm_stone 33 L (.int (0) :: st) h := Rr_nx d_MRm_stone_32 rfl
theorem r_MRm_stone_33 {a : Nat} {j x : Int32} (hq : (qA a 0).isSome = true) : Rr X d MRm_stone 33 L (.int x :: .int j :: .ref a :: st) (Wd mu la ro et) = if j < 0 ∨ qAd a 0 ≤ j.toNatClampNeg then none else Rr X d MRm_stone 34 L st (Wd (up2 mu a j.toNatClampNeg (x)) la ro et) := R_iasW d_MRm_stone_33 hq
theorem r_MRm_stone_34 {l1 l2 : Value} {x : Nat} : Rr X d MRm_stone 34 [.ref x, l1, l2] st h = Rr X d MRm_stone 35 [.ref x, l1, l2] (.ref x :: st) h := Rr_nx d_MRm_stone_34 rfl
theorem r_MRm_stone_35 {l0 l2 : Value} {x : Int32} : Rr X d MRm_stone 35 [l0, .int x, l2] st h = Rr X d MRm_stone 36 [l0, .int x, l2] (.int x :: st) h := Rr_nx d_MRm_stone_35 rfl
theorem fc_10_135 : fC 10 135 = some (0, 10, 1, MRm_readLump) := rfl
theorem r_MRm_stone_36 {y0 : Int32} {a : Nat} (hO : qO a 10 = true) (hc : ckS st = true) : Rr X (d + 1) MRm_stone 36 L (.int y0 :: .ref a :: st) (Wd mu la ro et) = (Rr X d MRm_readLump 0 [.ref a, .int y0, mkU] [] (Wd mu la ro et)).bind fun q => Rr X (d + 1) MRm_stone 39 L (psh q.1 st) q.2 := R_iv (av := [.int y0]) d_MRm_stone_36 fc_10_135 hO (ckS_le hc) rfl (Nat.le_of_ble_eq_true rfl) (Nat.le_of_ble_eq_true rfl)
theorem r_MRm_stone_39 {l1 l2 : Value} {x : Nat} : Rr X d MRm_stone 39 [.ref x, l1, l2] st h = Rr X d MRm_stone 40 [.ref x, l1, l2] (.ref x :: st) h := Rr_nx d_MRm_stone_39 rfl
theorem r_MRm_stone_40 : Rr X d MRm_stone 40 L st h = Rr X d MRm_stone 42 L (.int (59) :: st) h := Rr_nx d_MRm_stone_40 rfl
theorem r_MRm_stone_42 {y0 : Int32} {a : Nat} (hO : qO a 10 = true) (hc : ckS st = true) : Rr X (d + 1) MRm_stone 42 L (.int y0 :: .ref a :: st) (Wd mu la ro et) = (Rr X d MRm_isHere 0 [.ref a, .int y0] [] (Wd mu la ro et)).bind fun q => Rr X (d + 1) MRm_stone 45 L (psh q.1 st) q.2 := R_iv (av := [.int y0]) d_MRm_stone_42 fc_10_123 hO (ckS_le hc) rfl (Nat.le_of_ble_eq_true rfl) (Nat.le_of_ble_eq_true rfl)
theorem r_MRm_stone_45 {x : Int32} : Rr X d MRm_stone 45 L (.int x :: st) h = if x = 0 then Rr X d MRm_stone 77 L st h else Rr X d MRm_stone 48 L st h := R_if_eq d_MRm_stone_45 (by decide)
theorem r_MRm_stone_48 {l1 l2 : Value} {x : Nat} : Rr X d MRm_stone 48 [.ref x, l1, l2] st h = Rr X d MRm_stone 49 [.ref x, l1, l2] (.ref x :: st) h := Rr_nx d_MRm_stone_48 rfl
theorem r_MRm_stone_49 {a : Nat} (hq : (qR a 10 4).isSome = true) : Rr X d MRm_stone 49 L (.ref a :: st) (Wd mu la ro et) = Rr X d MRm_stone 52 L (.ref (qRd a 10 4) :: st) (Wd mu la ro et) := R_gfR d_MRm_stone_49 ff_10_13 hq
theorem r_MRm_stone_52 {l0 l2 : Value} {x : Int32} : Rr X d MRm_stone 52 [l0, .int x, l2] st h = Rr X d MRm_stone 53 [l0, .int x, l2] (.int x :: st) h := Rr_nx d_MRm_stone_52 rfl
theorem r_MRm_stone_53 {a : Nat} {j : Int32} (hq : (qA a 0).isSome = true) : Rr X d MRm_stone 53 L (.int j :: .ref a :: st) (Wd mu la ro et) = if j < 0 ∨ qAd a 0 ≤ j.toNatClampNeg then none else Rr X d MRm_stone 54 L (.int (mu a j.toNatClampNeg) :: st) (Wd mu la ro et) := R_ialW d_MRm_stone_53 hq
theorem r_MRm_stone_54 : Rr X d MRm_stone 54 L st h = Rr X d MRm_stone 56 L (.int (12) :: st) h := Rr_nx d_MRm_stone_54 rfl
theorem r_MRm_stone_56 {x y : Int32} : Rr X d MRm_stone 56 L (.int y :: .int x :: st) h = if y ≤ x then Rr X d MRm_stone 77 L st h else Rr X d MRm_stone 59 L st h := R_ic_ge d_MRm_stone_56 (by decide)
theorem r_MRm_stone_59 {l1 l2 : Value} {x : Nat} : Rr X d MRm_stone 59 [.ref x, l1, l2] st h = Rr X d MRm_stone 60 [.ref x, l1, l2] (.ref x :: st) h := Rr_nx d_MRm_stone_59 rfl
theorem r_MRm_stone_60 {x : Nat} : Rr X d MRm_stone 60 L (.ref x :: st) h = Rr X d MRm_stone 61 L (.ref x :: .ref x :: st) h := Rr_nx d_MRm_stone_60 rfl
theorem r_MRm_stone_60i {x : Int32} : Rr X d MRm_stone 60 L (.int x :: st) h = Rr X d MRm_stone 61 L (.int x :: .int x :: st) h := Rr_nx d_MRm_stone_60 rfl
theorem r_MRm_stone_61 {a : Nat} (hq : qI a 10 18 = true) : Rr X d MRm_stone 61 L (.ref a :: st) (Wd mu la ro et) = Rr X d MRm_stone 64 L (.int (mu a 18) :: st) (Wd mu la ro et) := R_gfI d_MRm_stone_61 ff_10_120 hq
theorem r_MRm_stone_64 : Rr X d MRm_stone 64 L st h = Rr X d MRm_stone 65 L (.int (1) :: st) h := Rr_nx d_MRm_stone_64 rfl
theorem r_MRm_stone_65 {x y : Int32} : Rr X d MRm_stone 65 L (.int y :: .int x :: st) h = Rr X d MRm_stone 66 L (.int (x + y) :: st) h := Rr_nx d_MRm_stone_65 rfl
theorem r_MRm_stone_66 {a : Nat} {x : Int32} (hq : qI a 10 18 = true) : Rr X d MRm_stone 66 L (.int x :: .ref a :: st) (Wd mu la ro et) = Rr X d MRm_stone 69 L st (Wd (up2 mu a 18 x) la ro et) := R_pfI d_MRm_stone_66 ff_10_120 hq
theorem r_MRm_stone_69 {l1 l2 : Value} {x : Nat} : Rr X d MRm_stone 69 [.ref x, l1, l2] st h = Rr X d MRm_stone 70 [.ref x, l1, l2] (.ref x :: st) h := Rr_nx d_MRm_stone_69 rfl
theorem r_MRm_stone_70 {l0 l2 : Value} {x : Int32} : Rr X d MRm_stone 70 [l0, .int x, l2] st h = Rr X d MRm_stone 71 [l0, .int x, l2] (.int x :: st) h := Rr_nx d_MRm_stone_70 rfl
theorem r_MRm_stone_71 {y0 : Int32} {a : Nat} (hO : qO a 10 = true) (hc : ckS st = true) : Rr X (d + 1) MRm_stone 71 L (.int y0 :: .ref a :: st) (Wd mu la ro et) = (Rr X d MRm_readLump 0 [.ref a, .int y0, mkU] [] (Wd mu la ro et)).bind fun q => Rr X (d + 1) MRm_stone 74 L (psh q.1 st) q.2 := R_iv (av := [.int y0]) d_MRm_stone_71 fc_10_135 hO (ckS_le hc) rfl (Nat.le_of_ble_eq_true rfl) (Nat.le_of_ble_eq_true rfl)
theorem r_MRm_stone_74 : Rr X d MRm_stone 74 L st h = Rr X d MRm_stone 39 L st h := R_goto d_MRm_stone_74 (by decide)
theorem r_MRm_stone_77 {l1 l2 : Value} {x : Nat} : Rr X d MRm_stone 77 [.ref x, l1, l2] st h = Rr X d MRm_stone 78 [.ref x, l1, l2] (.ref x :: st) h := Rr_nx d_MRm_stone_77 rfl
theorem r_MRm_stone_78 : Rr X d MRm_stone 78 L st h = Rr X d MRm_stone 80 L (.int (47) :: st) h := Rr_nx d_MRm_stone_78 rfl
theorem fc_10_139 : fC 10 139 = some (0, 10, 1, MRm_takes) := rfl
theorem r_MRm_stone_80 {y0 : Int32} {a : Nat} (hO : qO a 10 = true) (hc : ckS st = true) : Rr X (d + 1) MRm_stone 80 L (.int y0 :: .ref a :: st) (Wd mu la ro et) = (Rr X d MRm_takes 0 [.ref a, .int y0] [] (Wd mu la ro et)).bind fun q => Rr X (d + 1) MRm_stone 83 L (psh q.1 st) q.2 := R_iv (av := [.int y0]) d_MRm_stone_80 fc_10_139 hO (ckS_le hc) rfl (Nat.le_of_ble_eq_true rfl) (Nat.le_of_ble_eq_true rfl)
theorem r_MRm_stone_83 : Rr X d MRm_stone 83 L st h = Rr X d MRm_stone 84 L (.int (0) :: st) h := Rr_nx d_MRm_stone_83 rfl
theorem r_MRm_stone_84 {l0 l1 l2 : Value} {x : Int32} : Rr X d MRm_stone 84 [l0, l1, l2] (.int x :: st) h = Rr X d MRm_stone 85 (sL [l0, l1, l2] 2 (.int x)) st h := Rr_nx d_MRm_stone_84 rfl
theorem r_MRm_stone_85 {l0 l1 : Value} {x : Int32} : Rr X d MRm_stone 85 [l0, l1, .int x] st h = Rr X d MRm_stone 86 [l0, l1, .int x] (.int x :: st) h := Rr_nx d_MRm_stone_85 rfl
theorem r_MRm_stone_86 : Rr X d MRm_stone 86 L st h = Rr X d MRm_stone 87 L (.int (4) :: st) h := Rr_nx d_MRm_stone_86 rfl
theorem r_MRm_stone_87 {x y : Int32} : Rr X d MRm_stone 87 L (.int y :: .int x :: st) h = if y ≤ x then Rr X d MRm_stone 133 L st h else Rr X d MRm_stone 90 L st h := R_ic_ge d_MRm_stone_87 (by decide)
theorem r_MRm_stone_90 {l0 l1 : Value} {x : Int32} : Rr X d MRm_stone 90 [l0, l1, .int x] st h = Rr X d MRm_stone 91 [l0, l1, .int x] (.int x :: st) h := Rr_nx d_MRm_stone_90 rfl
theorem r_MRm_stone_91 {x : Int32} : Rr X d MRm_stone 91 L (.int x :: st) h = if x ≤ 0 then Rr X d MRm_stone 100 L st h else Rr X d MRm_stone 94 L st h := R_if_le d_MRm_stone_91 (by decide)
theorem r_MRm_stone_94 {l1 l2 : Value} {x : Nat} : Rr X d MRm_stone 94 [.ref x, l1, l2] st h = Rr X d MRm_stone 95 [.ref x, l1, l2] (.ref x :: st) h := Rr_nx d_MRm_stone_94 rfl
theorem r_MRm_stone_95 : Rr X d MRm_stone 95 L st h = Rr X d MRm_stone 97 L (.int (44) :: st) h := Rr_nx d_MRm_stone_95 rfl
theorem r_MRm_stone_97 {y0 : Int32} {a : Nat} (hO : qO a 10 = true) (hc : ckS st = true) : Rr X (d + 1) MRm_stone 97 L (.int y0 :: .ref a :: st) (Wd mu la ro et) = (Rr X d MRm_takes 0 [.ref a, .int y0] [] (Wd mu la ro et)).bind fun q => Rr X (d + 1) MRm_stone 100 L (psh q.1 st) q.2 := R_iv (av := [.int y0]) d_MRm_stone_97 fc_10_139 hO (ckS_le hc) rfl (Nat.le_of_ble_eq_true rfl) (Nat.le_of_ble_eq_true rfl)
theorem r_MRm_stone_100 {l1 l2 : Value} {x : Nat} : Rr X d MRm_stone 100 [.ref x, l1, l2] st h = Rr X d MRm_stone 101 [.ref x, l1, l2] (.ref x :: st) h := Rr_nx d_MRm_stone_100 rfl
theorem ff_10_26 : fF 10 26 = some (10, 8, 1, 1) := rfl
theorem r_MRm_stone_101 {a : Nat} (hq : (qR a 10 8).isSome = true) : Rr X d MRm_stone 101 L (.ref a :: st) (Wd mu la ro et) = Rr X d MRm_stone 104 L (.ref (qRd a 10 8) :: st) (Wd mu la ro et) := R_gfR d_MRm_stone_101 ff_10_26 hq
theorem r_MRm_stone_104 : Rr X d MRm_stone 104 L st h = Rr X d MRm_stone 105 L (.int (4) :: st) h := Rr_nx d_MRm_stone_104 rfl
theorem r_MRm_stone_105 {l0 l2 : Value} {x : Int32} : Rr X d MRm_stone 105 [l0, .int x, l2] st h = Rr X d MRm_stone 106 [l0, .int x, l2] (.int x :: st) h := Rr_nx d_MRm_stone_105 rfl
theorem r_MRm_stone_106 {x y : Int32} : Rr X d MRm_stone 106 L (.int y :: .int x :: st) h = Rr X d MRm_stone 107 L (.int (x * y) :: st) h := Rr_nx d_MRm_stone_106 rfl
theorem r_MRm_stone_107 {l0 l1 : Value} {x : Int32} : Rr X d MRm_stone 107 [l0, l1, .int x] st h = Rr X d MRm_stone 108 [l0, l1, .int x] (.int x :: st) h := Rr_nx d_MRm_stone_107 rfl
theorem r_MRm_stone_108 {x y : Int32} : Rr X d MRm_stone 108 L (.int y :: .int x :: st) h = Rr X d MRm_stone 109 L (.int (x + y) :: st) h := Rr_nx d_MRm_stone_108 rfl
theorem r_MRm_stone_109 {l1 l2 : Value} {x : Nat} : Rr X d MRm_stone 109 [.ref x, l1, l2] st h = Rr X d MRm_stone 110 [.ref x, l1, l2] (.ref x :: st) h := Rr_nx d_MRm_stone_109 rfl
theorem r_MRm_stone_110 {l0 l1 : Value} {x : Int32} : Rr X d MRm_stone 110 [l0, l1, .int x] st h = Rr X d MRm_stone 111 [l0, l1, .int x] (.int x :: st) h := Rr_nx d_MRm_stone_110 rfl
theorem r_MRm_stone_111 : Rr X d MRm_stone 111 L st h = Rr X d MRm_stone 112 L (.int (2) :: st) h := Rr_nx d_MRm_stone_111 rfl
theorem r_MRm_stone_112 {x y : Int32} : Rr X d MRm_stone 112 L (.int y :: .int x :: st) h = if y ≤ x then Rr X d MRm_stone 121 L st h else Rr X d MRm_stone 115 L st h := R_ic_ge d_MRm_stone_112 (by decide)
theorem r_MRm_stone_115 : Rr X d MRm_stone 115 L st h = Rr X d MRm_stone 118 L (.int (999) :: st) h := Rr_nx d_MRm_stone_115 rfl
theorem r_MRm_stone_118 : Rr X d MRm_stone 118 L st h = Rr X d MRm_stone 123 L st h := R_goto d_MRm_stone_118 (by decide)
theorem r_MRm_stone_121 : Rr X d MRm_stone 121 L st h = Rr X d MRm_stone 123 L (.int (100) :: st) h := Rr_nx d_MRm_stone_121 rfl
theorem fc_10_142 : fC 10 142 = some (0, 10, 1, MRm_readNumber) := rfl
theorem r_MRm_stone_123 {y0 : Int32} {a : Nat} (hO : qO a 10 = true) (hc : ckS st = true) : Rr X (d + 1) MRm_stone 123 L (.int y0 :: .ref a :: st) (Wd mu la ro et) = (Rr X d MRm_readNumber 0 [.ref a, .int y0, mkU, mkU] [] (Wd mu la ro et)).bind fun q => Rr X (d + 1) MRm_stone 126 L (psh q.1 st) q.2 := R_iv (av := [.int y0]) d_MRm_stone_123 fc_10_142 hO (ckS_le hc) rfl (Nat.le_of_ble_eq_true rfl) (Nat.le_of_ble_eq_true rfl)
theorem r_MRm_stone_126 {a : Nat} {j x : Int32} (hq : (qA a 0).isSome = true) : Rr X d MRm_stone 126 L (.int x :: .int j :: .ref a :: st) (Wd mu la ro et) = if j < 0 ∨ qAd a 0 ≤ j.toNatClampNeg then none else Rr X d MRm_stone 127 L st (Wd (up2 mu a j.toNatClampNeg (x)) la ro et) := R_iasW d_MRm_stone_126 hq
theorem r_MRm_stone_127 {l0 l1 : Value} {x : Int32} : Rr X d MRm_stone 127 [l0, l1, .int x] st h = Rr X d MRm_stone 130 (sL [l0, l1, .int x] 2 (.int (x + (1)))) st h := Rr_nx d_MRm_stone_127 rfl
theorem r_MRm_stone_130 : Rr X d MRm_stone 130 L st h = Rr X d MRm_stone 85 L st h := R_goto d_MRm_stone_130 (by decide)
theorem r_MRm_stone_133 {l1 l2 : Value} {x : Nat} : Rr X d MRm_stone 133 [.ref x, l1, l2] st h = Rr X d MRm_stone 134 [.ref x, l1, l2] (.ref x :: st) h := Rr_nx d_MRm_stone_133 rfl
theorem r_MRm_stone_134 {a : Nat} (hq : qI a 10 19 = true) : Rr X d MRm_stone 134 L (.ref a :: st) (Wd mu la ro et) = Rr X d MRm_stone 137 L (.int (mu a 19) :: st) (Wd mu la ro et) := R_gfI d_MRm_stone_134 ff_10_117 hq
theorem r_MRm_stone_137 {x : Int32} : Rr X d MRm_stone 137 L (.int x :: st) h = if 0 ≤ x then Rr X d MRm_stone 159 L st h else Rr X d MRm_stone 140 L st h := R_if_ge d_MRm_stone_137 (by decide)
theorem r_MRm_stone_140 {l1 l2 : Value} {x : Nat} : Rr X d MRm_stone 140 [.ref x, l1, l2] st h = Rr X d MRm_stone 141 [.ref x, l1, l2] (.ref x :: st) h := Rr_nx d_MRm_stone_140 rfl
theorem r_MRm_stone_141 {a : Nat} (hq : qI a 10 18 = true) : Rr X d MRm_stone 141 L (.ref a :: st) (Wd mu la ro et) = Rr X d MRm_stone 144 L (.int (mu a 18) :: st) (Wd mu la ro et) := R_gfI d_MRm_stone_141 ff_10_120 hq
theorem r_MRm_stone_144 {l1 l2 : Value} {x : Nat} : Rr X d MRm_stone 144 [.ref x, l1, l2] st h = Rr X d MRm_stone 145 [.ref x, l1, l2] (.ref x :: st) h := Rr_nx d_MRm_stone_144 rfl
theorem r_MRm_stone_145 {a : Nat} (hq : qI a 10 2 = true) : Rr X d MRm_stone 145 L (.ref a :: st) (Wd mu la ro et) = Rr X d MRm_stone 148 L (.int (mu a 2) :: st) (Wd mu la ro et) := R_gfI d_MRm_stone_145 ff_10_111 hq
theorem r_MRm_stone_148 {x y : Int32} : Rr X d MRm_stone 148 L (.int y :: .int x :: st) h = if y ≤ x then Rr X d MRm_stone 159 L st h else Rr X d MRm_stone 151 L st h := R_ic_ge d_MRm_stone_148 (by decide)
theorem r_MRm_stone_151 {l1 l2 : Value} {x : Nat} : Rr X d MRm_stone 151 [.ref x, l1, l2] st h = Rr X d MRm_stone 152 [.ref x, l1, l2] (.ref x :: st) h := Rr_nx d_MRm_stone_151 rfl
theorem r_MRm_stone_152 {l1 l2 : Value} {x : Nat} : Rr X d MRm_stone 152 [.ref x, l1, l2] st h = Rr X d MRm_stone 153 [.ref x, l1, l2] (.ref x :: st) h := Rr_nx d_MRm_stone_152 rfl
theorem r_MRm_stone_153 {a : Nat} (hq : qI a 10 18 = true) : Rr X d MRm_stone 153 L (.ref a :: st) (Wd mu la ro et) = Rr X d MRm_stone 156 L (.int (mu a 18) :: st) (Wd mu la ro et) := R_gfI d_MRm_stone_153 ff_10_120 hq
theorem r_MRm_stone_156 {a : Nat} {x : Int32} (hq : qI a 10 19 = true) : Rr X d MRm_stone 156 L (.int x :: .ref a :: st) (Wd mu la ro et) = Rr X d MRm_stone 159 L st (Wd (up2 mu a 19 x) la ro et) := R_pfI d_MRm_stone_156 ff_10_117 hq
theorem r_MRm_stone_159 {l1 l2 : Value} {x : Nat} : Rr X d MRm_stone 159 [.ref x, l1, l2] st h = Rr X d MRm_stone 160 [.ref x, l1, l2] (.ref x :: st) h := Rr_nx d_MRm_stone_159 rfl
theorem r_MRm_stone_160 : Rr X d MRm_stone 160 L st h = Rr X d MRm_stone 161 L (.int (0) :: st) h := Rr_nx d_MRm_stone_160 rfl
theorem r_MRm_stone_161 {a : Nat} {x : Int32} (hq : qI a 10 2 = true) : Rr X d MRm_stone 161 L (.int x :: .ref a :: st) (Wd mu la ro et) = Rr X d MRm_stone 164 L st (Wd (up2 mu a 2 x) la ro et) := R_pfI d_MRm_stone_161 ff_10_111 hq
theorem r_MRm_stone_164 {l1 l2 : Value} {x : Nat} : Rr X d MRm_stone 164 [.ref x, l1, l2] st h = Rr X d MRm_stone 165 [.ref x, l1, l2] (.ref x :: st) h := Rr_nx d_MRm_stone_164 rfl
theorem r_MRm_stone_165 {a : Nat} (hq : qI a 10 19 = true) : Rr X d MRm_stone 165 L (.ref a :: st) (Wd mu la ro et) = Rr X d MRm_stone 168 L (.int (mu a 19) :: st) (Wd mu la ro et) := R_gfI d_MRm_stone_165 ff_10_117 hq
theorem r_MRm_stone_168 {x : Int32} : Rr X d MRm_stone 168 L (.int x :: st) h = if x < 0 then Rr X d MRm_stone 179 L st h else Rr X d MRm_stone 171 L st h := R_if_lt d_MRm_stone_168 (by decide)
theorem r_MRm_stone_171 : Rr X d MRm_stone 171 L st h = Rr X d MRm_stone 173 L (.int (-100) :: st) h := Rr_nx d_MRm_stone_171 rfl
theorem r_MRm_stone_173 {l1 l2 : Value} {x : Nat} : Rr X d MRm_stone 173 [.ref x, l1, l2] st h = Rr X d MRm_stone 174 [.ref x, l1, l2] (.ref x :: st) h := Rr_nx d_MRm_stone_173 rfl
theorem r_MRm_stone_174 {a : Nat} (hq : qI a 10 19 = true) : Rr X d MRm_stone 174 L (.ref a :: st) (Wd mu la ro et) = Rr X d MRm_stone 177 L (.int (mu a 19) :: st) (Wd mu la ro et) := R_gfI d_MRm_stone_174 ff_10_117 hq
theorem r_MRm_stone_177 {x y : Int32} : Rr X d MRm_stone 177 L (.int y :: .int x :: st) h = Rr X d MRm_stone 178 L (.int (x - y) :: st) h := Rr_nx d_MRm_stone_177 rfl
theorem r_MRm_stone_178 {x : Int32} : Rr X d MRm_stone 178 L [.int x] h = some (some (.int x), h) := R_ir d_MRm_stone_178 rfl
theorem r_MRm_stone_179 {l1 l2 : Value} {x : Nat} : Rr X d MRm_stone 179 [.ref x, l1, l2] st h = Rr X d MRm_stone 180 [.ref x, l1, l2] (.ref x :: st) h := Rr_nx d_MRm_stone_179 rfl
theorem r_MRm_stone_180 {x : Nat} : Rr X d MRm_stone 180 L (.ref x :: st) h = Rr X d MRm_stone 181 L (.ref x :: .ref x :: st) h := Rr_nx d_MRm_stone_180 rfl
theorem r_MRm_stone_180i {x : Int32} : Rr X d MRm_stone 180 L (.int x :: st) h = Rr X d MRm_stone 181 L (.int x :: .int x :: st) h := Rr_nx d_MRm_stone_180 rfl
theorem r_MRm_stone_181 {a : Nat} (hq : qI a 10 3 = true) : Rr X d MRm_stone 181 L (.ref a :: st) (Wd mu la ro et) = Rr X d MRm_stone 184 L (.int (mu a 3) :: st) (Wd mu la ro et) := R_gfI d_MRm_stone_181 ff_10_114 hq
theorem r_MRm_stone_184 : Rr X d MRm_stone 184 L st h = Rr X d MRm_stone 185 L (.int (1) :: st) h := Rr_nx d_MRm_stone_184 rfl
theorem r_MRm_stone_185 {x y : Int32} : Rr X d MRm_stone 185 L (.int y :: .int x :: st) h = Rr X d MRm_stone 186 L (.int (x + y) :: st) h := Rr_nx d_MRm_stone_185 rfl
theorem r_MRm_stone_186 {a : Nat} {x : Int32} (hq : qI a 10 3 = true) : Rr X d MRm_stone 186 L (.int x :: .ref a :: st) (Wd mu la ro et) = Rr X d MRm_stone 189 L st (Wd (up2 mu a 3 x) la ro et) := R_pfI d_MRm_stone_186 ff_10_114 hq
theorem r_MRm_stone_189 {l0 l2 : Value} {x : Int32} : Rr X d MRm_stone 189 [l0, .int x, l2] st h = Rr X d MRm_stone 190 [l0, .int x, l2] (.int x :: st) h := Rr_nx d_MRm_stone_189 rfl
theorem r_MRm_stone_190 {x : Int32} : Rr X d MRm_stone 190 L [.int x] h = some (some (.int x), h) := R_ir d_MRm_stone_190 rfl
theorem d_MRm_of_0 : decode MRm_of.2.2.1 0 = .ok (.aload_n 0, 1) := by decide +kernel
theorem d_MRm_of_1 : decode MRm_of.2.2.1 1 = .ok (.iload_n 1, 1) := by decide +kernel
theorem d_MRm_of_2 : decode MRm_of.2.2.1 2 = .ok (.invokevirtual 173, 3) := by decide +kernel
theorem d_MRm_of_5 : decode MRm_of.2.2.1 5 = .ok (.ifCond .ne 6, 3) := by decide +kernel
theorem d_MRm_of_8 : decode MRm_of.2.2.1 8 = .ok (.ldc 176, 2) := by decide +kernel
theorem d_MRm_of_10 : decode MRm_of.2.2.1 10 = .ok (.ireturn, 1) := by decide +kernel
theorem d_MRm_of_11 : decode MRm_of.2.2.1 11 = .ok (.iload_n 2, 1) := by decide +kernel
theorem d_MRm_of_12 : decode MRm_of.2.2.1 12 = .ok (.bipush 6, 2) := by decide +kernel
theorem d_MRm_of_14 : decode MRm_of.2.2.1 14 = .ok (.bipush 9, 2) := by decide +kernel
theorem d_MRm_of_16 : decode MRm_of.2.2.1 16 = .ok (.invokestatic 107, 3) := by decide +kernel
theorem d_MRm_of_19 : decode MRm_of.2.2.1 19 = .ok (.ifCond .eq 17, 3) := by decide +kernel
theorem d_MRm_of_22 : decode MRm_of.2.2.1 22 = .ok (.aload_n 0, 1) := by decide +kernel
theorem d_MRm_of_23 : decode MRm_of.2.2.1 23 = .ok (.getfield 26, 3) := by decide +kernel
theorem d_MRm_of_26 : decode MRm_of.2.2.1 26 = .ok (.iconst 4, 1) := by decide +kernel
theorem d_MRm_of_27 : decode MRm_of.2.2.1 27 = .ok (.iload_n 1, 1) := by decide +kernel
theorem d_MRm_of_28 : decode MRm_of.2.2.1 28 = .ok (.imul, 1) := by decide +kernel
theorem d_MRm_of_29 : decode MRm_of.2.2.1 29 = .ok (.iload_n 2, 1) := by decide +kernel
theorem d_MRm_of_30 : decode MRm_of.2.2.1 30 = .ok (.iadd, 1) := by decide +kernel
theorem d_MRm_of_31 : decode MRm_of.2.2.1 31 = .ok (.bipush 6, 2) := by decide +kernel
theorem d_MRm_of_33 : decode MRm_of.2.2.1 33 = .ok (.isub, 1) := by decide +kernel
theorem d_MRm_of_34 : decode MRm_of.2.2.1 34 = .ok (.iaload, 1) := by decide +kernel
theorem d_MRm_of_35 : decode MRm_of.2.2.1 35 = .ok (.ireturn, 1) := by decide +kernel
theorem d_MRm_of_36 : decode MRm_of.2.2.1 36 = .ok (.iload_n 2, 1) := by decide +kernel
theorem d_MRm_of_37 : decode MRm_of.2.2.1 37 = .ok (.tableswitch 78 0 5 #[39, 46, 54, 60, 66, 72], 39) := by decide +kernel
theorem d_MRm_of_76 : decode MRm_of.2.2.1 76 = .ok (.aload_n 0, 1) := by decide +kernel
theorem d_MRm_of_77 : decode MRm_of.2.2.1 77 = .ok (.getfield 13, 3) := by decide +kernel
theorem d_MRm_of_80 : decode MRm_of.2.2.1 80 = .ok (.iload_n 1, 1) := by decide +kernel
theorem d_MRm_of_81 : decode MRm_of.2.2.1 81 = .ok (.iaload, 1) := by decide +kernel
theorem d_MRm_of_82 : decode MRm_of.2.2.1 82 = .ok (.ireturn, 1) := by decide +kernel
theorem d_MRm_of_83 : decode MRm_of.2.2.1 83 = .ok (.aload_n 0, 1) := by decide +kernel
theorem d_MRm_of_84 : decode MRm_of.2.2.1 84 = .ok (.iload_n 1, 1) := by decide +kernel
theorem d_MRm_of_85 : decode MRm_of.2.2.1 85 = .ok (.iconst 0, 1) := by decide +kernel
theorem d_MRm_of_86 : decode MRm_of.2.2.1 86 = .ok (.iconst 0, 1) := by decide +kernel
theorem d_MRm_of_87 : decode MRm_of.2.2.1 87 = .ok (.invokevirtual 154, 3) := by decide +kernel
theorem d_MRm_of_90 : decode MRm_of.2.2.1 90 = .ok (.ireturn, 1) := by decide +kernel
theorem d_MRm_of_91 : decode MRm_of.2.2.1 91 = .ok (.aload_n 0, 1) := by decide +kernel
theorem d_MRm_of_92 : decode MRm_of.2.2.1 92 = .ok (.iload_n 1, 1) := by decide +kernel
theorem d_MRm_of_93 : decode MRm_of.2.2.1 93 = .ok (.invokevirtual 161, 3) := by decide +kernel
theorem d_MRm_of_96 : decode MRm_of.2.2.1 96 = .ok (.ireturn, 1) := by decide +kernel
theorem d_MRm_of_97 : decode MRm_of.2.2.1 97 = .ok (.aload_n 0, 1) := by decide +kernel
theorem d_MRm_of_98 : decode MRm_of.2.2.1 98 = .ok (.iload_n 1, 1) := by decide +kernel
theorem d_MRm_of_99 : decode MRm_of.2.2.1 99 = .ok (.invokevirtual 164, 3) := by decide +kernel
theorem d_MRm_of_102 : decode MRm_of.2.2.1 102 = .ok (.ireturn, 1) := by decide +kernel
theorem d_MRm_of_103 : decode MRm_of.2.2.1 103 = .ok (.aload_n 0, 1) := by decide +kernel
theorem d_MRm_of_104 : decode MRm_of.2.2.1 104 = .ok (.iload_n 1, 1) := by decide +kernel
theorem d_MRm_of_105 : decode MRm_of.2.2.1 105 = .ok (.invokevirtual 158, 3) := by decide +kernel
theorem d_MRm_of_108 : decode MRm_of.2.2.1 108 = .ok (.ireturn, 1) := by decide +kernel
theorem d_MRm_of_109 : decode MRm_of.2.2.1 109 = .ok (.aload_n 0, 1) := by decide +kernel
theorem d_MRm_of_110 : decode MRm_of.2.2.1 110 = .ok (.iload_n 1, 1) := by decide +kernel
theorem d_MRm_of_111 : decode MRm_of.2.2.1 111 = .ok (.invokevirtual 177, 3) := by decide +kernel
theorem d_MRm_of_114 : decode MRm_of.2.2.1 114 = .ok (.ireturn, 1) := by decide +kernel
theorem d_MRm_of_115 : decode MRm_of.2.2.1 115 = .ok (.ldc 176, 2) := by decide +kernel
theorem d_MRm_of_117 : decode MRm_of.2.2.1 117 = .ok (.ireturn, 1) := by decide +kernel
theorem r_MRm_of_0 {l1 l2 : Value} {x : Nat} : Rr X d MRm_of 0 [.ref x, l1, l2] st h = Rr X d MRm_of 1 [.ref x, l1, l2] (.ref x :: st) h := Rr_nx d_MRm_of_0 rfl
theorem r_MRm_of_1 {l0 l2 : Value} {x : Int32} : Rr X d MRm_of 1 [l0, .int x, l2] st h = Rr X d MRm_of 2 [l0, .int x, l2] (.int x :: st) h := Rr_nx d_MRm_of_1 rfl
theorem fc_10_173 : fC 10 173 = some (0, 10, 1, MRm_isStone) := rfl
theorem r_MRm_of_2 {y0 : Int32} {a : Nat} (hO : qO a 10 = true) (hc : ckS st = true) : Rr X (d + 1) MRm_of 2 L (.int y0 :: .ref a :: st) (Wd mu la ro et) = (Rr X d MRm_isStone 0 [.ref a, .int y0] [] (Wd mu la ro et)).bind fun q => Rr X (d + 1) MRm_of 5 L (psh q.1 st) q.2 := R_iv (av := [.int y0]) d_MRm_of_2 fc_10_173 hO (ckS_le hc) rfl (Nat.le_of_ble_eq_true rfl) (Nat.le_of_ble_eq_true rfl)
theorem r_MRm_of_5 {x : Int32} : Rr X d MRm_of 5 L (.int x :: st) h = if ¬ x = 0 then Rr X d MRm_of 11 L st h else Rr X d MRm_of 8 L st h := R_if_ne d_MRm_of_5 (by decide)
theorem r_MRm_of_8 : Rr X d MRm_of 8 L st h = Rr X d MRm_of 10 L (.int (-2000000000) :: st) h := Rr_nx d_MRm_of_8 rfl
theorem r_MRm_of_10 {x : Int32} : Rr X d MRm_of 10 L [.int x] h = some (some (.int x), h) := R_ir d_MRm_of_10 rfl
theorem r_MRm_of_11 {l0 l1 : Value} {x : Int32} : Rr X d MRm_of 11 [l0, l1, .int x] st h = Rr X d MRm_of 12 [l0, l1, .int x] (.int x :: st) h := Rr_nx d_MRm_of_11 rfl
theorem r_MRm_of_12 : Rr X d MRm_of 12 L st h = Rr X d MRm_of 14 L (.int (6) :: st) h := Rr_nx d_MRm_of_12 rfl
theorem r_MRm_of_14 : Rr X d MRm_of 14 L st h = Rr X d MRm_of 16 L (.int (9) :: st) h := Rr_nx d_MRm_of_14 rfl
theorem r_MRm_of_16 {y0 : Int32} {y1 : Int32} {y2 : Int32} (hc : ckS st = true) : Rr X (d + 1) MRm_of 16 L (.int y2 :: .int y1 :: .int y0 :: st) h = (Rr X d MRm_in 0 [.int y0, .int y1, .int y2] [] h).bind fun q => Rr X (d + 1) MRm_of 19 L (psh q.1 st) q.2 := R_is (av := [.int y2, .int y1, .int y0]) d_MRm_of_16 (Or.inl fc_10_107) (ckS_le hc) rfl (Nat.le_of_ble_eq_true rfl) (Nat.le_of_ble_eq_true rfl)
theorem r_MRm_of_19 {x : Int32} : Rr X d MRm_of 19 L (.int x :: st) h = if x = 0 then Rr X d MRm_of 36 L st h else Rr X d MRm_of 22 L st h := R_if_eq d_MRm_of_19 (by decide)
theorem r_MRm_of_22 {l1 l2 : Value} {x : Nat} : Rr X d MRm_of 22 [.ref x, l1, l2] st h = Rr X d MRm_of 23 [.ref x, l1, l2] (.ref x :: st) h := Rr_nx d_MRm_of_22 rfl
theorem r_MRm_of_23 {a : Nat} (hq : (qR a 10 8).isSome = true) : Rr X d MRm_of 23 L (.ref a :: st) (Wd mu la ro et) = Rr X d MRm_of 26 L (.ref (qRd a 10 8) :: st) (Wd mu la ro et) := R_gfR d_MRm_of_23 ff_10_26 hq
theorem r_MRm_of_26 : Rr X d MRm_of 26 L st h = Rr X d MRm_of 27 L (.int (4) :: st) h := Rr_nx d_MRm_of_26 rfl
theorem r_MRm_of_27 {l0 l2 : Value} {x : Int32} : Rr X d MRm_of 27 [l0, .int x, l2] st h = Rr X d MRm_of 28 [l0, .int x, l2] (.int x :: st) h := Rr_nx d_MRm_of_27 rfl
theorem r_MRm_of_28 {x y : Int32} : Rr X d MRm_of 28 L (.int y :: .int x :: st) h = Rr X d MRm_of 29 L (.int (x * y) :: st) h := Rr_nx d_MRm_of_28 rfl
theorem r_MRm_of_29 {l0 l1 : Value} {x : Int32} : Rr X d MRm_of 29 [l0, l1, .int x] st h = Rr X d MRm_of 30 [l0, l1, .int x] (.int x :: st) h := Rr_nx d_MRm_of_29 rfl
theorem r_MRm_of_30 {x y : Int32} : Rr X d MRm_of 30 L (.int y :: .int x :: st) h = Rr X d MRm_of 31 L (.int (x + y) :: st) h := Rr_nx d_MRm_of_30 rfl
theorem r_MRm_of_31 : Rr X d MRm_of 31 L st h = Rr X d MRm_of 33 L (.int (6) :: st) h := Rr_nx d_MRm_of_31 rfl
theorem r_MRm_of_33 {x y : Int32} : Rr X d MRm_of 33 L (.int y :: .int x :: st) h = Rr X d MRm_of 34 L (.int (x - y) :: st) h := Rr_nx d_MRm_of_33 rfl
theorem r_MRm_of_34 {a : Nat} {j : Int32} (hq : (qA a 0).isSome = true) : Rr X d MRm_of 34 L (.int j :: .ref a :: st) (Wd mu la ro et) = if j < 0 ∨ qAd a 0 ≤ j.toNatClampNeg then none else Rr X d MRm_of 35 L (.int (mu a j.toNatClampNeg) :: st) (Wd mu la ro et) := R_ialW d_MRm_of_34 hq
theorem r_MRm_of_35 {x : Int32} : Rr X d MRm_of 35 L [.int x] h = some (some (.int x), h) := R_ir d_MRm_of_35 rfl
theorem r_MRm_of_36 {l0 l1 : Value} {x : Int32} : Rr X d MRm_of 36 [l0, l1, .int x] st h = Rr X d MRm_of 37 [l0, l1, .int x] (.int x :: st) h := Rr_nx d_MRm_of_36 rfl
theorem r_MRm_of_37_0 : Rr X d MRm_of 37 L (.int (0) :: st) h = Rr X d MRm_of 76 L st h := R_tab (off := 39) d_MRm_of_37 (by decide) (by decide) (by decide)
theorem r_MRm_of_37_1 : Rr X d MRm_of 37 L (.int (1) :: st) h = Rr X d MRm_of 83 L st h := R_tab (off := 46) d_MRm_of_37 (by decide) (by decide) (by decide)
theorem r_MRm_of_37_2 : Rr X d MRm_of 37 L (.int (2) :: st) h = Rr X d MRm_of 91 L st h := R_tab (off := 54) d_MRm_of_37 (by decide) (by decide) (by decide)
theorem r_MRm_of_37_3 : Rr X d MRm_of 37 L (.int (3) :: st) h = Rr X d MRm_of 97 L st h := R_tab (off := 60) d_MRm_of_37 (by decide) (by decide) (by decide)
theorem r_MRm_of_37_4 : Rr X d MRm_of 37 L (.int (4) :: st) h = Rr X d MRm_of 103 L st h := R_tab (off := 66) d_MRm_of_37 (by decide) (by decide) (by decide)
theorem r_MRm_of_37_5 : Rr X d MRm_of 37 L (.int (5) :: st) h = Rr X d MRm_of 109 L st h := R_tab (off := 72) d_MRm_of_37 (by decide) (by decide) (by decide)
theorem r_MRm_of_37D {x : Int32} (hx : x.toInt < 0 ∨ 5 < x.toInt) : Rr X d MRm_of 37 L (.int x :: st) h = Rr X d MRm_of 115 L st h := R_tabD d_MRm_of_37 hx (by decide)
theorem r_MRm_of_76 {l1 l2 : Value} {x : Nat} : Rr X d MRm_of 76 [.ref x, l1, l2] st h = Rr X d MRm_of 77 [.ref x, l1, l2] (.ref x :: st) h := Rr_nx d_MRm_of_76 rfl
theorem r_MRm_of_77 {a : Nat} (hq : (qR a 10 4).isSome = true) : Rr X d MRm_of 77 L (.ref a :: st) (Wd mu la ro et) = Rr X d MRm_of 80 L (.ref (qRd a 10 4) :: st) (Wd mu la ro et) := R_gfR d_MRm_of_77 ff_10_13 hq
theorem r_MRm_of_80 {l0 l2 : Value} {x : Int32} : Rr X d MRm_of 80 [l0, .int x, l2] st h = Rr X d MRm_of 81 [l0, .int x, l2] (.int x :: st) h := Rr_nx d_MRm_of_80 rfl
theorem r_MRm_of_81 {a : Nat} {j : Int32} (hq : (qA a 0).isSome = true) : Rr X d MRm_of 81 L (.int j :: .ref a :: st) (Wd mu la ro et) = if j < 0 ∨ qAd a 0 ≤ j.toNatClampNeg then none else Rr X d MRm_of 82 L (.int (mu a j.toNatClampNeg) :: st) (Wd mu la ro et) := R_ialW d_MRm_of_81 hq
theorem r_MRm_of_82 {x : Int32} : Rr X d MRm_of 82 L [.int x] h = some (some (.int x), h) := R_ir d_MRm_of_82 rfl
theorem r_MRm_of_83 {l1 l2 : Value} {x : Nat} : Rr X d MRm_of 83 [.ref x, l1, l2] st h = Rr X d MRm_of 84 [.ref x, l1, l2] (.ref x :: st) h := Rr_nx d_MRm_of_83 rfl
theorem r_MRm_of_84 {l0 l2 : Value} {x : Int32} : Rr X d MRm_of 84 [l0, .int x, l2] st h = Rr X d MRm_of 85 [l0, .int x, l2] (.int x :: st) h := Rr_nx d_MRm_of_84 rfl
theorem r_MRm_of_85 : Rr X d MRm_of 85 L st h = Rr X d MRm_of 86 L (.int (0) :: st) h := Rr_nx d_MRm_of_85 rfl
theorem r_MRm_of_86 : Rr X d MRm_of 86 L st h = Rr X d MRm_of 87 L (.int (0) :: st) h := Rr_nx d_MRm_of_86 rfl
theorem fc_10_154 : fC 10 154 = some (0, 10, 3, MRm_sumOf) := rfl
theorem r_MRm_of_87 {y0 : Int32} {y1 : Int32} {y2 : Int32} {a : Nat} (hO : qO a 10 = true) (hc : ckS st = true) : Rr X (d + 1) MRm_of 87 L (.int y2 :: .int y1 :: .int y0 :: .ref a :: st) (Wd mu la ro et) = (Rr X d MRm_sumOf 0 [.ref a, .int y0, .int y1, .int y2, mkU, mkU, mkU, mkU, mkU] [] (Wd mu la ro et)).bind fun q => Rr X (d + 1) MRm_of 90 L (psh q.1 st) q.2 := R_iv (av := [.int y2, .int y1, .int y0]) d_MRm_of_87 fc_10_154 hO (ckS_le hc) rfl (Nat.le_of_ble_eq_true rfl) (Nat.le_of_ble_eq_true rfl)
theorem r_MRm_of_90 {x : Int32} : Rr X d MRm_of 90 L [.int x] h = some (some (.int x), h) := R_ir d_MRm_of_90 rfl
theorem r_MRm_of_91 {l1 l2 : Value} {x : Nat} : Rr X d MRm_of 91 [.ref x, l1, l2] st h = Rr X d MRm_of 92 [.ref x, l1, l2] (.ref x :: st) h := Rr_nx d_MRm_of_91 rfl
theorem r_MRm_of_92 {l0 l2 : Value} {x : Int32} : Rr X d MRm_of 92 [l0, .int x, l2] st h = Rr X d MRm_of 93 [l0, .int x, l2] (.int x :: st) h := Rr_nx d_MRm_of_92 rfl
theorem fc_10_161 : fC 10 161 = some (0, 10, 1, MRm_wideX) := rfl
theorem r_MRm_of_93 {y0 : Int32} {a : Nat} (hO : qO a 10 = true) (hc : ckS st = true) : Rr X (d + 1) MRm_of 93 L (.int y0 :: .ref a :: st) (Wd mu la ro et) = (Rr X d MRm_wideX 0 [.ref a, .int y0] [] (Wd mu la ro et)).bind fun q => Rr X (d + 1) MRm_of 96 L (psh q.1 st) q.2 := R_iv (av := [.int y0]) d_MRm_of_93 fc_10_161 hO (ckS_le hc) rfl (Nat.le_of_ble_eq_true rfl) (Nat.le_of_ble_eq_true rfl)
theorem r_MRm_of_96 {x : Int32} : Rr X d MRm_of 96 L [.int x] h = some (some (.int x), h) := R_ir d_MRm_of_96 rfl
theorem r_MRm_of_97 {l1 l2 : Value} {x : Nat} : Rr X d MRm_of 97 [.ref x, l1, l2] st h = Rr X d MRm_of 98 [.ref x, l1, l2] (.ref x :: st) h := Rr_nx d_MRm_of_97 rfl
theorem r_MRm_of_98 {l0 l2 : Value} {x : Int32} : Rr X d MRm_of 98 [l0, .int x, l2] st h = Rr X d MRm_of 99 [l0, .int x, l2] (.int x :: st) h := Rr_nx d_MRm_of_98 rfl
theorem fc_10_164 : fC 10 164 = some (0, 10, 1, MRm_wideY) := rfl
theorem r_MRm_of_99 {y0 : Int32} {a : Nat} (hO : qO a 10 = true) (hc : ckS st = true) : Rr X (d + 1) MRm_of 99 L (.int y0 :: .ref a :: st) (Wd mu la ro et) = (Rr X d MRm_wideY 0 [.ref a, .int y0] [] (Wd mu la ro et)).bind fun q => Rr X (d + 1) MRm_of 102 L (psh q.1 st) q.2 := R_iv (av := [.int y0]) d_MRm_of_99 fc_10_164 hO (ckS_le hc) rfl (Nat.le_of_ble_eq_true rfl) (Nat.le_of_ble_eq_true rfl)
theorem r_MRm_of_102 {x : Int32} : Rr X d MRm_of 102 L [.int x] h = some (some (.int x), h) := R_ir d_MRm_of_102 rfl
theorem r_MRm_of_103 {l1 l2 : Value} {x : Nat} : Rr X d MRm_of 103 [.ref x, l1, l2] st h = Rr X d MRm_of 104 [.ref x, l1, l2] (.ref x :: st) h := Rr_nx d_MRm_of_103 rfl
theorem r_MRm_of_104 {l0 l2 : Value} {x : Int32} : Rr X d MRm_of 104 [l0, .int x, l2] st h = Rr X d MRm_of 105 [l0, .int x, l2] (.int x :: st) h := Rr_nx d_MRm_of_104 rfl
theorem fc_10_158 : fC 10 158 = some (0, 10, 1, MRm_slant) := rfl
theorem r_MRm_of_105 {y0 : Int32} {a : Nat} (hO : qO a 10 = true) (hc : ckS st = true) : Rr X (d + 1) MRm_of 105 L (.int y0 :: .ref a :: st) (Wd mu la ro et) = (Rr X d MRm_slant 0 [.ref a, .int y0] [] (Wd mu la ro et)).bind fun q => Rr X (d + 1) MRm_of 108 L (psh q.1 st) q.2 := R_iv (av := [.int y0]) d_MRm_of_105 fc_10_158 hO (ckS_le hc) rfl (Nat.le_of_ble_eq_true rfl) (Nat.le_of_ble_eq_true rfl)
theorem r_MRm_of_108 {x : Int32} : Rr X d MRm_of 108 L [.int x] h = some (some (.int x), h) := R_ir d_MRm_of_108 rfl
theorem r_MRm_of_109 {l1 l2 : Value} {x : Nat} : Rr X d MRm_of 109 [.ref x, l1, l2] st h = Rr X d MRm_of 110 [.ref x, l1, l2] (.ref x :: st) h := Rr_nx d_MRm_of_109 rfl
theorem r_MRm_of_110 {l0 l2 : Value} {x : Int32} : Rr X d MRm_of 110 [l0, .int x, l2] st h = Rr X d MRm_of 111 [l0, .int x, l2] (.int x :: st) h := Rr_nx d_MRm_of_110 rfl
theorem fc_10_177 : fC 10 177 = some (0, 10, 1, MRm_keenOf) := rfl
theorem r_MRm_of_111 {y0 : Int32} {a : Nat} (hO : qO a 10 = true) (hc : ckS st = true) : Rr X (d + 1) MRm_of 111 L (.int y0 :: .ref a :: st) (Wd mu la ro et) = (Rr X d MRm_keenOf 0 [.ref a, .int y0] [] (Wd mu la ro et)).bind fun q => Rr X (d + 1) MRm_of 114 L (psh q.1 st) q.2 := R_iv (av := [.int y0]) d_MRm_of_111 fc_10_177 hO (ckS_le hc) rfl (Nat.le_of_ble_eq_true rfl) (Nat.le_of_ble_eq_true rfl)
theorem r_MRm_of_114 {x : Int32} : Rr X d MRm_of 114 L [.int x] h = some (some (.int x), h) := R_ir d_MRm_of_114 rfl
theorem r_MRm_of_115 : Rr X d MRm_of 115 L st h = Rr X d MRm_of 117 L (.int (-2000000000) :: st) h := Rr_nx d_MRm_of_115 rfl
theorem r_MRm_of_117 {x : Int32} : Rr X d MRm_of 117 L [.int x] h = some (some (.int x), h) := R_ir d_MRm_of_117 rfl
theorem d_MRm_lump_0 : decode MRm_lump.2.2.1 0 = .ok (.aload_n 0, 1) := by decide +kernel
theorem d_MRm_lump_1 : decode MRm_lump.2.2.1 1 = .ok (.iload_n 1, 1) := by decide +kernel
theorem d_MRm_lump_2 : decode MRm_lump.2.2.1 2 = .ok (.invokevirtual 173, 3) := by decide +kernel
theorem d_MRm_lump_5 : decode MRm_lump.2.2.1 5 = .ok (.ifCond .eq 28, 3) := by decide +kernel
theorem d_MRm_lump_8 : decode MRm_lump.2.2.1 8 = .ok (.iload_n 2, 1) := by decide +kernel
theorem d_MRm_lump_9 : decode MRm_lump.2.2.1 9 = .ok (.iconst 0, 1) := by decide +kernel
theorem d_MRm_lump_10 : decode MRm_lump.2.2.1 10 = .ok (.aload_n 0, 1) := by decide +kernel
theorem d_MRm_lump_11 : decode MRm_lump.2.2.1 11 = .ok (.getfield 13, 3) := by decide +kernel
theorem d_MRm_lump_14 : decode MRm_lump.2.2.1 14 = .ok (.iload_n 1, 1) := by decide +kernel
theorem d_MRm_lump_15 : decode MRm_lump.2.2.1 15 = .ok (.iaload, 1) := by decide +kernel
theorem d_MRm_lump_16 : decode MRm_lump.2.2.1 16 = .ok (.iconst 1, 1) := by decide +kernel
theorem d_MRm_lump_17 : decode MRm_lump.2.2.1 17 = .ok (.isub, 1) := by decide +kernel
theorem d_MRm_lump_18 : decode MRm_lump.2.2.1 18 = .ok (.invokestatic 107, 3) := by decide +kernel
theorem d_MRm_lump_21 : decode MRm_lump.2.2.1 21 = .ok (.ifCond .eq 12, 3) := by decide +kernel
theorem d_MRm_lump_24 : decode MRm_lump.2.2.1 24 = .ok (.iload_n 3, 1) := by decide +kernel
theorem d_MRm_lump_25 : decode MRm_lump.2.2.1 25 = .ok (.iconst 0, 1) := by decide +kernel
theorem d_MRm_lump_26 : decode MRm_lump.2.2.1 26 = .ok (.iconst 2, 1) := by decide +kernel
theorem d_MRm_lump_27 : decode MRm_lump.2.2.1 27 = .ok (.invokestatic 107, 3) := by decide +kernel
theorem d_MRm_lump_30 : decode MRm_lump.2.2.1 30 = .ok (.ifCond .ne 6, 3) := by decide +kernel
theorem d_MRm_lump_33 : decode MRm_lump.2.2.1 33 = .ok (.ldc 176, 2) := by decide +kernel
theorem d_MRm_lump_35 : decode MRm_lump.2.2.1 35 = .ok (.ireturn, 1) := by decide +kernel
theorem d_MRm_lump_36 : decode MRm_lump.2.2.1 36 = .ok (.bipush 12, 2) := by decide +kernel
theorem d_MRm_lump_38 : decode MRm_lump.2.2.1 38 = .ok (.iload_n 1, 1) := by decide +kernel
theorem d_MRm_lump_39 : decode MRm_lump.2.2.1 39 = .ok (.imul, 1) := by decide +kernel
theorem d_MRm_lump_40 : decode MRm_lump.2.2.1 40 = .ok (.iload_n 2, 1) := by decide +kernel
theorem d_MRm_lump_41 : decode MRm_lump.2.2.1 41 = .ok (.iadd, 1) := by decide +kernel
theorem d_MRm_lump_42 : decode MRm_lump.2.2.1 42 = .ok (.istore 4, 2) := by decide +kernel
theorem d_MRm_lump_44 : decode MRm_lump.2.2.1 44 = .ok (.iload_n 3, 1) := by decide +kernel
theorem d_MRm_lump_45 : decode MRm_lump.2.2.1 45 = .ok (.ifCond .ne 13, 3) := by decide +kernel
theorem d_MRm_lump_48 : decode MRm_lump.2.2.1 48 = .ok (.aload_n 0, 1) := by decide +kernel
theorem d_MRm_lump_49 : decode MRm_lump.2.2.1 49 = .ok (.getfield 17, 3) := by decide +kernel
theorem d_MRm_lump_52 : decode MRm_lump.2.2.1 52 = .ok (.iload 4, 2) := by decide +kernel
theorem d_MRm_lump_54 : decode MRm_lump.2.2.1 54 = .ok (.iaload, 1) := by decide +kernel
theorem d_MRm_lump_55 : decode MRm_lump.2.2.1 55 = .ok (.goto 25, 3) := by decide +kernel
theorem d_MRm_lump_58 : decode MRm_lump.2.2.1 58 = .ok (.iload_n 3, 1) := by decide +kernel
theorem d_MRm_lump_59 : decode MRm_lump.2.2.1 59 = .ok (.iconst 1, 1) := by decide +kernel
theorem d_MRm_lump_60 : decode MRm_lump.2.2.1 60 = .ok (.if_icmp .ne 13, 3) := by decide +kernel
theorem d_MRm_lump_63 : decode MRm_lump.2.2.1 63 = .ok (.aload_n 0, 1) := by decide +kernel
theorem d_MRm_lump_64 : decode MRm_lump.2.2.1 64 = .ok (.getfield 20, 3) := by decide +kernel
theorem d_MRm_lump_67 : decode MRm_lump.2.2.1 67 = .ok (.iload 4, 2) := by decide +kernel
theorem d_MRm_lump_69 : decode MRm_lump.2.2.1 69 = .ok (.iaload, 1) := by decide +kernel
theorem d_MRm_lump_70 : decode MRm_lump.2.2.1 70 = .ok (.goto 10, 3) := by decide +kernel
theorem d_MRm_lump_73 : decode MRm_lump.2.2.1 73 = .ok (.aload_n 0, 1) := by decide +kernel
theorem d_MRm_lump_74 : decode MRm_lump.2.2.1 74 = .ok (.getfield 23, 3) := by decide +kernel
theorem d_MRm_lump_77 : decode MRm_lump.2.2.1 77 = .ok (.iload 4, 2) := by decide +kernel
theorem d_MRm_lump_79 : decode MRm_lump.2.2.1 79 = .ok (.iaload, 1) := by decide +kernel
theorem d_MRm_lump_80 : decode MRm_lump.2.2.1 80 = .ok (.ireturn, 1) := by decide +kernel
theorem r_MRm_lump_0 {l1 l2 l3 l4 : Value} {x : Nat} : Rr X d MRm_lump 0 [.ref x, l1, l2, l3, l4] st h = Rr X d MRm_lump 1 [.ref x, l1, l2, l3, l4] (.ref x :: st) h := Rr_nx d_MRm_lump_0 rfl
theorem r_MRm_lump_1 {l0 l2 l3 l4 : Value} {x : Int32} : Rr X d MRm_lump 1 [l0, .int x, l2, l3, l4] st h = Rr X d MRm_lump 2 [l0, .int x, l2, l3, l4] (.int x :: st) h := Rr_nx d_MRm_lump_1 rfl
theorem r_MRm_lump_2 {y0 : Int32} {a : Nat} (hO : qO a 10 = true) (hc : ckS st = true) : Rr X (d + 1) MRm_lump 2 L (.int y0 :: .ref a :: st) (Wd mu la ro et) = (Rr X d MRm_isStone 0 [.ref a, .int y0] [] (Wd mu la ro et)).bind fun q => Rr X (d + 1) MRm_lump 5 L (psh q.1 st) q.2 := R_iv (av := [.int y0]) d_MRm_lump_2 fc_10_173 hO (ckS_le hc) rfl (Nat.le_of_ble_eq_true rfl) (Nat.le_of_ble_eq_true rfl)
theorem r_MRm_lump_5 {x : Int32} : Rr X d MRm_lump 5 L (.int x :: st) h = if x = 0 then Rr X d MRm_lump 33 L st h else Rr X d MRm_lump 8 L st h := R_if_eq d_MRm_lump_5 (by decide)
theorem r_MRm_lump_8 {l0 l1 l3 l4 : Value} {x : Int32} : Rr X d MRm_lump 8 [l0, l1, .int x, l3, l4] st h = Rr X d MRm_lump 9 [l0, l1, .int x, l3, l4] (.int x :: st) h := Rr_nx d_MRm_lump_8 rfl
theorem r_MRm_lump_9 : Rr X d MRm_lump 9 L st h = Rr X d MRm_lump 10 L (.int (0) :: st) h := Rr_nx d_MRm_lump_9 rfl
theorem r_MRm_lump_10 {l1 l2 l3 l4 : Value} {x : Nat} : Rr X d MRm_lump 10 [.ref x, l1, l2, l3, l4] st h = Rr X d MRm_lump 11 [.ref x, l1, l2, l3, l4] (.ref x :: st) h := Rr_nx d_MRm_lump_10 rfl
theorem r_MRm_lump_11 {a : Nat} (hq : (qR a 10 4).isSome = true) : Rr X d MRm_lump 11 L (.ref a :: st) (Wd mu la ro et) = Rr X d MRm_lump 14 L (.ref (qRd a 10 4) :: st) (Wd mu la ro et) := R_gfR d_MRm_lump_11 ff_10_13 hq
theorem r_MRm_lump_14 {l0 l2 l3 l4 : Value} {x : Int32} : Rr X d MRm_lump 14 [l0, .int x, l2, l3, l4] st h = Rr X d MRm_lump 15 [l0, .int x, l2, l3, l4] (.int x :: st) h := Rr_nx d_MRm_lump_14 rfl
theorem r_MRm_lump_15 {a : Nat} {j : Int32} (hq : (qA a 0).isSome = true) : Rr X d MRm_lump 15 L (.int j :: .ref a :: st) (Wd mu la ro et) = if j < 0 ∨ qAd a 0 ≤ j.toNatClampNeg then none else Rr X d MRm_lump 16 L (.int (mu a j.toNatClampNeg) :: st) (Wd mu la ro et) := R_ialW d_MRm_lump_15 hq
theorem r_MRm_lump_16 : Rr X d MRm_lump 16 L st h = Rr X d MRm_lump 17 L (.int (1) :: st) h := Rr_nx d_MRm_lump_16 rfl
theorem r_MRm_lump_17 {x y : Int32} : Rr X d MRm_lump 17 L (.int y :: .int x :: st) h = Rr X d MRm_lump 18 L (.int (x - y) :: st) h := Rr_nx d_MRm_lump_17 rfl
theorem r_MRm_lump_18 {y0 : Int32} {y1 : Int32} {y2 : Int32} (hc : ckS st = true) : Rr X (d + 1) MRm_lump 18 L (.int y2 :: .int y1 :: .int y0 :: st) h = (Rr X d MRm_in 0 [.int y0, .int y1, .int y2] [] h).bind fun q => Rr X (d + 1) MRm_lump 21 L (psh q.1 st) q.2 := R_is (av := [.int y2, .int y1, .int y0]) d_MRm_lump_18 (Or.inl fc_10_107) (ckS_le hc) rfl (Nat.le_of_ble_eq_true rfl) (Nat.le_of_ble_eq_true rfl)
theorem r_MRm_lump_21 {x : Int32} : Rr X d MRm_lump 21 L (.int x :: st) h = if x = 0 then Rr X d MRm_lump 33 L st h else Rr X d MRm_lump 24 L st h := R_if_eq d_MRm_lump_21 (by decide)
theorem r_MRm_lump_24 {l0 l1 l2 l4 : Value} {x : Int32} : Rr X d MRm_lump 24 [l0, l1, l2, .int x, l4] st h = Rr X d MRm_lump 25 [l0, l1, l2, .int x, l4] (.int x :: st) h := Rr_nx d_MRm_lump_24 rfl
theorem r_MRm_lump_25 : Rr X d MRm_lump 25 L st h = Rr X d MRm_lump 26 L (.int (0) :: st) h := Rr_nx d_MRm_lump_25 rfl
theorem r_MRm_lump_26 : Rr X d MRm_lump 26 L st h = Rr X d MRm_lump 27 L (.int (2) :: st) h := Rr_nx d_MRm_lump_26 rfl
theorem r_MRm_lump_27 {y0 : Int32} {y1 : Int32} {y2 : Int32} (hc : ckS st = true) : Rr X (d + 1) MRm_lump 27 L (.int y2 :: .int y1 :: .int y0 :: st) h = (Rr X d MRm_in 0 [.int y0, .int y1, .int y2] [] h).bind fun q => Rr X (d + 1) MRm_lump 30 L (psh q.1 st) q.2 := R_is (av := [.int y2, .int y1, .int y0]) d_MRm_lump_27 (Or.inl fc_10_107) (ckS_le hc) rfl (Nat.le_of_ble_eq_true rfl) (Nat.le_of_ble_eq_true rfl)
theorem r_MRm_lump_30 {x : Int32} : Rr X d MRm_lump 30 L (.int x :: st) h = if ¬ x = 0 then Rr X d MRm_lump 36 L st h else Rr X d MRm_lump 33 L st h := R_if_ne d_MRm_lump_30 (by decide)
theorem r_MRm_lump_33 : Rr X d MRm_lump 33 L st h = Rr X d MRm_lump 35 L (.int (-2000000000) :: st) h := Rr_nx d_MRm_lump_33 rfl
theorem r_MRm_lump_35 {x : Int32} : Rr X d MRm_lump 35 L [.int x] h = some (some (.int x), h) := R_ir d_MRm_lump_35 rfl
theorem r_MRm_lump_36 : Rr X d MRm_lump 36 L st h = Rr X d MRm_lump 38 L (.int (12) :: st) h := Rr_nx d_MRm_lump_36 rfl
theorem r_MRm_lump_38 {l0 l2 l3 l4 : Value} {x : Int32} : Rr X d MRm_lump 38 [l0, .int x, l2, l3, l4] st h = Rr X d MRm_lump 39 [l0, .int x, l2, l3, l4] (.int x :: st) h := Rr_nx d_MRm_lump_38 rfl
theorem r_MRm_lump_39 {x y : Int32} : Rr X d MRm_lump 39 L (.int y :: .int x :: st) h = Rr X d MRm_lump 40 L (.int (x * y) :: st) h := Rr_nx d_MRm_lump_39 rfl
theorem r_MRm_lump_40 {l0 l1 l3 l4 : Value} {x : Int32} : Rr X d MRm_lump 40 [l0, l1, .int x, l3, l4] st h = Rr X d MRm_lump 41 [l0, l1, .int x, l3, l4] (.int x :: st) h := Rr_nx d_MRm_lump_40 rfl
theorem r_MRm_lump_41 {x y : Int32} : Rr X d MRm_lump 41 L (.int y :: .int x :: st) h = Rr X d MRm_lump 42 L (.int (x + y) :: st) h := Rr_nx d_MRm_lump_41 rfl
theorem r_MRm_lump_42 {l0 l1 l2 l3 l4 : Value} {x : Int32} : Rr X d MRm_lump 42 [l0, l1, l2, l3, l4] (.int x :: st) h = Rr X d MRm_lump 44 (sL [l0, l1, l2, l3, l4] 4 (.int x)) st h := Rr_nx d_MRm_lump_42 rfl
theorem r_MRm_lump_44 {l0 l1 l2 l4 : Value} {x : Int32} : Rr X d MRm_lump 44 [l0, l1, l2, .int x, l4] st h = Rr X d MRm_lump 45 [l0, l1, l2, .int x, l4] (.int x :: st) h := Rr_nx d_MRm_lump_44 rfl
theorem r_MRm_lump_45 {x : Int32} : Rr X d MRm_lump 45 L (.int x :: st) h = if ¬ x = 0 then Rr X d MRm_lump 58 L st h else Rr X d MRm_lump 48 L st h := R_if_ne d_MRm_lump_45 (by decide)
theorem r_MRm_lump_48 {l1 l2 l3 l4 : Value} {x : Nat} : Rr X d MRm_lump 48 [.ref x, l1, l2, l3, l4] st h = Rr X d MRm_lump 49 [.ref x, l1, l2, l3, l4] (.ref x :: st) h := Rr_nx d_MRm_lump_48 rfl
theorem r_MRm_lump_49 {a : Nat} (hq : (qR a 10 5).isSome = true) : Rr X d MRm_lump 49 L (.ref a :: st) (Wd mu la ro et) = Rr X d MRm_lump 52 L (.ref (qRd a 10 5) :: st) (Wd mu la ro et) := R_gfR d_MRm_lump_49 ff_10_17 hq
theorem r_MRm_lump_52 {l0 l1 l2 l3 : Value} {x : Int32} : Rr X d MRm_lump 52 [l0, l1, l2, l3, .int x] st h = Rr X d MRm_lump 54 [l0, l1, l2, l3, .int x] (.int x :: st) h := Rr_nx d_MRm_lump_52 rfl
theorem r_MRm_lump_54 {a : Nat} {j : Int32} (hq : (qA a 0).isSome = true) : Rr X d MRm_lump 54 L (.int j :: .ref a :: st) (Wd mu la ro et) = if j < 0 ∨ qAd a 0 ≤ j.toNatClampNeg then none else Rr X d MRm_lump 55 L (.int (mu a j.toNatClampNeg) :: st) (Wd mu la ro et) := R_ialW d_MRm_lump_54 hq
theorem r_MRm_lump_55 : Rr X d MRm_lump 55 L st h = Rr X d MRm_lump 80 L st h := R_goto d_MRm_lump_55 (by decide)
theorem r_MRm_lump_58 {l0 l1 l2 l4 : Value} {x : Int32} : Rr X d MRm_lump 58 [l0, l1, l2, .int x, l4] st h = Rr X d MRm_lump 59 [l0, l1, l2, .int x, l4] (.int x :: st) h := Rr_nx d_MRm_lump_58 rfl
theorem r_MRm_lump_59 : Rr X d MRm_lump 59 L st h = Rr X d MRm_lump 60 L (.int (1) :: st) h := Rr_nx d_MRm_lump_59 rfl
theorem r_MRm_lump_60 {x y : Int32} : Rr X d MRm_lump 60 L (.int y :: .int x :: st) h = if ¬ x = y then Rr X d MRm_lump 73 L st h else Rr X d MRm_lump 63 L st h := R_ic_ne d_MRm_lump_60 (by decide)
theorem r_MRm_lump_63 {l1 l2 l3 l4 : Value} {x : Nat} : Rr X d MRm_lump 63 [.ref x, l1, l2, l3, l4] st h = Rr X d MRm_lump 64 [.ref x, l1, l2, l3, l4] (.ref x :: st) h := Rr_nx d_MRm_lump_63 rfl
theorem r_MRm_lump_64 {a : Nat} (hq : (qR a 10 6).isSome = true) : Rr X d MRm_lump 64 L (.ref a :: st) (Wd mu la ro et) = Rr X d MRm_lump 67 L (.ref (qRd a 10 6) :: st) (Wd mu la ro et) := R_gfR d_MRm_lump_64 ff_10_20 hq
theorem r_MRm_lump_67 {l0 l1 l2 l3 : Value} {x : Int32} : Rr X d MRm_lump 67 [l0, l1, l2, l3, .int x] st h = Rr X d MRm_lump 69 [l0, l1, l2, l3, .int x] (.int x :: st) h := Rr_nx d_MRm_lump_67 rfl
theorem r_MRm_lump_69 {a : Nat} {j : Int32} (hq : (qA a 0).isSome = true) : Rr X d MRm_lump 69 L (.int j :: .ref a :: st) (Wd mu la ro et) = if j < 0 ∨ qAd a 0 ≤ j.toNatClampNeg then none else Rr X d MRm_lump 70 L (.int (mu a j.toNatClampNeg) :: st) (Wd mu la ro et) := R_ialW d_MRm_lump_69 hq
theorem r_MRm_lump_70 : Rr X d MRm_lump 70 L st h = Rr X d MRm_lump 80 L st h := R_goto d_MRm_lump_70 (by decide)
theorem r_MRm_lump_73 {l1 l2 l3 l4 : Value} {x : Nat} : Rr X d MRm_lump 73 [.ref x, l1, l2, l3, l4] st h = Rr X d MRm_lump 74 [.ref x, l1, l2, l3, l4] (.ref x :: st) h := Rr_nx d_MRm_lump_73 rfl
theorem r_MRm_lump_74 {a : Nat} (hq : (qR a 10 7).isSome = true) : Rr X d MRm_lump 74 L (.ref a :: st) (Wd mu la ro et) = Rr X d MRm_lump 77 L (.ref (qRd a 10 7) :: st) (Wd mu la ro et) := R_gfR d_MRm_lump_74 ff_10_23 hq
theorem r_MRm_lump_77 {l0 l1 l2 l3 : Value} {x : Int32} : Rr X d MRm_lump 77 [l0, l1, l2, l3, .int x] st h = Rr X d MRm_lump 79 [l0, l1, l2, l3, .int x] (.int x :: st) h := Rr_nx d_MRm_lump_77 rfl
theorem r_MRm_lump_79 {a : Nat} {j : Int32} (hq : (qA a 0).isSome = true) : Rr X d MRm_lump 79 L (.int j :: .ref a :: st) (Wd mu la ro et) = if j < 0 ∨ qAd a 0 ≤ j.toNatClampNeg then none else Rr X d MRm_lump 80 L (.int (mu a j.toNatClampNeg) :: st) (Wd mu la ro et) := R_ialW d_MRm_lump_79 hq
theorem r_MRm_lump_80 {x : Int32} : Rr X d MRm_lump 80 L [.int x] h = some (some (.int x), h) := R_ir d_MRm_lump_80 rfl
theorem d_MRm_undo_0 : decode MRm_undo.2.2.1 0 = .ok (.aload_n 0, 1) := by decide +kernel
theorem d_MRm_undo_1 : decode MRm_undo.2.2.1 1 = .ok (.getfield 187, 3) := by decide +kernel
theorem d_MRm_undo_4 : decode MRm_undo.2.2.1 4 = .ok (.ifCond .ne 6, 3) := by decide +kernel
theorem d_MRm_undo_7 : decode MRm_undo.2.2.1 7 = .ok (.bipush (-5), 2) := by decide +kernel
theorem d_MRm_undo_9 : decode MRm_undo.2.2.1 9 = .ok (.ireturn, 1) := by decide +kernel
theorem d_MRm_undo_10 : decode MRm_undo.2.2.1 10 = .ok (.aload_n 0, 1) := by decide +kernel
theorem d_MRm_undo_11 : decode MRm_undo.2.2.1 11 = .ok (.dup, 1) := by decide +kernel
theorem d_MRm_undo_12 : decode MRm_undo.2.2.1 12 = .ok (.getfield 187, 3) := by decide +kernel
theorem d_MRm_undo_15 : decode MRm_undo.2.2.1 15 = .ok (.iconst 1, 1) := by decide +kernel
theorem d_MRm_undo_16 : decode MRm_undo.2.2.1 16 = .ok (.isub, 1) := by decide +kernel
theorem d_MRm_undo_17 : decode MRm_undo.2.2.1 17 = .ok (.putfield 187, 3) := by decide +kernel
theorem d_MRm_undo_20 : decode MRm_undo.2.2.1 20 = .ok (.aload_n 0, 1) := by decide +kernel
theorem d_MRm_undo_21 : decode MRm_undo.2.2.1 21 = .ok (.dup, 1) := by decide +kernel
theorem d_MRm_undo_22 : decode MRm_undo.2.2.1 22 = .ok (.getfield 184, 3) := by decide +kernel
theorem d_MRm_undo_25 : decode MRm_undo.2.2.1 25 = .ok (.iconst 1, 1) := by decide +kernel
theorem d_MRm_undo_26 : decode MRm_undo.2.2.1 26 = .ok (.iadd, 1) := by decide +kernel
theorem d_MRm_undo_27 : decode MRm_undo.2.2.1 27 = .ok (.putfield 184, 3) := by decide +kernel
theorem d_MRm_undo_30 : decode MRm_undo.2.2.1 30 = .ok (.aload_n 0, 1) := by decide +kernel
theorem d_MRm_undo_31 : decode MRm_undo.2.2.1 31 = .ok (.aload_n 0, 1) := by decide +kernel
theorem d_MRm_undo_32 : decode MRm_undo.2.2.1 32 = .ok (.getfield 29, 3) := by decide +kernel
theorem d_MRm_undo_35 : decode MRm_undo.2.2.1 35 = .ok (.aload_n 0, 1) := by decide +kernel
theorem d_MRm_undo_36 : decode MRm_undo.2.2.1 36 = .ok (.getfield 187, 3) := by decide +kernel
theorem d_MRm_undo_39 : decode MRm_undo.2.2.1 39 = .ok (.iaload, 1) := by decide +kernel
theorem d_MRm_undo_40 : decode MRm_undo.2.2.1 40 = .ok (.aload_n 0, 1) := by decide +kernel
theorem d_MRm_undo_41 : decode MRm_undo.2.2.1 41 = .ok (.getfield 32, 3) := by decide +kernel
theorem d_MRm_undo_44 : decode MRm_undo.2.2.1 44 = .ok (.aload_n 0, 1) := by decide +kernel
theorem d_MRm_undo_45 : decode MRm_undo.2.2.1 45 = .ok (.getfield 187, 3) := by decide +kernel
theorem d_MRm_undo_48 : decode MRm_undo.2.2.1 48 = .ok (.iaload, 1) := by decide +kernel
theorem d_MRm_undo_49 : decode MRm_undo.2.2.1 49 = .ok (.aload_n 0, 1) := by decide +kernel
theorem d_MRm_undo_50 : decode MRm_undo.2.2.1 50 = .ok (.getfield 35, 3) := by decide +kernel
theorem d_MRm_undo_53 : decode MRm_undo.2.2.1 53 = .ok (.aload_n 0, 1) := by decide +kernel
theorem d_MRm_undo_54 : decode MRm_undo.2.2.1 54 = .ok (.getfield 187, 3) := by decide +kernel
theorem d_MRm_undo_57 : decode MRm_undo.2.2.1 57 = .ok (.iaload, 1) := by decide +kernel
theorem d_MRm_undo_58 : decode MRm_undo.2.2.1 58 = .ok (.invokevirtual 190, 3) := by decide +kernel
theorem d_MRm_undo_61 : decode MRm_undo.2.2.1 61 = .ok (.aload_n 0, 1) := by decide +kernel
theorem d_MRm_undo_62 : decode MRm_undo.2.2.1 62 = .ok (.getfield 187, 3) := by decide +kernel
theorem d_MRm_undo_65 : decode MRm_undo.2.2.1 65 = .ok (.ireturn, 1) := by decide +kernel
theorem r_MRm_undo_0 {x : Nat} : Rr X d MRm_undo 0 [.ref x] st h = Rr X d MRm_undo 1 [.ref x] (.ref x :: st) h := Rr_nx d_MRm_undo_0 rfl
theorem ff_10_187 : fF 10 187 = some (10, 12, 0, 0) := rfl
theorem r_MRm_undo_1 {a : Nat} (hq : qI a 10 12 = true) : Rr X d MRm_undo 1 L (.ref a :: st) (Wd mu la ro et) = Rr X d MRm_undo 4 L (.int (mu a 12) :: st) (Wd mu la ro et) := R_gfI d_MRm_undo_1 ff_10_187 hq
theorem r_MRm_undo_4 {x : Int32} : Rr X d MRm_undo 4 L (.int x :: st) h = if ¬ x = 0 then Rr X d MRm_undo 10 L st h else Rr X d MRm_undo 7 L st h := R_if_ne d_MRm_undo_4 (by decide)
theorem r_MRm_undo_7 : Rr X d MRm_undo 7 L st h = Rr X d MRm_undo 9 L (.int (-5) :: st) h := Rr_nx d_MRm_undo_7 rfl
theorem r_MRm_undo_9 {x : Int32} : Rr X d MRm_undo 9 L [.int x] h = some (some (.int x), h) := R_ir d_MRm_undo_9 rfl
theorem r_MRm_undo_10 {x : Nat} : Rr X d MRm_undo 10 [.ref x] st h = Rr X d MRm_undo 11 [.ref x] (.ref x :: st) h := Rr_nx d_MRm_undo_10 rfl
theorem r_MRm_undo_11 {x : Nat} : Rr X d MRm_undo 11 L (.ref x :: st) h = Rr X d MRm_undo 12 L (.ref x :: .ref x :: st) h := Rr_nx d_MRm_undo_11 rfl
theorem r_MRm_undo_11i {x : Int32} : Rr X d MRm_undo 11 L (.int x :: st) h = Rr X d MRm_undo 12 L (.int x :: .int x :: st) h := Rr_nx d_MRm_undo_11 rfl
theorem r_MRm_undo_12 {a : Nat} (hq : qI a 10 12 = true) : Rr X d MRm_undo 12 L (.ref a :: st) (Wd mu la ro et) = Rr X d MRm_undo 15 L (.int (mu a 12) :: st) (Wd mu la ro et) := R_gfI d_MRm_undo_12 ff_10_187 hq
theorem r_MRm_undo_15 : Rr X d MRm_undo 15 L st h = Rr X d MRm_undo 16 L (.int (1) :: st) h := Rr_nx d_MRm_undo_15 rfl
theorem r_MRm_undo_16 {x y : Int32} : Rr X d MRm_undo 16 L (.int y :: .int x :: st) h = Rr X d MRm_undo 17 L (.int (x - y) :: st) h := Rr_nx d_MRm_undo_16 rfl
theorem r_MRm_undo_17 {a : Nat} {x : Int32} (hq : qI a 10 12 = true) : Rr X d MRm_undo 17 L (.int x :: .ref a :: st) (Wd mu la ro et) = Rr X d MRm_undo 20 L st (Wd (up2 mu a 12 x) la ro et) := R_pfI d_MRm_undo_17 ff_10_187 hq
theorem r_MRm_undo_20 {x : Nat} : Rr X d MRm_undo 20 [.ref x] st h = Rr X d MRm_undo 21 [.ref x] (.ref x :: st) h := Rr_nx d_MRm_undo_20 rfl
theorem r_MRm_undo_21 {x : Nat} : Rr X d MRm_undo 21 L (.ref x :: st) h = Rr X d MRm_undo 22 L (.ref x :: .ref x :: st) h := Rr_nx d_MRm_undo_21 rfl
theorem r_MRm_undo_21i {x : Int32} : Rr X d MRm_undo 21 L (.int x :: st) h = Rr X d MRm_undo 22 L (.int x :: .int x :: st) h := Rr_nx d_MRm_undo_21 rfl
theorem ff_10_184 : fF 10 184 = some (10, 13, 0, 0) := rfl
theorem r_MRm_undo_22 {a : Nat} (hq : qI a 10 13 = true) : Rr X d MRm_undo 22 L (.ref a :: st) (Wd mu la ro et) = Rr X d MRm_undo 25 L (.int (mu a 13) :: st) (Wd mu la ro et) := R_gfI d_MRm_undo_22 ff_10_184 hq
theorem r_MRm_undo_25 : Rr X d MRm_undo 25 L st h = Rr X d MRm_undo 26 L (.int (1) :: st) h := Rr_nx d_MRm_undo_25 rfl
theorem r_MRm_undo_26 {x y : Int32} : Rr X d MRm_undo 26 L (.int y :: .int x :: st) h = Rr X d MRm_undo 27 L (.int (x + y) :: st) h := Rr_nx d_MRm_undo_26 rfl
theorem r_MRm_undo_27 {a : Nat} {x : Int32} (hq : qI a 10 13 = true) : Rr X d MRm_undo 27 L (.int x :: .ref a :: st) (Wd mu la ro et) = Rr X d MRm_undo 30 L st (Wd (up2 mu a 13 x) la ro et) := R_pfI d_MRm_undo_27 ff_10_184 hq
theorem r_MRm_undo_30 {x : Nat} : Rr X d MRm_undo 30 [.ref x] st h = Rr X d MRm_undo 31 [.ref x] (.ref x :: st) h := Rr_nx d_MRm_undo_30 rfl
theorem r_MRm_undo_31 {x : Nat} : Rr X d MRm_undo 31 [.ref x] st h = Rr X d MRm_undo 32 [.ref x] (.ref x :: st) h := Rr_nx d_MRm_undo_31 rfl
theorem ff_10_29 : fF 10 29 = some (10, 14, 1, 1) := rfl
theorem r_MRm_undo_32 {a : Nat} (hq : (qR a 10 14).isSome = true) : Rr X d MRm_undo 32 L (.ref a :: st) (Wd mu la ro et) = Rr X d MRm_undo 35 L (.ref (qRd a 10 14) :: st) (Wd mu la ro et) := R_gfR d_MRm_undo_32 ff_10_29 hq
theorem r_MRm_undo_35 {x : Nat} : Rr X d MRm_undo 35 [.ref x] st h = Rr X d MRm_undo 36 [.ref x] (.ref x :: st) h := Rr_nx d_MRm_undo_35 rfl
theorem r_MRm_undo_36 {a : Nat} (hq : qI a 10 12 = true) : Rr X d MRm_undo 36 L (.ref a :: st) (Wd mu la ro et) = Rr X d MRm_undo 39 L (.int (mu a 12) :: st) (Wd mu la ro et) := R_gfI d_MRm_undo_36 ff_10_187 hq
theorem r_MRm_undo_39 {a : Nat} {j : Int32} (hq : (qA a 0).isSome = true) : Rr X d MRm_undo 39 L (.int j :: .ref a :: st) (Wd mu la ro et) = if j < 0 ∨ qAd a 0 ≤ j.toNatClampNeg then none else Rr X d MRm_undo 40 L (.int (mu a j.toNatClampNeg) :: st) (Wd mu la ro et) := R_ialW d_MRm_undo_39 hq
theorem r_MRm_undo_40 {x : Nat} : Rr X d MRm_undo 40 [.ref x] st h = Rr X d MRm_undo 41 [.ref x] (.ref x :: st) h := Rr_nx d_MRm_undo_40 rfl
theorem ff_10_32 : fF 10 32 = some (10, 15, 1, 1) := rfl
theorem r_MRm_undo_41 {a : Nat} (hq : (qR a 10 15).isSome = true) : Rr X d MRm_undo 41 L (.ref a :: st) (Wd mu la ro et) = Rr X d MRm_undo 44 L (.ref (qRd a 10 15) :: st) (Wd mu la ro et) := R_gfR d_MRm_undo_41 ff_10_32 hq
theorem r_MRm_undo_44 {x : Nat} : Rr X d MRm_undo 44 [.ref x] st h = Rr X d MRm_undo 45 [.ref x] (.ref x :: st) h := Rr_nx d_MRm_undo_44 rfl
theorem r_MRm_undo_45 {a : Nat} (hq : qI a 10 12 = true) : Rr X d MRm_undo 45 L (.ref a :: st) (Wd mu la ro et) = Rr X d MRm_undo 48 L (.int (mu a 12) :: st) (Wd mu la ro et) := R_gfI d_MRm_undo_45 ff_10_187 hq
theorem r_MRm_undo_48 {a : Nat} {j : Int32} (hq : (qA a 0).isSome = true) : Rr X d MRm_undo 48 L (.int j :: .ref a :: st) (Wd mu la ro et) = if j < 0 ∨ qAd a 0 ≤ j.toNatClampNeg then none else Rr X d MRm_undo 49 L (.int (mu a j.toNatClampNeg) :: st) (Wd mu la ro et) := R_ialW d_MRm_undo_48 hq
theorem r_MRm_undo_49 {x : Nat} : Rr X d MRm_undo 49 [.ref x] st h = Rr X d MRm_undo 50 [.ref x] (.ref x :: st) h := Rr_nx d_MRm_undo_49 rfl
theorem ff_10_35 : fF 10 35 = some (10, 16, 1, 1) := rfl
theorem r_MRm_undo_50 {a : Nat} (hq : (qR a 10 16).isSome = true) : Rr X d MRm_undo 50 L (.ref a :: st) (Wd mu la ro et) = Rr X d MRm_undo 53 L (.ref (qRd a 10 16) :: st) (Wd mu la ro et) := R_gfR d_MRm_undo_50 ff_10_35 hq
theorem r_MRm_undo_53 {x : Nat} : Rr X d MRm_undo 53 [.ref x] st h = Rr X d MRm_undo 54 [.ref x] (.ref x :: st) h := Rr_nx d_MRm_undo_53 rfl
theorem r_MRm_undo_54 {a : Nat} (hq : qI a 10 12 = true) : Rr X d MRm_undo 54 L (.ref a :: st) (Wd mu la ro et) = Rr X d MRm_undo 57 L (.int (mu a 12) :: st) (Wd mu la ro et) := R_gfI d_MRm_undo_54 ff_10_187 hq
theorem r_MRm_undo_57 {a : Nat} {j : Int32} (hq : (qA a 0).isSome = true) : Rr X d MRm_undo 57 L (.int j :: .ref a :: st) (Wd mu la ro et) = if j < 0 ∨ qAd a 0 ≤ j.toNatClampNeg then none else Rr X d MRm_undo 58 L (.int (mu a j.toNatClampNeg) :: st) (Wd mu la ro et) := R_ialW d_MRm_undo_57 hq
theorem fc_10_190 : fC 10 190 = some (0, 10, 3, MRm_place) := rfl
theorem r_MRm_undo_58 {y0 : Int32} {y1 : Int32} {y2 : Int32} {a : Nat} (hO : qO a 10 = true) (hc : ckS st = true) : Rr X (d + 1) MRm_undo 58 L (.int y2 :: .int y1 :: .int y0 :: .ref a :: st) (Wd mu la ro et) = (Rr X d MRm_place 0 [.ref a, .int y0, .int y1, .int y2] [] (Wd mu la ro et)).bind fun q => Rr X (d + 1) MRm_undo 61 L (psh q.1 st) q.2 := R_iv (av := [.int y2, .int y1, .int y0]) d_MRm_undo_58 fc_10_190 hO (ckS_le hc) rfl (Nat.le_of_ble_eq_true rfl) (Nat.le_of_ble_eq_true rfl)
theorem r_MRm_undo_61 {x : Nat} : Rr X d MRm_undo 61 [.ref x] st h = Rr X d MRm_undo 62 [.ref x] (.ref x :: st) h := Rr_nx d_MRm_undo_61 rfl
theorem r_MRm_undo_62 {a : Nat} (hq : qI a 10 12 = true) : Rr X d MRm_undo 62 L (.ref a :: st) (Wd mu la ro et) = Rr X d MRm_undo 65 L (.int (mu a 12) :: st) (Wd mu la ro et) := R_gfI d_MRm_undo_62 ff_10_187 hq
theorem r_MRm_undo_65 {x : Int32} : Rr X d MRm_undo 65 L [.int x] h = some (some (.int x), h) := R_ir d_MRm_undo_65 rfl
theorem d_MRm_redo_0 : decode MRm_redo.2.2.1 0 = .ok (.aload_n 0, 1) := by decide +kernel
theorem d_MRm_redo_1 : decode MRm_redo.2.2.1 1 = .ok (.getfield 184, 3) := by decide +kernel
theorem d_MRm_redo_4 : decode MRm_redo.2.2.1 4 = .ok (.ifCond .ne 6, 3) := by decide +kernel
theorem d_MRm_redo_7 : decode MRm_redo.2.2.1 7 = .ok (.bipush (-5), 2) := by decide +kernel
theorem d_MRm_redo_9 : decode MRm_redo.2.2.1 9 = .ok (.ireturn, 1) := by decide +kernel
theorem d_MRm_redo_10 : decode MRm_redo.2.2.1 10 = .ok (.aload_n 0, 1) := by decide +kernel
theorem d_MRm_redo_11 : decode MRm_redo.2.2.1 11 = .ok (.aload_n 0, 1) := by decide +kernel
theorem d_MRm_redo_12 : decode MRm_redo.2.2.1 12 = .ok (.getfield 29, 3) := by decide +kernel
theorem d_MRm_redo_15 : decode MRm_redo.2.2.1 15 = .ok (.aload_n 0, 1) := by decide +kernel
theorem d_MRm_redo_16 : decode MRm_redo.2.2.1 16 = .ok (.getfield 187, 3) := by decide +kernel
theorem d_MRm_redo_19 : decode MRm_redo.2.2.1 19 = .ok (.iaload, 1) := by decide +kernel
theorem d_MRm_redo_20 : decode MRm_redo.2.2.1 20 = .ok (.aload_n 0, 1) := by decide +kernel
theorem d_MRm_redo_21 : decode MRm_redo.2.2.1 21 = .ok (.getfield 32, 3) := by decide +kernel
theorem d_MRm_redo_24 : decode MRm_redo.2.2.1 24 = .ok (.aload_n 0, 1) := by decide +kernel
theorem d_MRm_redo_25 : decode MRm_redo.2.2.1 25 = .ok (.getfield 187, 3) := by decide +kernel
theorem d_MRm_redo_28 : decode MRm_redo.2.2.1 28 = .ok (.iaload, 1) := by decide +kernel
theorem d_MRm_redo_29 : decode MRm_redo.2.2.1 29 = .ok (.aload_n 0, 1) := by decide +kernel
theorem d_MRm_redo_30 : decode MRm_redo.2.2.1 30 = .ok (.getfield 38, 3) := by decide +kernel
theorem d_MRm_redo_33 : decode MRm_redo.2.2.1 33 = .ok (.aload_n 0, 1) := by decide +kernel
theorem d_MRm_redo_34 : decode MRm_redo.2.2.1 34 = .ok (.getfield 187, 3) := by decide +kernel
theorem d_MRm_redo_37 : decode MRm_redo.2.2.1 37 = .ok (.iaload, 1) := by decide +kernel
theorem d_MRm_redo_38 : decode MRm_redo.2.2.1 38 = .ok (.invokevirtual 190, 3) := by decide +kernel
theorem d_MRm_redo_41 : decode MRm_redo.2.2.1 41 = .ok (.aload_n 0, 1) := by decide +kernel
theorem d_MRm_redo_42 : decode MRm_redo.2.2.1 42 = .ok (.dup, 1) := by decide +kernel
theorem d_MRm_redo_43 : decode MRm_redo.2.2.1 43 = .ok (.getfield 187, 3) := by decide +kernel
theorem d_MRm_redo_46 : decode MRm_redo.2.2.1 46 = .ok (.iconst 1, 1) := by decide +kernel
theorem d_MRm_redo_47 : decode MRm_redo.2.2.1 47 = .ok (.iadd, 1) := by decide +kernel
theorem d_MRm_redo_48 : decode MRm_redo.2.2.1 48 = .ok (.putfield 187, 3) := by decide +kernel
theorem d_MRm_redo_51 : decode MRm_redo.2.2.1 51 = .ok (.aload_n 0, 1) := by decide +kernel
theorem d_MRm_redo_52 : decode MRm_redo.2.2.1 52 = .ok (.dup, 1) := by decide +kernel
theorem d_MRm_redo_53 : decode MRm_redo.2.2.1 53 = .ok (.getfield 184, 3) := by decide +kernel
theorem d_MRm_redo_56 : decode MRm_redo.2.2.1 56 = .ok (.iconst 1, 1) := by decide +kernel
theorem d_MRm_redo_57 : decode MRm_redo.2.2.1 57 = .ok (.isub, 1) := by decide +kernel
theorem d_MRm_redo_58 : decode MRm_redo.2.2.1 58 = .ok (.putfield 184, 3) := by decide +kernel
theorem d_MRm_redo_61 : decode MRm_redo.2.2.1 61 = .ok (.aload_n 0, 1) := by decide +kernel
theorem d_MRm_redo_62 : decode MRm_redo.2.2.1 62 = .ok (.getfield 184, 3) := by decide +kernel
theorem d_MRm_redo_65 : decode MRm_redo.2.2.1 65 = .ok (.ireturn, 1) := by decide +kernel
theorem r_MRm_redo_0 {x : Nat} : Rr X d MRm_redo 0 [.ref x] st h = Rr X d MRm_redo 1 [.ref x] (.ref x :: st) h := Rr_nx d_MRm_redo_0 rfl
theorem r_MRm_redo_1 {a : Nat} (hq : qI a 10 13 = true) : Rr X d MRm_redo 1 L (.ref a :: st) (Wd mu la ro et) = Rr X d MRm_redo 4 L (.int (mu a 13) :: st) (Wd mu la ro et) := R_gfI d_MRm_redo_1 ff_10_184 hq
theorem r_MRm_redo_4 {x : Int32} : Rr X d MRm_redo 4 L (.int x :: st) h = if ¬ x = 0 then Rr X d MRm_redo 10 L st h else Rr X d MRm_redo 7 L st h := R_if_ne d_MRm_redo_4 (by decide)
theorem r_MRm_redo_7 : Rr X d MRm_redo 7 L st h = Rr X d MRm_redo 9 L (.int (-5) :: st) h := Rr_nx d_MRm_redo_7 rfl
theorem r_MRm_redo_9 {x : Int32} : Rr X d MRm_redo 9 L [.int x] h = some (some (.int x), h) := R_ir d_MRm_redo_9 rfl
theorem r_MRm_redo_10 {x : Nat} : Rr X d MRm_redo 10 [.ref x] st h = Rr X d MRm_redo 11 [.ref x] (.ref x :: st) h := Rr_nx d_MRm_redo_10 rfl
theorem r_MRm_redo_11 {x : Nat} : Rr X d MRm_redo 11 [.ref x] st h = Rr X d MRm_redo 12 [.ref x] (.ref x :: st) h := Rr_nx d_MRm_redo_11 rfl
theorem r_MRm_redo_12 {a : Nat} (hq : (qR a 10 14).isSome = true) : Rr X d MRm_redo 12 L (.ref a :: st) (Wd mu la ro et) = Rr X d MRm_redo 15 L (.ref (qRd a 10 14) :: st) (Wd mu la ro et) := R_gfR d_MRm_redo_12 ff_10_29 hq
theorem r_MRm_redo_15 {x : Nat} : Rr X d MRm_redo 15 [.ref x] st h = Rr X d MRm_redo 16 [.ref x] (.ref x :: st) h := Rr_nx d_MRm_redo_15 rfl
theorem r_MRm_redo_16 {a : Nat} (hq : qI a 10 12 = true) : Rr X d MRm_redo 16 L (.ref a :: st) (Wd mu la ro et) = Rr X d MRm_redo 19 L (.int (mu a 12) :: st) (Wd mu la ro et) := R_gfI d_MRm_redo_16 ff_10_187 hq
theorem r_MRm_redo_19 {a : Nat} {j : Int32} (hq : (qA a 0).isSome = true) : Rr X d MRm_redo 19 L (.int j :: .ref a :: st) (Wd mu la ro et) = if j < 0 ∨ qAd a 0 ≤ j.toNatClampNeg then none else Rr X d MRm_redo 20 L (.int (mu a j.toNatClampNeg) :: st) (Wd mu la ro et) := R_ialW d_MRm_redo_19 hq
theorem r_MRm_redo_20 {x : Nat} : Rr X d MRm_redo 20 [.ref x] st h = Rr X d MRm_redo 21 [.ref x] (.ref x :: st) h := Rr_nx d_MRm_redo_20 rfl
theorem r_MRm_redo_21 {a : Nat} (hq : (qR a 10 15).isSome = true) : Rr X d MRm_redo 21 L (.ref a :: st) (Wd mu la ro et) = Rr X d MRm_redo 24 L (.ref (qRd a 10 15) :: st) (Wd mu la ro et) := R_gfR d_MRm_redo_21 ff_10_32 hq
theorem r_MRm_redo_24 {x : Nat} : Rr X d MRm_redo 24 [.ref x] st h = Rr X d MRm_redo 25 [.ref x] (.ref x :: st) h := Rr_nx d_MRm_redo_24 rfl
theorem r_MRm_redo_25 {a : Nat} (hq : qI a 10 12 = true) : Rr X d MRm_redo 25 L (.ref a :: st) (Wd mu la ro et) = Rr X d MRm_redo 28 L (.int (mu a 12) :: st) (Wd mu la ro et) := R_gfI d_MRm_redo_25 ff_10_187 hq
theorem r_MRm_redo_28 {a : Nat} {j : Int32} (hq : (qA a 0).isSome = true) : Rr X d MRm_redo 28 L (.int j :: .ref a :: st) (Wd mu la ro et) = if j < 0 ∨ qAd a 0 ≤ j.toNatClampNeg then none else Rr X d MRm_redo 29 L (.int (mu a j.toNatClampNeg) :: st) (Wd mu la ro et) := R_ialW d_MRm_redo_28 hq
theorem r_MRm_redo_29 {x : Nat} : Rr X d MRm_redo 29 [.ref x] st h = Rr X d MRm_redo 30 [.ref x] (.ref x :: st) h := Rr_nx d_MRm_redo_29 rfl
theorem ff_10_38 : fF 10 38 = some (10, 17, 1, 1) := rfl
theorem r_MRm_redo_30 {a : Nat} (hq : (qR a 10 17).isSome = true) : Rr X d MRm_redo 30 L (.ref a :: st) (Wd mu la ro et) = Rr X d MRm_redo 33 L (.ref (qRd a 10 17) :: st) (Wd mu la ro et) := R_gfR d_MRm_redo_30 ff_10_38 hq
theorem r_MRm_redo_33 {x : Nat} : Rr X d MRm_redo 33 [.ref x] st h = Rr X d MRm_redo 34 [.ref x] (.ref x :: st) h := Rr_nx d_MRm_redo_33 rfl
theorem r_MRm_redo_34 {a : Nat} (hq : qI a 10 12 = true) : Rr X d MRm_redo 34 L (.ref a :: st) (Wd mu la ro et) = Rr X d MRm_redo 37 L (.int (mu a 12) :: st) (Wd mu la ro et) := R_gfI d_MRm_redo_34 ff_10_187 hq
theorem r_MRm_redo_37 {a : Nat} {j : Int32} (hq : (qA a 0).isSome = true) : Rr X d MRm_redo 37 L (.int j :: .ref a :: st) (Wd mu la ro et) = if j < 0 ∨ qAd a 0 ≤ j.toNatClampNeg then none else Rr X d MRm_redo 38 L (.int (mu a j.toNatClampNeg) :: st) (Wd mu la ro et) := R_ialW d_MRm_redo_37 hq
theorem r_MRm_redo_38 {y0 : Int32} {y1 : Int32} {y2 : Int32} {a : Nat} (hO : qO a 10 = true) (hc : ckS st = true) : Rr X (d + 1) MRm_redo 38 L (.int y2 :: .int y1 :: .int y0 :: .ref a :: st) (Wd mu la ro et) = (Rr X d MRm_place 0 [.ref a, .int y0, .int y1, .int y2] [] (Wd mu la ro et)).bind fun q => Rr X (d + 1) MRm_redo 41 L (psh q.1 st) q.2 := R_iv (av := [.int y2, .int y1, .int y0]) d_MRm_redo_38 fc_10_190 hO (ckS_le hc) rfl (Nat.le_of_ble_eq_true rfl) (Nat.le_of_ble_eq_true rfl)
theorem r_MRm_redo_41 {x : Nat} : Rr X d MRm_redo 41 [.ref x] st h = Rr X d MRm_redo 42 [.ref x] (.ref x :: st) h := Rr_nx d_MRm_redo_41 rfl
theorem r_MRm_redo_42 {x : Nat} : Rr X d MRm_redo 42 L (.ref x :: st) h = Rr X d MRm_redo 43 L (.ref x :: .ref x :: st) h := Rr_nx d_MRm_redo_42 rfl
theorem r_MRm_redo_42i {x : Int32} : Rr X d MRm_redo 42 L (.int x :: st) h = Rr X d MRm_redo 43 L (.int x :: .int x :: st) h := Rr_nx d_MRm_redo_42 rfl
theorem r_MRm_redo_43 {a : Nat} (hq : qI a 10 12 = true) : Rr X d MRm_redo 43 L (.ref a :: st) (Wd mu la ro et) = Rr X d MRm_redo 46 L (.int (mu a 12) :: st) (Wd mu la ro et) := R_gfI d_MRm_redo_43 ff_10_187 hq
theorem r_MRm_redo_46 : Rr X d MRm_redo 46 L st h = Rr X d MRm_redo 47 L (.int (1) :: st) h := Rr_nx d_MRm_redo_46 rfl
theorem r_MRm_redo_47 {x y : Int32} : Rr X d MRm_redo 47 L (.int y :: .int x :: st) h = Rr X d MRm_redo 48 L (.int (x + y) :: st) h := Rr_nx d_MRm_redo_47 rfl
theorem r_MRm_redo_48 {a : Nat} {x : Int32} (hq : qI a 10 12 = true) : Rr X d MRm_redo 48 L (.int x :: .ref a :: st) (Wd mu la ro et) = Rr X d MRm_redo 51 L st (Wd (up2 mu a 12 x) la ro et) := R_pfI d_MRm_redo_48 ff_10_187 hq
theorem r_MRm_redo_51 {x : Nat} : Rr X d MRm_redo 51 [.ref x] st h = Rr X d MRm_redo 52 [.ref x] (.ref x :: st) h := Rr_nx d_MRm_redo_51 rfl
theorem r_MRm_redo_52 {x : Nat} : Rr X d MRm_redo 52 L (.ref x :: st) h = Rr X d MRm_redo 53 L (.ref x :: .ref x :: st) h := Rr_nx d_MRm_redo_52 rfl
theorem r_MRm_redo_52i {x : Int32} : Rr X d MRm_redo 52 L (.int x :: st) h = Rr X d MRm_redo 53 L (.int x :: .int x :: st) h := Rr_nx d_MRm_redo_52 rfl
theorem r_MRm_redo_53 {a : Nat} (hq : qI a 10 13 = true) : Rr X d MRm_redo 53 L (.ref a :: st) (Wd mu la ro et) = Rr X d MRm_redo 56 L (.int (mu a 13) :: st) (Wd mu la ro et) := R_gfI d_MRm_redo_53 ff_10_184 hq
theorem r_MRm_redo_56 : Rr X d MRm_redo 56 L st h = Rr X d MRm_redo 57 L (.int (1) :: st) h := Rr_nx d_MRm_redo_56 rfl
theorem r_MRm_redo_57 {x y : Int32} : Rr X d MRm_redo 57 L (.int y :: .int x :: st) h = Rr X d MRm_redo 58 L (.int (x - y) :: st) h := Rr_nx d_MRm_redo_57 rfl
theorem r_MRm_redo_58 {a : Nat} {x : Int32} (hq : qI a 10 13 = true) : Rr X d MRm_redo 58 L (.int x :: .ref a :: st) (Wd mu la ro et) = Rr X d MRm_redo 61 L st (Wd (up2 mu a 13 x) la ro et) := R_pfI d_MRm_redo_58 ff_10_184 hq
theorem r_MRm_redo_61 {x : Nat} : Rr X d MRm_redo 61 [.ref x] st h = Rr X d MRm_redo 62 [.ref x] (.ref x :: st) h := Rr_nx d_MRm_redo_61 rfl
theorem r_MRm_redo_62 {a : Nat} (hq : qI a 10 13 = true) : Rr X d MRm_redo 62 L (.ref a :: st) (Wd mu la ro et) = Rr X d MRm_redo 65 L (.int (mu a 13) :: st) (Wd mu la ro et) := R_gfI d_MRm_redo_62 ff_10_184 hq
theorem r_MRm_redo_65 {x : Int32} : Rr X d MRm_redo 65 L [.int x] h = some (some (.int x), h) := R_ir d_MRm_redo_65 rfl
theorem d_MRm_set_0 : decode MRm_set.2.2.1 0 = .ok (.aload_n 0, 1) := by decide +kernel
theorem d_MRm_set_1 : decode MRm_set.2.2.1 1 = .ok (.iload_n 1, 1) := by decide +kernel
theorem d_MRm_set_2 : decode MRm_set.2.2.1 2 = .ok (.invokevirtual 173, 3) := by decide +kernel
theorem d_MRm_set_5 : decode MRm_set.2.2.1 5 = .ok (.ifCond .ne 5, 3) := by decide +kernel
theorem d_MRm_set_8 : decode MRm_set.2.2.1 8 = .ok (.iconst (-1), 1) := by decide +kernel
theorem d_MRm_set_9 : decode MRm_set.2.2.1 9 = .ok (.ireturn, 1) := by decide +kernel
theorem d_MRm_set_10 : decode MRm_set.2.2.1 10 = .ok (.iload_n 2, 1) := by decide +kernel
theorem d_MRm_set_11 : decode MRm_set.2.2.1 11 = .ok (.bipush 6, 2) := by decide +kernel
theorem d_MRm_set_13 : decode MRm_set.2.2.1 13 = .ok (.bipush 9, 2) := by decide +kernel
theorem d_MRm_set_15 : decode MRm_set.2.2.1 15 = .ok (.invokestatic 107, 3) := by decide +kernel
theorem d_MRm_set_18 : decode MRm_set.2.2.1 18 = .ok (.ifCond .eq 44, 3) := by decide +kernel
theorem d_MRm_set_21 : decode MRm_set.2.2.1 21 = .ok (.iload_n 3, 1) := by decide +kernel
theorem d_MRm_set_22 : decode MRm_set.2.2.1 22 = .ok (.iconst 0, 1) := by decide +kernel
theorem d_MRm_set_23 : decode MRm_set.2.2.1 23 = .ok (.iload_n 2, 1) := by decide +kernel
theorem d_MRm_set_24 : decode MRm_set.2.2.1 24 = .ok (.bipush 8, 2) := by decide +kernel
theorem d_MRm_set_26 : decode MRm_set.2.2.1 26 = .ok (.if_icmp .ge 9, 3) := by decide +kernel
theorem d_MRm_set_29 : decode MRm_set.2.2.1 29 = .ok (.sipush 999, 3) := by decide +kernel
theorem d_MRm_set_32 : decode MRm_set.2.2.1 32 = .ok (.goto 5, 3) := by decide +kernel
theorem d_MRm_set_35 : decode MRm_set.2.2.1 35 = .ok (.bipush 100, 2) := by decide +kernel
theorem d_MRm_set_37 : decode MRm_set.2.2.1 37 = .ok (.invokestatic 107, 3) := by decide +kernel
theorem d_MRm_set_40 : decode MRm_set.2.2.1 40 = .ok (.ifCond .eq 20, 3) := by decide +kernel
theorem d_MRm_set_43 : decode MRm_set.2.2.1 43 = .ok (.aload_n 0, 1) := by decide +kernel
theorem d_MRm_set_44 : decode MRm_set.2.2.1 44 = .ok (.iconst 0, 1) := by decide +kernel
theorem d_MRm_set_45 : decode MRm_set.2.2.1 45 = .ok (.iconst 4, 1) := by decide +kernel
theorem d_MRm_set_46 : decode MRm_set.2.2.1 46 = .ok (.iload_n 1, 1) := by decide +kernel
theorem d_MRm_set_47 : decode MRm_set.2.2.1 47 = .ok (.imul, 1) := by decide +kernel
theorem d_MRm_set_48 : decode MRm_set.2.2.1 48 = .ok (.iload_n 2, 1) := by decide +kernel
theorem d_MRm_set_49 : decode MRm_set.2.2.1 49 = .ok (.iadd, 1) := by decide +kernel
theorem d_MRm_set_50 : decode MRm_set.2.2.1 50 = .ok (.bipush 6, 2) := by decide +kernel
theorem d_MRm_set_52 : decode MRm_set.2.2.1 52 = .ok (.isub, 1) := by decide +kernel
theorem d_MRm_set_53 : decode MRm_set.2.2.1 53 = .ok (.iload_n 3, 1) := by decide +kernel
theorem d_MRm_set_54 : decode MRm_set.2.2.1 54 = .ok (.invokevirtual 194, 3) := by decide +kernel
theorem d_MRm_set_57 : decode MRm_set.2.2.1 57 = .ok (.goto 4, 3) := by decide +kernel
theorem d_MRm_set_60 : decode MRm_set.2.2.1 60 = .ok (.iconst (-1), 1) := by decide +kernel
theorem d_MRm_set_61 : decode MRm_set.2.2.1 61 = .ok (.ireturn, 1) := by decide +kernel
theorem d_MRm_set_62 : decode MRm_set.2.2.1 62 = .ok (.iload_n 2, 1) := by decide +kernel
theorem d_MRm_set_63 : decode MRm_set.2.2.1 63 = .ok (.bipush 10, 2) := by decide +kernel
theorem d_MRm_set_65 : decode MRm_set.2.2.1 65 = .ok (.bipush 9, 2) := by decide +kernel
theorem d_MRm_set_67 : decode MRm_set.2.2.1 67 = .ok (.aload_n 0, 1) := by decide +kernel
theorem d_MRm_set_68 : decode MRm_set.2.2.1 68 = .ok (.getfield 13, 3) := by decide +kernel
theorem d_MRm_set_71 : decode MRm_set.2.2.1 71 = .ok (.iload_n 1, 1) := by decide +kernel
theorem d_MRm_set_72 : decode MRm_set.2.2.1 72 = .ok (.iaload, 1) := by decide +kernel
theorem d_MRm_set_73 : decode MRm_set.2.2.1 73 = .ok (.iadd, 1) := by decide +kernel
theorem d_MRm_set_74 : decode MRm_set.2.2.1 74 = .ok (.invokestatic 107, 3) := by decide +kernel
theorem d_MRm_set_77 : decode MRm_set.2.2.1 77 = .ok (.ifCond .eq 31, 3) := by decide +kernel
theorem d_MRm_set_80 : decode MRm_set.2.2.1 80 = .ok (.iload_n 3, 1) := by decide +kernel
theorem d_MRm_set_81 : decode MRm_set.2.2.1 81 = .ok (.iconst 1, 1) := by decide +kernel
theorem d_MRm_set_82 : decode MRm_set.2.2.1 82 = .ok (.bipush 9, 2) := by decide +kernel
theorem d_MRm_set_84 : decode MRm_set.2.2.1 84 = .ok (.invokestatic 107, 3) := by decide +kernel
theorem d_MRm_set_87 : decode MRm_set.2.2.1 87 = .ok (.ifCond .eq 21, 3) := by decide +kernel
theorem d_MRm_set_90 : decode MRm_set.2.2.1 90 = .ok (.aload_n 0, 1) := by decide +kernel
theorem d_MRm_set_91 : decode MRm_set.2.2.1 91 = .ok (.iconst 1, 1) := by decide +kernel
theorem d_MRm_set_92 : decode MRm_set.2.2.1 92 = .ok (.bipush 12, 2) := by decide +kernel
theorem d_MRm_set_94 : decode MRm_set.2.2.1 94 = .ok (.iload_n 1, 1) := by decide +kernel
theorem d_MRm_set_95 : decode MRm_set.2.2.1 95 = .ok (.imul, 1) := by decide +kernel
theorem d_MRm_set_96 : decode MRm_set.2.2.1 96 = .ok (.iload_n 2, 1) := by decide +kernel
theorem d_MRm_set_97 : decode MRm_set.2.2.1 97 = .ok (.iadd, 1) := by decide +kernel
theorem d_MRm_set_98 : decode MRm_set.2.2.1 98 = .ok (.bipush 10, 2) := by decide +kernel
theorem d_MRm_set_100 : decode MRm_set.2.2.1 100 = .ok (.isub, 1) := by decide +kernel
theorem d_MRm_set_101 : decode MRm_set.2.2.1 101 = .ok (.iload_n 3, 1) := by decide +kernel
theorem d_MRm_set_102 : decode MRm_set.2.2.1 102 = .ok (.invokevirtual 194, 3) := by decide +kernel
theorem d_MRm_set_105 : decode MRm_set.2.2.1 105 = .ok (.goto 4, 3) := by decide +kernel
theorem d_MRm_set_108 : decode MRm_set.2.2.1 108 = .ok (.iconst (-1), 1) := by decide +kernel
theorem d_MRm_set_109 : decode MRm_set.2.2.1 109 = .ok (.ireturn, 1) := by decide +kernel
theorem r_MRm_set_0 {l1 l2 l3 : Value} {x : Nat} : Rr X d MRm_set 0 [.ref x, l1, l2, l3] st h = Rr X d MRm_set 1 [.ref x, l1, l2, l3] (.ref x :: st) h := Rr_nx d_MRm_set_0 rfl
theorem r_MRm_set_1 {l0 l2 l3 : Value} {x : Int32} : Rr X d MRm_set 1 [l0, .int x, l2, l3] st h = Rr X d MRm_set 2 [l0, .int x, l2, l3] (.int x :: st) h := Rr_nx d_MRm_set_1 rfl
theorem r_MRm_set_2 {y0 : Int32} {a : Nat} (hO : qO a 10 = true) (hc : ckS st = true) : Rr X (d + 1) MRm_set 2 L (.int y0 :: .ref a :: st) (Wd mu la ro et) = (Rr X d MRm_isStone 0 [.ref a, .int y0] [] (Wd mu la ro et)).bind fun q => Rr X (d + 1) MRm_set 5 L (psh q.1 st) q.2 := R_iv (av := [.int y0]) d_MRm_set_2 fc_10_173 hO (ckS_le hc) rfl (Nat.le_of_ble_eq_true rfl) (Nat.le_of_ble_eq_true rfl)
theorem r_MRm_set_5 {x : Int32} : Rr X d MRm_set 5 L (.int x :: st) h = if ¬ x = 0 then Rr X d MRm_set 10 L st h else Rr X d MRm_set 8 L st h := R_if_ne d_MRm_set_5 (by decide)
theorem r_MRm_set_8 : Rr X d MRm_set 8 L st h = Rr X d MRm_set 9 L (.int (-1) :: st) h := Rr_nx d_MRm_set_8 rfl
theorem r_MRm_set_9 {x : Int32} : Rr X d MRm_set 9 L [.int x] h = some (some (.int x), h) := R_ir d_MRm_set_9 rfl
theorem r_MRm_set_10 {l0 l1 l3 : Value} {x : Int32} : Rr X d MRm_set 10 [l0, l1, .int x, l3] st h = Rr X d MRm_set 11 [l0, l1, .int x, l3] (.int x :: st) h := Rr_nx d_MRm_set_10 rfl
theorem r_MRm_set_11 : Rr X d MRm_set 11 L st h = Rr X d MRm_set 13 L (.int (6) :: st) h := Rr_nx d_MRm_set_11 rfl
theorem r_MRm_set_13 : Rr X d MRm_set 13 L st h = Rr X d MRm_set 15 L (.int (9) :: st) h := Rr_nx d_MRm_set_13 rfl
theorem r_MRm_set_15 {y0 : Int32} {y1 : Int32} {y2 : Int32} (hc : ckS st = true) : Rr X (d + 1) MRm_set 15 L (.int y2 :: .int y1 :: .int y0 :: st) h = (Rr X d MRm_in 0 [.int y0, .int y1, .int y2] [] h).bind fun q => Rr X (d + 1) MRm_set 18 L (psh q.1 st) q.2 := R_is (av := [.int y2, .int y1, .int y0]) d_MRm_set_15 (Or.inl fc_10_107) (ckS_le hc) rfl (Nat.le_of_ble_eq_true rfl) (Nat.le_of_ble_eq_true rfl)
theorem r_MRm_set_18 {x : Int32} : Rr X d MRm_set 18 L (.int x :: st) h = if x = 0 then Rr X d MRm_set 62 L st h else Rr X d MRm_set 21 L st h := R_if_eq d_MRm_set_18 (by decide)
theorem r_MRm_set_21 {l0 l1 l2 : Value} {x : Int32} : Rr X d MRm_set 21 [l0, l1, l2, .int x] st h = Rr X d MRm_set 22 [l0, l1, l2, .int x] (.int x :: st) h := Rr_nx d_MRm_set_21 rfl
theorem r_MRm_set_22 : Rr X d MRm_set 22 L st h = Rr X d MRm_set 23 L (.int (0) :: st) h := Rr_nx d_MRm_set_22 rfl
theorem r_MRm_set_23 {l0 l1 l3 : Value} {x : Int32} : Rr X d MRm_set 23 [l0, l1, .int x, l3] st h = Rr X d MRm_set 24 [l0, l1, .int x, l3] (.int x :: st) h := Rr_nx d_MRm_set_23 rfl
theorem r_MRm_set_24 : Rr X d MRm_set 24 L st h = Rr X d MRm_set 26 L (.int (8) :: st) h := Rr_nx d_MRm_set_24 rfl
theorem r_MRm_set_26 {x y : Int32} : Rr X d MRm_set 26 L (.int y :: .int x :: st) h = if y ≤ x then Rr X d MRm_set 35 L st h else Rr X d MRm_set 29 L st h := R_ic_ge d_MRm_set_26 (by decide)
theorem r_MRm_set_29 : Rr X d MRm_set 29 L st h = Rr X d MRm_set 32 L (.int (999) :: st) h := Rr_nx d_MRm_set_29 rfl
theorem r_MRm_set_32 : Rr X d MRm_set 32 L st h = Rr X d MRm_set 37 L st h := R_goto d_MRm_set_32 (by decide)
theorem r_MRm_set_35 : Rr X d MRm_set 35 L st h = Rr X d MRm_set 37 L (.int (100) :: st) h := Rr_nx d_MRm_set_35 rfl
theorem r_MRm_set_37 {y0 : Int32} {y1 : Int32} {y2 : Int32} (hc : ckS st = true) : Rr X (d + 1) MRm_set 37 L (.int y2 :: .int y1 :: .int y0 :: st) h = (Rr X d MRm_in 0 [.int y0, .int y1, .int y2] [] h).bind fun q => Rr X (d + 1) MRm_set 40 L (psh q.1 st) q.2 := R_is (av := [.int y2, .int y1, .int y0]) d_MRm_set_37 (Or.inl fc_10_107) (ckS_le hc) rfl (Nat.le_of_ble_eq_true rfl) (Nat.le_of_ble_eq_true rfl)
theorem r_MRm_set_40 {x : Int32} : Rr X d MRm_set 40 L (.int x :: st) h = if x = 0 then Rr X d MRm_set 60 L st h else Rr X d MRm_set 43 L st h := R_if_eq d_MRm_set_40 (by decide)
theorem r_MRm_set_43 {l1 l2 l3 : Value} {x : Nat} : Rr X d MRm_set 43 [.ref x, l1, l2, l3] st h = Rr X d MRm_set 44 [.ref x, l1, l2, l3] (.ref x :: st) h := Rr_nx d_MRm_set_43 rfl
theorem r_MRm_set_44 : Rr X d MRm_set 44 L st h = Rr X d MRm_set 45 L (.int (0) :: st) h := Rr_nx d_MRm_set_44 rfl
theorem r_MRm_set_45 : Rr X d MRm_set 45 L st h = Rr X d MRm_set 46 L (.int (4) :: st) h := Rr_nx d_MRm_set_45 rfl
theorem r_MRm_set_46 {l0 l2 l3 : Value} {x : Int32} : Rr X d MRm_set 46 [l0, .int x, l2, l3] st h = Rr X d MRm_set 47 [l0, .int x, l2, l3] (.int x :: st) h := Rr_nx d_MRm_set_46 rfl
theorem r_MRm_set_47 {x y : Int32} : Rr X d MRm_set 47 L (.int y :: .int x :: st) h = Rr X d MRm_set 48 L (.int (x * y) :: st) h := Rr_nx d_MRm_set_47 rfl
theorem r_MRm_set_48 {l0 l1 l3 : Value} {x : Int32} : Rr X d MRm_set 48 [l0, l1, .int x, l3] st h = Rr X d MRm_set 49 [l0, l1, .int x, l3] (.int x :: st) h := Rr_nx d_MRm_set_48 rfl
theorem r_MRm_set_49 {x y : Int32} : Rr X d MRm_set 49 L (.int y :: .int x :: st) h = Rr X d MRm_set 50 L (.int (x + y) :: st) h := Rr_nx d_MRm_set_49 rfl
theorem r_MRm_set_50 : Rr X d MRm_set 50 L st h = Rr X d MRm_set 52 L (.int (6) :: st) h := Rr_nx d_MRm_set_50 rfl
theorem r_MRm_set_52 {x y : Int32} : Rr X d MRm_set 52 L (.int y :: .int x :: st) h = Rr X d MRm_set 53 L (.int (x - y) :: st) h := Rr_nx d_MRm_set_52 rfl
theorem r_MRm_set_53 {l0 l1 l2 : Value} {x : Int32} : Rr X d MRm_set 53 [l0, l1, l2, .int x] st h = Rr X d MRm_set 54 [l0, l1, l2, .int x] (.int x :: st) h := Rr_nx d_MRm_set_53 rfl
theorem fc_10_194 : fC 10 194 = some (0, 10, 3, MRm_changes) := rfl
theorem r_MRm_set_54 {y0 : Int32} {y1 : Int32} {y2 : Int32} {a : Nat} (hO : qO a 10 = true) (hc : ckS st = true) : Rr X (d + 1) MRm_set 54 L (.int y2 :: .int y1 :: .int y0 :: .ref a :: st) (Wd mu la ro et) = (Rr X d MRm_changes 0 [.ref a, .int y0, .int y1, .int y2, mkU, mkU] [] (Wd mu la ro et)).bind fun q => Rr X (d + 1) MRm_set 57 L (psh q.1 st) q.2 := R_iv (av := [.int y2, .int y1, .int y0]) d_MRm_set_54 fc_10_194 hO (ckS_le hc) rfl (Nat.le_of_ble_eq_true rfl) (Nat.le_of_ble_eq_true rfl)
theorem r_MRm_set_57 : Rr X d MRm_set 57 L st h = Rr X d MRm_set 61 L st h := R_goto d_MRm_set_57 (by decide)
theorem r_MRm_set_60 : Rr X d MRm_set 60 L st h = Rr X d MRm_set 61 L (.int (-1) :: st) h := Rr_nx d_MRm_set_60 rfl
theorem r_MRm_set_61 {x : Int32} : Rr X d MRm_set 61 L [.int x] h = some (some (.int x), h) := R_ir d_MRm_set_61 rfl
theorem r_MRm_set_62 {l0 l1 l3 : Value} {x : Int32} : Rr X d MRm_set 62 [l0, l1, .int x, l3] st h = Rr X d MRm_set 63 [l0, l1, .int x, l3] (.int x :: st) h := Rr_nx d_MRm_set_62 rfl
theorem r_MRm_set_63 : Rr X d MRm_set 63 L st h = Rr X d MRm_set 65 L (.int (10) :: st) h := Rr_nx d_MRm_set_63 rfl
theorem r_MRm_set_65 : Rr X d MRm_set 65 L st h = Rr X d MRm_set 67 L (.int (9) :: st) h := Rr_nx d_MRm_set_65 rfl
theorem r_MRm_set_67 {l1 l2 l3 : Value} {x : Nat} : Rr X d MRm_set 67 [.ref x, l1, l2, l3] st h = Rr X d MRm_set 68 [.ref x, l1, l2, l3] (.ref x :: st) h := Rr_nx d_MRm_set_67 rfl
theorem r_MRm_set_68 {a : Nat} (hq : (qR a 10 4).isSome = true) : Rr X d MRm_set 68 L (.ref a :: st) (Wd mu la ro et) = Rr X d MRm_set 71 L (.ref (qRd a 10 4) :: st) (Wd mu la ro et) := R_gfR d_MRm_set_68 ff_10_13 hq
theorem r_MRm_set_71 {l0 l2 l3 : Value} {x : Int32} : Rr X d MRm_set 71 [l0, .int x, l2, l3] st h = Rr X d MRm_set 72 [l0, .int x, l2, l3] (.int x :: st) h := Rr_nx d_MRm_set_71 rfl
theorem r_MRm_set_72 {a : Nat} {j : Int32} (hq : (qA a 0).isSome = true) : Rr X d MRm_set 72 L (.int j :: .ref a :: st) (Wd mu la ro et) = if j < 0 ∨ qAd a 0 ≤ j.toNatClampNeg then none else Rr X d MRm_set 73 L (.int (mu a j.toNatClampNeg) :: st) (Wd mu la ro et) := R_ialW d_MRm_set_72 hq
theorem r_MRm_set_73 {x y : Int32} : Rr X d MRm_set 73 L (.int y :: .int x :: st) h = Rr X d MRm_set 74 L (.int (x + y) :: st) h := Rr_nx d_MRm_set_73 rfl
theorem r_MRm_set_74 {y0 : Int32} {y1 : Int32} {y2 : Int32} (hc : ckS st = true) : Rr X (d + 1) MRm_set 74 L (.int y2 :: .int y1 :: .int y0 :: st) h = (Rr X d MRm_in 0 [.int y0, .int y1, .int y2] [] h).bind fun q => Rr X (d + 1) MRm_set 77 L (psh q.1 st) q.2 := R_is (av := [.int y2, .int y1, .int y0]) d_MRm_set_74 (Or.inl fc_10_107) (ckS_le hc) rfl (Nat.le_of_ble_eq_true rfl) (Nat.le_of_ble_eq_true rfl)
theorem r_MRm_set_77 {x : Int32} : Rr X d MRm_set 77 L (.int x :: st) h = if x = 0 then Rr X d MRm_set 108 L st h else Rr X d MRm_set 80 L st h := R_if_eq d_MRm_set_77 (by decide)
theorem r_MRm_set_80 {l0 l1 l2 : Value} {x : Int32} : Rr X d MRm_set 80 [l0, l1, l2, .int x] st h = Rr X d MRm_set 81 [l0, l1, l2, .int x] (.int x :: st) h := Rr_nx d_MRm_set_80 rfl
theorem r_MRm_set_81 : Rr X d MRm_set 81 L st h = Rr X d MRm_set 82 L (.int (1) :: st) h := Rr_nx d_MRm_set_81 rfl
theorem r_MRm_set_82 : Rr X d MRm_set 82 L st h = Rr X d MRm_set 84 L (.int (9) :: st) h := Rr_nx d_MRm_set_82 rfl
theorem r_MRm_set_84 {y0 : Int32} {y1 : Int32} {y2 : Int32} (hc : ckS st = true) : Rr X (d + 1) MRm_set 84 L (.int y2 :: .int y1 :: .int y0 :: st) h = (Rr X d MRm_in 0 [.int y0, .int y1, .int y2] [] h).bind fun q => Rr X (d + 1) MRm_set 87 L (psh q.1 st) q.2 := R_is (av := [.int y2, .int y1, .int y0]) d_MRm_set_84 (Or.inl fc_10_107) (ckS_le hc) rfl (Nat.le_of_ble_eq_true rfl) (Nat.le_of_ble_eq_true rfl)
theorem r_MRm_set_87 {x : Int32} : Rr X d MRm_set 87 L (.int x :: st) h = if x = 0 then Rr X d MRm_set 108 L st h else Rr X d MRm_set 90 L st h := R_if_eq d_MRm_set_87 (by decide)
theorem r_MRm_set_90 {l1 l2 l3 : Value} {x : Nat} : Rr X d MRm_set 90 [.ref x, l1, l2, l3] st h = Rr X d MRm_set 91 [.ref x, l1, l2, l3] (.ref x :: st) h := Rr_nx d_MRm_set_90 rfl
theorem r_MRm_set_91 : Rr X d MRm_set 91 L st h = Rr X d MRm_set 92 L (.int (1) :: st) h := Rr_nx d_MRm_set_91 rfl
theorem r_MRm_set_92 : Rr X d MRm_set 92 L st h = Rr X d MRm_set 94 L (.int (12) :: st) h := Rr_nx d_MRm_set_92 rfl
theorem r_MRm_set_94 {l0 l2 l3 : Value} {x : Int32} : Rr X d MRm_set 94 [l0, .int x, l2, l3] st h = Rr X d MRm_set 95 [l0, .int x, l2, l3] (.int x :: st) h := Rr_nx d_MRm_set_94 rfl
theorem r_MRm_set_95 {x y : Int32} : Rr X d MRm_set 95 L (.int y :: .int x :: st) h = Rr X d MRm_set 96 L (.int (x * y) :: st) h := Rr_nx d_MRm_set_95 rfl
theorem r_MRm_set_96 {l0 l1 l3 : Value} {x : Int32} : Rr X d MRm_set 96 [l0, l1, .int x, l3] st h = Rr X d MRm_set 97 [l0, l1, .int x, l3] (.int x :: st) h := Rr_nx d_MRm_set_96 rfl
theorem r_MRm_set_97 {x y : Int32} : Rr X d MRm_set 97 L (.int y :: .int x :: st) h = Rr X d MRm_set 98 L (.int (x + y) :: st) h := Rr_nx d_MRm_set_97 rfl
theorem r_MRm_set_98 : Rr X d MRm_set 98 L st h = Rr X d MRm_set 100 L (.int (10) :: st) h := Rr_nx d_MRm_set_98 rfl
theorem r_MRm_set_100 {x y : Int32} : Rr X d MRm_set 100 L (.int y :: .int x :: st) h = Rr X d MRm_set 101 L (.int (x - y) :: st) h := Rr_nx d_MRm_set_100 rfl
theorem r_MRm_set_101 {l0 l1 l2 : Value} {x : Int32} : Rr X d MRm_set 101 [l0, l1, l2, .int x] st h = Rr X d MRm_set 102 [l0, l1, l2, .int x] (.int x :: st) h := Rr_nx d_MRm_set_101 rfl
theorem r_MRm_set_102 {y0 : Int32} {y1 : Int32} {y2 : Int32} {a : Nat} (hO : qO a 10 = true) (hc : ckS st = true) : Rr X (d + 1) MRm_set 102 L (.int y2 :: .int y1 :: .int y0 :: .ref a :: st) (Wd mu la ro et) = (Rr X d MRm_changes 0 [.ref a, .int y0, .int y1, .int y2, mkU, mkU] [] (Wd mu la ro et)).bind fun q => Rr X (d + 1) MRm_set 105 L (psh q.1 st) q.2 := R_iv (av := [.int y2, .int y1, .int y0]) d_MRm_set_102 fc_10_194 hO (ckS_le hc) rfl (Nat.le_of_ble_eq_true rfl) (Nat.le_of_ble_eq_true rfl)
theorem r_MRm_set_105 : Rr X d MRm_set 105 L st h = Rr X d MRm_set 109 L st h := R_goto d_MRm_set_105 (by decide)
theorem r_MRm_set_108 : Rr X d MRm_set 108 L st h = Rr X d MRm_set 109 L (.int (-1) :: st) h := Rr_nx d_MRm_set_108 rfl
theorem r_MRm_set_109 {x : Int32} : Rr X d MRm_set 109 L [.int x] h = some (some (.int x), h) := R_ir d_MRm_set_109 rfl
theorem d_MRm_look_0 : decode MRm_look.2.2.1 0 = .ok (.aload_n 0, 1) := by decide +kernel
theorem d_MRm_look_1 : decode MRm_look.2.2.1 1 = .ok (.getfield 120, 3) := by decide +kernel
theorem d_MRm_look_4 : decode MRm_look.2.2.1 4 = .ok (.aload_n 0, 1) := by decide +kernel
theorem d_MRm_look_5 : decode MRm_look.2.2.1 5 = .ok (.getfield 111, 3) := by decide +kernel
theorem d_MRm_look_8 : decode MRm_look.2.2.1 8 = .ok (.if_icmp .ge 15, 3) := by decide +kernel
theorem d_MRm_look_11 : decode MRm_look.2.2.1 11 = .ok (.aload_n 0, 1) := by decide +kernel
theorem d_MRm_look_12 : decode MRm_look.2.2.1 12 = .ok (.getfield 7, 3) := by decide +kernel
theorem d_MRm_look_15 : decode MRm_look.2.2.1 15 = .ok (.aload_n 0, 1) := by decide +kernel
theorem d_MRm_look_16 : decode MRm_look.2.2.1 16 = .ok (.getfield 120, 3) := by decide +kernel
theorem d_MRm_look_19 : decode MRm_look.2.2.1 19 = .ok (.baload, 1) := by decide +kernel
theorem d_MRm_look_20 : decode MRm_look.2.2.1 20 = .ok (.goto 4, 3) := by decide +kernel
theorem d_MRm_look_23 : decode MRm_look.2.2.1 23 = .ok (.iconst (-1), 1) := by decide +kernel
theorem d_MRm_look_24 : decode MRm_look.2.2.1 24 = .ok (.ireturn, 1) := by decide +kernel
theorem r_MRm_look_0 {x : Nat} : Rr X d MRm_look 0 [.ref x] st h = Rr X d MRm_look 1 [.ref x] (.ref x :: st) h := Rr_nx d_MRm_look_0 rfl
theorem r_MRm_look_1 {a : Nat} (hq : qI a 10 18 = true) : Rr X d MRm_look 1 L (.ref a :: st) (Wd mu la ro et) = Rr X d MRm_look 4 L (.int (mu a 18) :: st) (Wd mu la ro et) := R_gfI d_MRm_look_1 ff_10_120 hq
theorem r_MRm_look_4 {x : Nat} : Rr X d MRm_look 4 [.ref x] st h = Rr X d MRm_look 5 [.ref x] (.ref x :: st) h := Rr_nx d_MRm_look_4 rfl
theorem r_MRm_look_5 {a : Nat} (hq : qI a 10 2 = true) : Rr X d MRm_look 5 L (.ref a :: st) (Wd mu la ro et) = Rr X d MRm_look 8 L (.int (mu a 2) :: st) (Wd mu la ro et) := R_gfI d_MRm_look_5 ff_10_111 hq
theorem r_MRm_look_8 {x y : Int32} : Rr X d MRm_look 8 L (.int y :: .int x :: st) h = if y ≤ x then Rr X d MRm_look 23 L st h else Rr X d MRm_look 11 L st h := R_ic_ge d_MRm_look_8 (by decide)
theorem r_MRm_look_11 {x : Nat} : Rr X d MRm_look 11 [.ref x] st h = Rr X d MRm_look 12 [.ref x] (.ref x :: st) h := Rr_nx d_MRm_look_11 rfl
theorem r_MRm_look_12 {a : Nat} (hq : (qR a 10 1).isSome = true) : Rr X d MRm_look 12 L (.ref a :: st) (Wd mu la ro et) = Rr X d MRm_look 15 L (.ref (qRd a 10 1) :: st) (Wd mu la ro et) := R_gfR d_MRm_look_12 ff_10_7 hq
theorem r_MRm_look_15 {x : Nat} : Rr X d MRm_look 15 [.ref x] st h = Rr X d MRm_look 16 [.ref x] (.ref x :: st) h := Rr_nx d_MRm_look_15 rfl
theorem r_MRm_look_16 {a : Nat} (hq : qI a 10 18 = true) : Rr X d MRm_look 16 L (.ref a :: st) (Wd mu la ro et) = Rr X d MRm_look 19 L (.int (mu a 18) :: st) (Wd mu la ro et) := R_gfI d_MRm_look_16 ff_10_120 hq
theorem r_MRm_look_19 {a : Nat} {j : Int32} (hq : (qA a 2).isSome = true) : Rr X d MRm_look 19 L (.int j :: .ref a :: st) (Wd mu la ro et) = if j < 0 ∨ qAd a 2 ≤ j.toNatClampNeg then none else Rr X d MRm_look 20 L (.int (mu a j.toNatClampNeg) :: st) (Wd mu la ro et) := R_balW d_MRm_look_19 hq
theorem r_MRm_look_20 : Rr X d MRm_look 20 L st h = Rr X d MRm_look 24 L st h := R_goto d_MRm_look_20 (by decide)
theorem r_MRm_look_23 : Rr X d MRm_look 23 L st h = Rr X d MRm_look 24 L (.int (-1) :: st) h := Rr_nx d_MRm_look_23 rfl
theorem r_MRm_look_24 {x : Int32} : Rr X d MRm_look 24 L [.int x] h = some (some (.int x), h) := R_ir d_MRm_look_24 rfl
theorem d_MRm_wrong_0 : decode MRm_wrong.2.2.1 0 = .ok (.aload_n 0, 1) := by decide +kernel
theorem d_MRm_wrong_1 : decode MRm_wrong.2.2.1 1 = .ok (.getfield 117, 3) := by decide +kernel
theorem d_MRm_wrong_4 : decode MRm_wrong.2.2.1 4 = .ok (.ifCond .ge 11, 3) := by decide +kernel
theorem d_MRm_wrong_7 : decode MRm_wrong.2.2.1 7 = .ok (.aload_n 0, 1) := by decide +kernel
theorem d_MRm_wrong_8 : decode MRm_wrong.2.2.1 8 = .ok (.aload_n 0, 1) := by decide +kernel
theorem d_MRm_wrong_9 : decode MRm_wrong.2.2.1 9 = .ok (.getfield 120, 3) := by decide +kernel
theorem d_MRm_wrong_12 : decode MRm_wrong.2.2.1 12 = .ok (.putfield 117, 3) := by decide +kernel
theorem d_MRm_wrong_15 : decode MRm_wrong.2.2.1 15 = .ok (.return_, 1) := by decide +kernel
theorem r_MRm_wrong_0 {x : Nat} : Rr X d MRm_wrong 0 [.ref x] st h = Rr X d MRm_wrong 1 [.ref x] (.ref x :: st) h := Rr_nx d_MRm_wrong_0 rfl
theorem r_MRm_wrong_1 {a : Nat} (hq : qI a 10 19 = true) : Rr X d MRm_wrong 1 L (.ref a :: st) (Wd mu la ro et) = Rr X d MRm_wrong 4 L (.int (mu a 19) :: st) (Wd mu la ro et) := R_gfI d_MRm_wrong_1 ff_10_117 hq
theorem r_MRm_wrong_4 {x : Int32} : Rr X d MRm_wrong 4 L (.int x :: st) h = if 0 ≤ x then Rr X d MRm_wrong 15 L st h else Rr X d MRm_wrong 7 L st h := R_if_ge d_MRm_wrong_4 (by decide)
theorem r_MRm_wrong_7 {x : Nat} : Rr X d MRm_wrong 7 [.ref x] st h = Rr X d MRm_wrong 8 [.ref x] (.ref x :: st) h := Rr_nx d_MRm_wrong_7 rfl
theorem r_MRm_wrong_8 {x : Nat} : Rr X d MRm_wrong 8 [.ref x] st h = Rr X d MRm_wrong 9 [.ref x] (.ref x :: st) h := Rr_nx d_MRm_wrong_8 rfl
theorem r_MRm_wrong_9 {a : Nat} (hq : qI a 10 18 = true) : Rr X d MRm_wrong 9 L (.ref a :: st) (Wd mu la ro et) = Rr X d MRm_wrong 12 L (.int (mu a 18) :: st) (Wd mu la ro et) := R_gfI d_MRm_wrong_9 ff_10_120 hq
theorem r_MRm_wrong_12 {a : Nat} {x : Int32} (hq : qI a 10 19 = true) : Rr X d MRm_wrong 12 L (.int x :: .ref a :: st) (Wd mu la ro et) = Rr X d MRm_wrong 15 L st (Wd (up2 mu a 19 x) la ro et) := R_pfI d_MRm_wrong_12 ff_10_117 hq
theorem r_MRm_wrong_15 : Rr X d MRm_wrong 15 L [] h = some (none, h) := Rr_rt d_MRm_wrong_15 rfl
theorem d_MRm_addStep_0 : decode MRm_addStep.2.2.1 0 = .ok (.aload_n 0, 1) := by decide +kernel
theorem d_MRm_addStep_1 : decode MRm_addStep.2.2.1 1 = .ok (.getfield 41, 3) := by decide +kernel
theorem d_MRm_addStep_4 : decode MRm_addStep.2.2.1 4 = .ok (.sipush 520, 3) := by decide +kernel
theorem d_MRm_addStep_7 : decode MRm_addStep.2.2.1 7 = .ok (.aload_n 0, 1) := by decide +kernel
theorem d_MRm_addStep_8 : decode MRm_addStep.2.2.1 8 = .ok (.getfield 197, 3) := by decide +kernel
theorem d_MRm_addStep_11 : decode MRm_addStep.2.2.1 11 = .ok (.iadd, 1) := by decide +kernel
theorem d_MRm_addStep_12 : decode MRm_addStep.2.2.1 12 = .ok (.iload_n 1, 1) := by decide +kernel
theorem d_MRm_addStep_13 : decode MRm_addStep.2.2.1 13 = .ok (.i2b, 1) := by decide +kernel
theorem d_MRm_addStep_14 : decode MRm_addStep.2.2.1 14 = .ok (.bastore, 1) := by decide +kernel
theorem d_MRm_addStep_15 : decode MRm_addStep.2.2.1 15 = .ok (.aload_n 0, 1) := by decide +kernel
theorem d_MRm_addStep_16 : decode MRm_addStep.2.2.1 16 = .ok (.getfield 44, 3) := by decide +kernel
theorem d_MRm_addStep_19 : decode MRm_addStep.2.2.1 19 = .ok (.sipush 520, 3) := by decide +kernel
theorem d_MRm_addStep_22 : decode MRm_addStep.2.2.1 22 = .ok (.aload_n 0, 1) := by decide +kernel
theorem d_MRm_addStep_23 : decode MRm_addStep.2.2.1 23 = .ok (.getfield 197, 3) := by decide +kernel
theorem d_MRm_addStep_26 : decode MRm_addStep.2.2.1 26 = .ok (.iadd, 1) := by decide +kernel
theorem d_MRm_addStep_27 : decode MRm_addStep.2.2.1 27 = .ok (.iload_n 2, 1) := by decide +kernel
theorem d_MRm_addStep_28 : decode MRm_addStep.2.2.1 28 = .ok (.iastore, 1) := by decide +kernel
theorem d_MRm_addStep_29 : decode MRm_addStep.2.2.1 29 = .ok (.aload_n 0, 1) := by decide +kernel
theorem d_MRm_addStep_30 : decode MRm_addStep.2.2.1 30 = .ok (.dup, 1) := by decide +kernel
theorem d_MRm_addStep_31 : decode MRm_addStep.2.2.1 31 = .ok (.getfield 197, 3) := by decide +kernel
theorem d_MRm_addStep_34 : decode MRm_addStep.2.2.1 34 = .ok (.iconst 1, 1) := by decide +kernel
theorem d_MRm_addStep_35 : decode MRm_addStep.2.2.1 35 = .ok (.iadd, 1) := by decide +kernel
theorem d_MRm_addStep_36 : decode MRm_addStep.2.2.1 36 = .ok (.putfield 197, 3) := by decide +kernel
theorem d_MRm_addStep_39 : decode MRm_addStep.2.2.1 39 = .ok (.return_, 1) := by decide +kernel
theorem r_MRm_addStep_0 {l1 l2 : Value} {x : Nat} : Rr X d MRm_addStep 0 [.ref x, l1, l2] st h = Rr X d MRm_addStep 1 [.ref x, l1, l2] (.ref x :: st) h := Rr_nx d_MRm_addStep_0 rfl
theorem ff_10_41 : fF 10 41 = some (10, 22, 1, 1) := rfl
theorem r_MRm_addStep_1 {a : Nat} (hq : (qR a 10 22).isSome = true) : Rr X d MRm_addStep 1 L (.ref a :: st) (Wd mu la ro et) = Rr X d MRm_addStep 4 L (.ref (qRd a 10 22) :: st) (Wd mu la ro et) := R_gfR d_MRm_addStep_1 ff_10_41 hq
theorem r_MRm_addStep_4 : Rr X d MRm_addStep 4 L st h = Rr X d MRm_addStep 7 L (.int (520) :: st) h := Rr_nx d_MRm_addStep_4 rfl
theorem r_MRm_addStep_7 {l1 l2 : Value} {x : Nat} : Rr X d MRm_addStep 7 [.ref x, l1, l2] st h = Rr X d MRm_addStep 8 [.ref x, l1, l2] (.ref x :: st) h := Rr_nx d_MRm_addStep_7 rfl
theorem ff_10_197 : fF 10 197 = some (10, 21, 0, 0) := rfl
theorem r_MRm_addStep_8 {a : Nat} (hq : qI a 10 21 = true) : Rr X d MRm_addStep 8 L (.ref a :: st) (Wd mu la ro et) = Rr X d MRm_addStep 11 L (.int (mu a 21) :: st) (Wd mu la ro et) := R_gfI d_MRm_addStep_8 ff_10_197 hq
theorem r_MRm_addStep_11 {x y : Int32} : Rr X d MRm_addStep 11 L (.int y :: .int x :: st) h = Rr X d MRm_addStep 12 L (.int (x + y) :: st) h := Rr_nx d_MRm_addStep_11 rfl
theorem r_MRm_addStep_12 {l0 l2 : Value} {x : Int32} : Rr X d MRm_addStep 12 [l0, .int x, l2] st h = Rr X d MRm_addStep 13 [l0, .int x, l2] (.int x :: st) h := Rr_nx d_MRm_addStep_12 rfl
theorem r_MRm_addStep_13 {x : Int32} : Rr X d MRm_addStep 13 L (.int x :: st) h = Rr X d MRm_addStep 14 L (.int (x.toInt8.toInt32) :: st) h := Rr_nx d_MRm_addStep_13 rfl
theorem r_MRm_addStep_14 {a : Nat} {j x : Int32} (hq : (qA a 2).isSome = true) : Rr X d MRm_addStep 14 L (.int x :: .int j :: .ref a :: st) (Wd mu la ro et) = if j < 0 ∨ qAd a 2 ≤ j.toNatClampNeg then none else Rr X d MRm_addStep 15 L st (Wd (up2 mu a j.toNatClampNeg (x.toInt8.toInt32)) la ro et) := R_basW d_MRm_addStep_14 hq
theorem r_MRm_addStep_15 {l1 l2 : Value} {x : Nat} : Rr X d MRm_addStep 15 [.ref x, l1, l2] st h = Rr X d MRm_addStep 16 [.ref x, l1, l2] (.ref x :: st) h := Rr_nx d_MRm_addStep_15 rfl
theorem ff_10_44 : fF 10 44 = some (10, 23, 1, 1) := rfl
theorem r_MRm_addStep_16 {a : Nat} (hq : (qR a 10 23).isSome = true) : Rr X d MRm_addStep 16 L (.ref a :: st) (Wd mu la ro et) = Rr X d MRm_addStep 19 L (.ref (qRd a 10 23) :: st) (Wd mu la ro et) := R_gfR d_MRm_addStep_16 ff_10_44 hq
theorem r_MRm_addStep_19 : Rr X d MRm_addStep 19 L st h = Rr X d MRm_addStep 22 L (.int (520) :: st) h := Rr_nx d_MRm_addStep_19 rfl
theorem r_MRm_addStep_22 {l1 l2 : Value} {x : Nat} : Rr X d MRm_addStep 22 [.ref x, l1, l2] st h = Rr X d MRm_addStep 23 [.ref x, l1, l2] (.ref x :: st) h := Rr_nx d_MRm_addStep_22 rfl
theorem r_MRm_addStep_23 {a : Nat} (hq : qI a 10 21 = true) : Rr X d MRm_addStep 23 L (.ref a :: st) (Wd mu la ro et) = Rr X d MRm_addStep 26 L (.int (mu a 21) :: st) (Wd mu la ro et) := R_gfI d_MRm_addStep_23 ff_10_197 hq
theorem r_MRm_addStep_26 {x y : Int32} : Rr X d MRm_addStep 26 L (.int y :: .int x :: st) h = Rr X d MRm_addStep 27 L (.int (x + y) :: st) h := Rr_nx d_MRm_addStep_26 rfl
theorem r_MRm_addStep_27 {l0 l1 : Value} {x : Int32} : Rr X d MRm_addStep 27 [l0, l1, .int x] st h = Rr X d MRm_addStep 28 [l0, l1, .int x] (.int x :: st) h := Rr_nx d_MRm_addStep_27 rfl
theorem r_MRm_addStep_28 {a : Nat} {j x : Int32} (hq : (qA a 0).isSome = true) : Rr X d MRm_addStep 28 L (.int x :: .int j :: .ref a :: st) (Wd mu la ro et) = if j < 0 ∨ qAd a 0 ≤ j.toNatClampNeg then none else Rr X d MRm_addStep 29 L st (Wd (up2 mu a j.toNatClampNeg (x)) la ro et) := R_iasW d_MRm_addStep_28 hq
theorem r_MRm_addStep_29 {l1 l2 : Value} {x : Nat} : Rr X d MRm_addStep 29 [.ref x, l1, l2] st h = Rr X d MRm_addStep 30 [.ref x, l1, l2] (.ref x :: st) h := Rr_nx d_MRm_addStep_29 rfl
theorem r_MRm_addStep_30 {x : Nat} : Rr X d MRm_addStep 30 L (.ref x :: st) h = Rr X d MRm_addStep 31 L (.ref x :: .ref x :: st) h := Rr_nx d_MRm_addStep_30 rfl
theorem r_MRm_addStep_30i {x : Int32} : Rr X d MRm_addStep 30 L (.int x :: st) h = Rr X d MRm_addStep 31 L (.int x :: .int x :: st) h := Rr_nx d_MRm_addStep_30 rfl
theorem r_MRm_addStep_31 {a : Nat} (hq : qI a 10 21 = true) : Rr X d MRm_addStep 31 L (.ref a :: st) (Wd mu la ro et) = Rr X d MRm_addStep 34 L (.int (mu a 21) :: st) (Wd mu la ro et) := R_gfI d_MRm_addStep_31 ff_10_197 hq
theorem r_MRm_addStep_34 : Rr X d MRm_addStep 34 L st h = Rr X d MRm_addStep 35 L (.int (1) :: st) h := Rr_nx d_MRm_addStep_34 rfl
theorem r_MRm_addStep_35 {x y : Int32} : Rr X d MRm_addStep 35 L (.int y :: .int x :: st) h = Rr X d MRm_addStep 36 L (.int (x + y) :: st) h := Rr_nx d_MRm_addStep_35 rfl
theorem r_MRm_addStep_36 {a : Nat} {x : Int32} (hq : qI a 10 21 = true) : Rr X d MRm_addStep 36 L (.int x :: .ref a :: st) (Wd mu la ro et) = Rr X d MRm_addStep 39 L st (Wd (up2 mu a 21 x) la ro et) := R_pfI d_MRm_addStep_36 ff_10_197 hq
theorem r_MRm_addStep_39 : Rr X d MRm_addStep 39 L [] h = some (none, h) := Rr_rt d_MRm_addStep_39 rfl
theorem d_MRm_nameOf_0 : decode MRm_nameOf.2.2.1 0 = .ok (.iload_n 0, 1) := by decide +kernel
theorem d_MRm_nameOf_1 : decode MRm_nameOf.2.2.1 1 = .ok (.tableswitch 87 105 119 #[85, 87, 87, 87, 87, 87, 87, 81, 83, 87, 79, 87, 87, 77, 75], 75) := by decide +kernel
theorem d_MRm_nameOf_76 : decode MRm_nameOf.2.2.1 76 = .ok (.iconst 0, 1) := by decide +kernel
theorem d_MRm_nameOf_77 : decode MRm_nameOf.2.2.1 77 = .ok (.ireturn, 1) := by decide +kernel
theorem d_MRm_nameOf_78 : decode MRm_nameOf.2.2.1 78 = .ok (.iconst 1, 1) := by decide +kernel
theorem d_MRm_nameOf_79 : decode MRm_nameOf.2.2.1 79 = .ok (.ireturn, 1) := by decide +kernel
theorem d_MRm_nameOf_80 : decode MRm_nameOf.2.2.1 80 = .ok (.iconst 2, 1) := by decide +kernel
theorem d_MRm_nameOf_81 : decode MRm_nameOf.2.2.1 81 = .ok (.ireturn, 1) := by decide +kernel
theorem d_MRm_nameOf_82 : decode MRm_nameOf.2.2.1 82 = .ok (.iconst 3, 1) := by decide +kernel
theorem d_MRm_nameOf_83 : decode MRm_nameOf.2.2.1 83 = .ok (.ireturn, 1) := by decide +kernel
theorem d_MRm_nameOf_84 : decode MRm_nameOf.2.2.1 84 = .ok (.iconst 4, 1) := by decide +kernel
theorem d_MRm_nameOf_85 : decode MRm_nameOf.2.2.1 85 = .ok (.ireturn, 1) := by decide +kernel
theorem d_MRm_nameOf_86 : decode MRm_nameOf.2.2.1 86 = .ok (.iconst 5, 1) := by decide +kernel
theorem d_MRm_nameOf_87 : decode MRm_nameOf.2.2.1 87 = .ok (.ireturn, 1) := by decide +kernel
theorem d_MRm_nameOf_88 : decode MRm_nameOf.2.2.1 88 = .ok (.iconst (-1), 1) := by decide +kernel
theorem d_MRm_nameOf_89 : decode MRm_nameOf.2.2.1 89 = .ok (.ireturn, 1) := by decide +kernel
theorem r_MRm_nameOf_0 {x : Int32} : Rr X d MRm_nameOf 0 [.int x] st h = Rr X d MRm_nameOf 1 [.int x] (.int x :: st) h := Rr_nx d_MRm_nameOf_0 rfl
theorem r_MRm_nameOf_1_105 : Rr X d MRm_nameOf 1 L (.int (105) :: st) h = Rr X d MRm_nameOf 86 L st h := R_tab (off := 85) d_MRm_nameOf_1 (by decide) (by decide) (by decide)
theorem r_MRm_nameOf_1_106 : Rr X d MRm_nameOf 1 L (.int (106) :: st) h = Rr X d MRm_nameOf 88 L st h := R_tab (off := 87) d_MRm_nameOf_1 (by decide) (by decide) (by decide)
theorem r_MRm_nameOf_1_107 : Rr X d MRm_nameOf 1 L (.int (107) :: st) h = Rr X d MRm_nameOf 88 L st h := R_tab (off := 87) d_MRm_nameOf_1 (by decide) (by decide) (by decide)
theorem r_MRm_nameOf_1_108 : Rr X d MRm_nameOf 1 L (.int (108) :: st) h = Rr X d MRm_nameOf 88 L st h := R_tab (off := 87) d_MRm_nameOf_1 (by decide) (by decide) (by decide)
theorem r_MRm_nameOf_1_109 : Rr X d MRm_nameOf 1 L (.int (109) :: st) h = Rr X d MRm_nameOf 88 L st h := R_tab (off := 87) d_MRm_nameOf_1 (by decide) (by decide) (by decide)
theorem r_MRm_nameOf_1_110 : Rr X d MRm_nameOf 1 L (.int (110) :: st) h = Rr X d MRm_nameOf 88 L st h := R_tab (off := 87) d_MRm_nameOf_1 (by decide) (by decide) (by decide)
theorem r_MRm_nameOf_1_111 : Rr X d MRm_nameOf 1 L (.int (111) :: st) h = Rr X d MRm_nameOf 88 L st h := R_tab (off := 87) d_MRm_nameOf_1 (by decide) (by decide) (by decide)
theorem r_MRm_nameOf_1_112 : Rr X d MRm_nameOf 1 L (.int (112) :: st) h = Rr X d MRm_nameOf 82 L st h := R_tab (off := 81) d_MRm_nameOf_1 (by decide) (by decide) (by decide)
theorem r_MRm_nameOf_1_113 : Rr X d MRm_nameOf 1 L (.int (113) :: st) h = Rr X d MRm_nameOf 84 L st h := R_tab (off := 83) d_MRm_nameOf_1 (by decide) (by decide) (by decide)
theorem r_MRm_nameOf_1_114 : Rr X d MRm_nameOf 1 L (.int (114) :: st) h = Rr X d MRm_nameOf 88 L st h := R_tab (off := 87) d_MRm_nameOf_1 (by decide) (by decide) (by decide)
theorem r_MRm_nameOf_1_115 : Rr X d MRm_nameOf 1 L (.int (115) :: st) h = Rr X d MRm_nameOf 80 L st h := R_tab (off := 79) d_MRm_nameOf_1 (by decide) (by decide) (by decide)
theorem r_MRm_nameOf_1_116 : Rr X d MRm_nameOf 1 L (.int (116) :: st) h = Rr X d MRm_nameOf 88 L st h := R_tab (off := 87) d_MRm_nameOf_1 (by decide) (by decide) (by decide)
theorem r_MRm_nameOf_1_117 : Rr X d MRm_nameOf 1 L (.int (117) :: st) h = Rr X d MRm_nameOf 88 L st h := R_tab (off := 87) d_MRm_nameOf_1 (by decide) (by decide) (by decide)
theorem r_MRm_nameOf_1_118 : Rr X d MRm_nameOf 1 L (.int (118) :: st) h = Rr X d MRm_nameOf 78 L st h := R_tab (off := 77) d_MRm_nameOf_1 (by decide) (by decide) (by decide)
theorem r_MRm_nameOf_1_119 : Rr X d MRm_nameOf 1 L (.int (119) :: st) h = Rr X d MRm_nameOf 76 L st h := R_tab (off := 75) d_MRm_nameOf_1 (by decide) (by decide) (by decide)
theorem r_MRm_nameOf_1D {x : Int32} (hx : x.toInt < 105 ∨ 119 < x.toInt) : Rr X d MRm_nameOf 1 L (.int x :: st) h = Rr X d MRm_nameOf 88 L st h := R_tabD d_MRm_nameOf_1 hx (by decide)
theorem r_MRm_nameOf_76 : Rr X d MRm_nameOf 76 L st h = Rr X d MRm_nameOf 77 L (.int (0) :: st) h := Rr_nx d_MRm_nameOf_76 rfl
theorem r_MRm_nameOf_77 {x : Int32} : Rr X d MRm_nameOf 77 L [.int x] h = some (some (.int x), h) := R_ir d_MRm_nameOf_77 rfl
theorem r_MRm_nameOf_78 : Rr X d MRm_nameOf 78 L st h = Rr X d MRm_nameOf 79 L (.int (1) :: st) h := Rr_nx d_MRm_nameOf_78 rfl
theorem r_MRm_nameOf_79 {x : Int32} : Rr X d MRm_nameOf 79 L [.int x] h = some (some (.int x), h) := R_ir d_MRm_nameOf_79 rfl
theorem r_MRm_nameOf_80 : Rr X d MRm_nameOf 80 L st h = Rr X d MRm_nameOf 81 L (.int (2) :: st) h := Rr_nx d_MRm_nameOf_80 rfl
theorem r_MRm_nameOf_81 {x : Int32} : Rr X d MRm_nameOf 81 L [.int x] h = some (some (.int x), h) := R_ir d_MRm_nameOf_81 rfl
theorem r_MRm_nameOf_82 : Rr X d MRm_nameOf 82 L st h = Rr X d MRm_nameOf 83 L (.int (3) :: st) h := Rr_nx d_MRm_nameOf_82 rfl
theorem r_MRm_nameOf_83 {x : Int32} : Rr X d MRm_nameOf 83 L [.int x] h = some (some (.int x), h) := R_ir d_MRm_nameOf_83 rfl
theorem r_MRm_nameOf_84 : Rr X d MRm_nameOf 84 L st h = Rr X d MRm_nameOf 85 L (.int (4) :: st) h := Rr_nx d_MRm_nameOf_84 rfl
theorem r_MRm_nameOf_85 {x : Int32} : Rr X d MRm_nameOf 85 L [.int x] h = some (some (.int x), h) := R_ir d_MRm_nameOf_85 rfl
theorem r_MRm_nameOf_86 : Rr X d MRm_nameOf 86 L st h = Rr X d MRm_nameOf 87 L (.int (5) :: st) h := Rr_nx d_MRm_nameOf_86 rfl
theorem r_MRm_nameOf_87 {x : Int32} : Rr X d MRm_nameOf 87 L [.int x] h = some (some (.int x), h) := R_ir d_MRm_nameOf_87 rfl
theorem r_MRm_nameOf_88 : Rr X d MRm_nameOf 88 L st h = Rr X d MRm_nameOf 89 L (.int (-1) :: st) h := Rr_nx d_MRm_nameOf_88 rfl
theorem r_MRm_nameOf_89 {x : Int32} : Rr X d MRm_nameOf 89 L [.int x] h = some (some (.int x), h) := R_ir d_MRm_nameOf_89 rfl
theorem d_MRm_opens_0 : decode MRm_opens.2.2.1 0 = .ok (.aload_n 0, 1) := by decide +kernel
theorem d_MRm_opens_1 : decode MRm_opens.2.2.1 1 = .ok (.getfield 200, 3) := by decide +kernel
theorem d_MRm_opens_4 : decode MRm_opens.2.2.1 4 = .ok (.bipush 6, 2) := by decide +kernel
theorem d_MRm_opens_6 : decode MRm_opens.2.2.1 6 = .ok (.if_icmp .ne 9, 3) := by decide +kernel
theorem d_MRm_opens_9 : decode MRm_opens.2.2.1 9 = .ok (.aload_n 0, 1) := by decide +kernel
theorem d_MRm_opens_10 : decode MRm_opens.2.2.1 10 = .ok (.invokevirtual 203, 3) := by decide +kernel
theorem d_MRm_opens_13 : decode MRm_opens.2.2.1 13 = .ok (.iconst 0, 1) := by decide +kernel
theorem d_MRm_opens_14 : decode MRm_opens.2.2.1 14 = .ok (.ireturn, 1) := by decide +kernel
theorem d_MRm_opens_15 : decode MRm_opens.2.2.1 15 = .ok (.aload_n 0, 1) := by decide +kernel
theorem d_MRm_opens_16 : decode MRm_opens.2.2.1 16 = .ok (.dup, 1) := by decide +kernel
theorem d_MRm_opens_17 : decode MRm_opens.2.2.1 17 = .ok (.getfield 200, 3) := by decide +kernel
theorem d_MRm_opens_20 : decode MRm_opens.2.2.1 20 = .ok (.iconst 1, 1) := by decide +kernel
theorem d_MRm_opens_21 : decode MRm_opens.2.2.1 21 = .ok (.iadd, 1) := by decide +kernel
theorem d_MRm_opens_22 : decode MRm_opens.2.2.1 22 = .ok (.putfield 200, 3) := by decide +kernel
theorem d_MRm_opens_25 : decode MRm_opens.2.2.1 25 = .ok (.aload_n 0, 1) := by decide +kernel
theorem d_MRm_opens_26 : decode MRm_opens.2.2.1 26 = .ok (.dup, 1) := by decide +kernel
theorem d_MRm_opens_27 : decode MRm_opens.2.2.1 27 = .ok (.getfield 120, 3) := by decide +kernel
theorem d_MRm_opens_30 : decode MRm_opens.2.2.1 30 = .ok (.iconst 1, 1) := by decide +kernel
theorem d_MRm_opens_31 : decode MRm_opens.2.2.1 31 = .ok (.iadd, 1) := by decide +kernel
theorem d_MRm_opens_32 : decode MRm_opens.2.2.1 32 = .ok (.putfield 120, 3) := by decide +kernel
theorem d_MRm_opens_35 : decode MRm_opens.2.2.1 35 = .ok (.iconst 1, 1) := by decide +kernel
theorem d_MRm_opens_36 : decode MRm_opens.2.2.1 36 = .ok (.ireturn, 1) := by decide +kernel
theorem r_MRm_opens_0 {x : Nat} : Rr X d MRm_opens 0 [.ref x] st h = Rr X d MRm_opens 1 [.ref x] (.ref x :: st) h := Rr_nx d_MRm_opens_0 rfl
theorem ff_10_200 : fF 10 200 = some (10, 20, 0, 0) := rfl
theorem r_MRm_opens_1 {a : Nat} (hq : qI a 10 20 = true) : Rr X d MRm_opens 1 L (.ref a :: st) (Wd mu la ro et) = Rr X d MRm_opens 4 L (.int (mu a 20) :: st) (Wd mu la ro et) := R_gfI d_MRm_opens_1 ff_10_200 hq
theorem r_MRm_opens_4 : Rr X d MRm_opens 4 L st h = Rr X d MRm_opens 6 L (.int (6) :: st) h := Rr_nx d_MRm_opens_4 rfl
theorem r_MRm_opens_6 {x y : Int32} : Rr X d MRm_opens 6 L (.int y :: .int x :: st) h = if ¬ x = y then Rr X d MRm_opens 15 L st h else Rr X d MRm_opens 9 L st h := R_ic_ne d_MRm_opens_6 (by decide)
theorem r_MRm_opens_9 {x : Nat} : Rr X d MRm_opens 9 [.ref x] st h = Rr X d MRm_opens 10 [.ref x] (.ref x :: st) h := Rr_nx d_MRm_opens_9 rfl
theorem fc_10_203 : fC 10 203 = some (0, 10, 0, MRm_wrong) := rfl
theorem r_MRm_opens_10 {a : Nat} (hO : qO a 10 = true) (hc : ckS st = true) : Rr X (d + 1) MRm_opens 10 L (.ref a :: st) (Wd mu la ro et) = (Rr X d MRm_wrong 0 [.ref a] [] (Wd mu la ro et)).bind fun q => Rr X (d + 1) MRm_opens 13 L (psh q.1 st) q.2 := R_iv (av := []) d_MRm_opens_10 fc_10_203 hO (ckS_le hc) rfl (Nat.le_of_ble_eq_true rfl) (Nat.le_of_ble_eq_true rfl)
theorem r_MRm_opens_13 : Rr X d MRm_opens 13 L st h = Rr X d MRm_opens 14 L (.int (0) :: st) h := Rr_nx d_MRm_opens_13 rfl
theorem r_MRm_opens_14 {x : Int32} : Rr X d MRm_opens 14 L [.int x] h = if x = 0 ∨ x = 1 then some (some (.int x), h) else none := R_zr d_MRm_opens_14 rfl
theorem r_MRm_opens_15 {x : Nat} : Rr X d MRm_opens 15 [.ref x] st h = Rr X d MRm_opens 16 [.ref x] (.ref x :: st) h := Rr_nx d_MRm_opens_15 rfl
theorem r_MRm_opens_16 {x : Nat} : Rr X d MRm_opens 16 L (.ref x :: st) h = Rr X d MRm_opens 17 L (.ref x :: .ref x :: st) h := Rr_nx d_MRm_opens_16 rfl
theorem r_MRm_opens_16i {x : Int32} : Rr X d MRm_opens 16 L (.int x :: st) h = Rr X d MRm_opens 17 L (.int x :: .int x :: st) h := Rr_nx d_MRm_opens_16 rfl
theorem r_MRm_opens_17 {a : Nat} (hq : qI a 10 20 = true) : Rr X d MRm_opens 17 L (.ref a :: st) (Wd mu la ro et) = Rr X d MRm_opens 20 L (.int (mu a 20) :: st) (Wd mu la ro et) := R_gfI d_MRm_opens_17 ff_10_200 hq
theorem r_MRm_opens_20 : Rr X d MRm_opens 20 L st h = Rr X d MRm_opens 21 L (.int (1) :: st) h := Rr_nx d_MRm_opens_20 rfl
theorem r_MRm_opens_21 {x y : Int32} : Rr X d MRm_opens 21 L (.int y :: .int x :: st) h = Rr X d MRm_opens 22 L (.int (x + y) :: st) h := Rr_nx d_MRm_opens_21 rfl
theorem r_MRm_opens_22 {a : Nat} {x : Int32} (hq : qI a 10 20 = true) : Rr X d MRm_opens 22 L (.int x :: .ref a :: st) (Wd mu la ro et) = Rr X d MRm_opens 25 L st (Wd (up2 mu a 20 x) la ro et) := R_pfI d_MRm_opens_22 ff_10_200 hq
theorem r_MRm_opens_25 {x : Nat} : Rr X d MRm_opens 25 [.ref x] st h = Rr X d MRm_opens 26 [.ref x] (.ref x :: st) h := Rr_nx d_MRm_opens_25 rfl
theorem r_MRm_opens_26 {x : Nat} : Rr X d MRm_opens 26 L (.ref x :: st) h = Rr X d MRm_opens 27 L (.ref x :: .ref x :: st) h := Rr_nx d_MRm_opens_26 rfl
theorem r_MRm_opens_26i {x : Int32} : Rr X d MRm_opens 26 L (.int x :: st) h = Rr X d MRm_opens 27 L (.int x :: .int x :: st) h := Rr_nx d_MRm_opens_26 rfl
theorem r_MRm_opens_27 {a : Nat} (hq : qI a 10 18 = true) : Rr X d MRm_opens 27 L (.ref a :: st) (Wd mu la ro et) = Rr X d MRm_opens 30 L (.int (mu a 18) :: st) (Wd mu la ro et) := R_gfI d_MRm_opens_27 ff_10_120 hq
theorem r_MRm_opens_30 : Rr X d MRm_opens 30 L st h = Rr X d MRm_opens 31 L (.int (1) :: st) h := Rr_nx d_MRm_opens_30 rfl
theorem r_MRm_opens_31 {x y : Int32} : Rr X d MRm_opens 31 L (.int y :: .int x :: st) h = Rr X d MRm_opens 32 L (.int (x + y) :: st) h := Rr_nx d_MRm_opens_31 rfl
theorem r_MRm_opens_32 {a : Nat} {x : Int32} (hq : qI a 10 18 = true) : Rr X d MRm_opens 32 L (.int x :: .ref a :: st) (Wd mu la ro et) = Rr X d MRm_opens 35 L st (Wd (up2 mu a 18 x) la ro et) := R_pfI d_MRm_opens_32 ff_10_120 hq
theorem r_MRm_opens_35 : Rr X d MRm_opens 35 L st h = Rr X d MRm_opens 36 L (.int (1) :: st) h := Rr_nx d_MRm_opens_35 rfl
theorem r_MRm_opens_36 {x : Int32} : Rr X d MRm_opens 36 L [.int x] h = if x = 0 ∨ x = 1 then some (some (.int x), h) else none := R_zr d_MRm_opens_36 rfl
theorem d_MRm_figure_0 : decode MRm_figure.2.2.1 0 = .ok (.iconst 0, 1) := by decide +kernel
theorem d_MRm_figure_1 : decode MRm_figure.2.2.1 1 = .ok (.istore_n 1, 1) := by decide +kernel
theorem d_MRm_figure_2 : decode MRm_figure.2.2.1 2 = .ok (.iconst 0, 1) := by decide +kernel
theorem d_MRm_figure_3 : decode MRm_figure.2.2.1 3 = .ok (.istore_n 2, 1) := by decide +kernel
theorem d_MRm_figure_4 : decode MRm_figure.2.2.1 4 = .ok (.iload_n 2, 1) := by decide +kernel
theorem d_MRm_figure_5 : decode MRm_figure.2.2.1 5 = .ok (.iconst 4, 1) := by decide +kernel
theorem d_MRm_figure_6 : decode MRm_figure.2.2.1 6 = .ok (.if_icmp .ge 46, 3) := by decide +kernel
theorem d_MRm_figure_9 : decode MRm_figure.2.2.1 9 = .ok (.aload_n 0, 1) := by decide +kernel
theorem d_MRm_figure_10 : decode MRm_figure.2.2.1 10 = .ok (.invokevirtual 206, 3) := by decide +kernel
theorem d_MRm_figure_13 : decode MRm_figure.2.2.1 13 = .ok (.bipush 48, 2) := by decide +kernel
theorem d_MRm_figure_15 : decode MRm_figure.2.2.1 15 = .ok (.bipush 57, 2) := by decide +kernel
theorem d_MRm_figure_17 : decode MRm_figure.2.2.1 17 = .ok (.invokestatic 107, 3) := by decide +kernel
theorem d_MRm_figure_20 : decode MRm_figure.2.2.1 20 = .ok (.ifCond .eq 32, 3) := by decide +kernel
theorem d_MRm_figure_23 : decode MRm_figure.2.2.1 23 = .ok (.bipush 10, 2) := by decide +kernel
theorem d_MRm_figure_25 : decode MRm_figure.2.2.1 25 = .ok (.iload_n 1, 1) := by decide +kernel
theorem d_MRm_figure_26 : decode MRm_figure.2.2.1 26 = .ok (.imul, 1) := by decide +kernel
theorem d_MRm_figure_27 : decode MRm_figure.2.2.1 27 = .ok (.aload_n 0, 1) := by decide +kernel
theorem d_MRm_figure_28 : decode MRm_figure.2.2.1 28 = .ok (.invokevirtual 206, 3) := by decide +kernel
theorem d_MRm_figure_31 : decode MRm_figure.2.2.1 31 = .ok (.iadd, 1) := by decide +kernel
theorem d_MRm_figure_32 : decode MRm_figure.2.2.1 32 = .ok (.bipush 48, 2) := by decide +kernel
theorem d_MRm_figure_34 : decode MRm_figure.2.2.1 34 = .ok (.isub, 1) := by decide +kernel
theorem d_MRm_figure_35 : decode MRm_figure.2.2.1 35 = .ok (.istore_n 1, 1) := by decide +kernel
theorem d_MRm_figure_36 : decode MRm_figure.2.2.1 36 = .ok (.iinc 2 1, 3) := by decide +kernel
theorem d_MRm_figure_39 : decode MRm_figure.2.2.1 39 = .ok (.aload_n 0, 1) := by decide +kernel
theorem d_MRm_figure_40 : decode MRm_figure.2.2.1 40 = .ok (.dup, 1) := by decide +kernel
theorem d_MRm_figure_41 : decode MRm_figure.2.2.1 41 = .ok (.getfield 120, 3) := by decide +kernel
theorem d_MRm_figure_44 : decode MRm_figure.2.2.1 44 = .ok (.iconst 1, 1) := by decide +kernel
theorem d_MRm_figure_45 : decode MRm_figure.2.2.1 45 = .ok (.iadd, 1) := by decide +kernel
theorem d_MRm_figure_46 : decode MRm_figure.2.2.1 46 = .ok (.putfield 120, 3) := by decide +kernel
theorem d_MRm_figure_49 : decode MRm_figure.2.2.1 49 = .ok (.goto (-45), 3) := by decide +kernel
theorem d_MRm_figure_52 : decode MRm_figure.2.2.1 52 = .ok (.iload_n 2, 1) := by decide +kernel
theorem d_MRm_figure_53 : decode MRm_figure.2.2.1 53 = .ok (.ifCond .eq 17, 3) := by decide +kernel
theorem d_MRm_figure_56 : decode MRm_figure.2.2.1 56 = .ok (.aload_n 0, 1) := by decide +kernel
theorem d_MRm_figure_57 : decode MRm_figure.2.2.1 57 = .ok (.invokevirtual 206, 3) := by decide +kernel
theorem d_MRm_figure_60 : decode MRm_figure.2.2.1 60 = .ok (.bipush 48, 2) := by decide +kernel
theorem d_MRm_figure_62 : decode MRm_figure.2.2.1 62 = .ok (.bipush 57, 2) := by decide +kernel
theorem d_MRm_figure_64 : decode MRm_figure.2.2.1 64 = .ok (.invokestatic 107, 3) := by decide +kernel
theorem d_MRm_figure_67 : decode MRm_figure.2.2.1 67 = .ok (.ifCond .eq 7, 3) := by decide +kernel
theorem d_MRm_figure_70 : decode MRm_figure.2.2.1 70 = .ok (.aload_n 0, 1) := by decide +kernel
theorem d_MRm_figure_71 : decode MRm_figure.2.2.1 71 = .ok (.invokevirtual 203, 3) := by decide +kernel
theorem d_MRm_figure_74 : decode MRm_figure.2.2.1 74 = .ok (.aload_n 0, 1) := by decide +kernel
theorem d_MRm_figure_75 : decode MRm_figure.2.2.1 75 = .ok (.iconst 1, 1) := by decide +kernel
theorem d_MRm_figure_76 : decode MRm_figure.2.2.1 76 = .ok (.iload_n 1, 1) := by decide +kernel
theorem d_MRm_figure_77 : decode MRm_figure.2.2.1 77 = .ok (.invokevirtual 209, 3) := by decide +kernel
theorem d_MRm_figure_80 : decode MRm_figure.2.2.1 80 = .ok (.return_, 1) := by decide +kernel
theorem r_MRm_figure_0 : Rr X d MRm_figure 0 L st h = Rr X d MRm_figure 1 L (.int (0) :: st) h := Rr_nx d_MRm_figure_0 rfl
theorem r_MRm_figure_1 {l0 l1 l2 : Value} {x : Int32} : Rr X d MRm_figure 1 [l0, l1, l2] (.int x :: st) h = Rr X d MRm_figure 2 (sL [l0, l1, l2] 1 (.int x)) st h := Rr_nx d_MRm_figure_1 rfl
theorem r_MRm_figure_2 : Rr X d MRm_figure 2 L st h = Rr X d MRm_figure 3 L (.int (0) :: st) h := Rr_nx d_MRm_figure_2 rfl
theorem r_MRm_figure_3 {l0 l1 l2 : Value} {x : Int32} : Rr X d MRm_figure 3 [l0, l1, l2] (.int x :: st) h = Rr X d MRm_figure 4 (sL [l0, l1, l2] 2 (.int x)) st h := Rr_nx d_MRm_figure_3 rfl
theorem r_MRm_figure_4 {l0 l1 : Value} {x : Int32} : Rr X d MRm_figure 4 [l0, l1, .int x] st h = Rr X d MRm_figure 5 [l0, l1, .int x] (.int x :: st) h := Rr_nx d_MRm_figure_4 rfl
theorem r_MRm_figure_5 : Rr X d MRm_figure 5 L st h = Rr X d MRm_figure 6 L (.int (4) :: st) h := Rr_nx d_MRm_figure_5 rfl
theorem r_MRm_figure_6 {x y : Int32} : Rr X d MRm_figure 6 L (.int y :: .int x :: st) h = if y ≤ x then Rr X d MRm_figure 52 L st h else Rr X d MRm_figure 9 L st h := R_ic_ge d_MRm_figure_6 (by decide)
theorem r_MRm_figure_9 {l1 l2 : Value} {x : Nat} : Rr X d MRm_figure 9 [.ref x, l1, l2] st h = Rr X d MRm_figure 10 [.ref x, l1, l2] (.ref x :: st) h := Rr_nx d_MRm_figure_9 rfl
theorem fc_10_206 : fC 10 206 = some (0, 10, 0, MRm_look) := rfl
theorem r_MRm_figure_10 {a : Nat} (hO : qO a 10 = true) (hc : ckS st = true) : Rr X (d + 1) MRm_figure 10 L (.ref a :: st) (Wd mu la ro et) = (Rr X d MRm_look 0 [.ref a] [] (Wd mu la ro et)).bind fun q => Rr X (d + 1) MRm_figure 13 L (psh q.1 st) q.2 := R_iv (av := []) d_MRm_figure_10 fc_10_206 hO (ckS_le hc) rfl (Nat.le_of_ble_eq_true rfl) (Nat.le_of_ble_eq_true rfl)
theorem r_MRm_figure_13 : Rr X d MRm_figure 13 L st h = Rr X d MRm_figure 15 L (.int (48) :: st) h := Rr_nx d_MRm_figure_13 rfl
theorem r_MRm_figure_15 : Rr X d MRm_figure 15 L st h = Rr X d MRm_figure 17 L (.int (57) :: st) h := Rr_nx d_MRm_figure_15 rfl
theorem r_MRm_figure_17 {y0 : Int32} {y1 : Int32} {y2 : Int32} (hc : ckS st = true) : Rr X (d + 1) MRm_figure 17 L (.int y2 :: .int y1 :: .int y0 :: st) h = (Rr X d MRm_in 0 [.int y0, .int y1, .int y2] [] h).bind fun q => Rr X (d + 1) MRm_figure 20 L (psh q.1 st) q.2 := R_is (av := [.int y2, .int y1, .int y0]) d_MRm_figure_17 (Or.inl fc_10_107) (ckS_le hc) rfl (Nat.le_of_ble_eq_true rfl) (Nat.le_of_ble_eq_true rfl)
theorem r_MRm_figure_20 {x : Int32} : Rr X d MRm_figure 20 L (.int x :: st) h = if x = 0 then Rr X d MRm_figure 52 L st h else Rr X d MRm_figure 23 L st h := R_if_eq d_MRm_figure_20 (by decide)
theorem r_MRm_figure_23 : Rr X d MRm_figure 23 L st h = Rr X d MRm_figure 25 L (.int (10) :: st) h := Rr_nx d_MRm_figure_23 rfl
theorem r_MRm_figure_25 {l0 l2 : Value} {x : Int32} : Rr X d MRm_figure 25 [l0, .int x, l2] st h = Rr X d MRm_figure 26 [l0, .int x, l2] (.int x :: st) h := Rr_nx d_MRm_figure_25 rfl
theorem r_MRm_figure_26 {x y : Int32} : Rr X d MRm_figure 26 L (.int y :: .int x :: st) h = Rr X d MRm_figure 27 L (.int (x * y) :: st) h := Rr_nx d_MRm_figure_26 rfl
theorem r_MRm_figure_27 {l1 l2 : Value} {x : Nat} : Rr X d MRm_figure 27 [.ref x, l1, l2] st h = Rr X d MRm_figure 28 [.ref x, l1, l2] (.ref x :: st) h := Rr_nx d_MRm_figure_27 rfl
theorem r_MRm_figure_28 {a : Nat} (hO : qO a 10 = true) (hc : ckS st = true) : Rr X (d + 1) MRm_figure 28 L (.ref a :: st) (Wd mu la ro et) = (Rr X d MRm_look 0 [.ref a] [] (Wd mu la ro et)).bind fun q => Rr X (d + 1) MRm_figure 31 L (psh q.1 st) q.2 := R_iv (av := []) d_MRm_figure_28 fc_10_206 hO (ckS_le hc) rfl (Nat.le_of_ble_eq_true rfl) (Nat.le_of_ble_eq_true rfl)
theorem r_MRm_figure_31 {x y : Int32} : Rr X d MRm_figure 31 L (.int y :: .int x :: st) h = Rr X d MRm_figure 32 L (.int (x + y) :: st) h := Rr_nx d_MRm_figure_31 rfl
theorem r_MRm_figure_32 : Rr X d MRm_figure 32 L st h = Rr X d MRm_figure 34 L (.int (48) :: st) h := Rr_nx d_MRm_figure_32 rfl
theorem r_MRm_figure_34 {x y : Int32} : Rr X d MRm_figure 34 L (.int y :: .int x :: st) h = Rr X d MRm_figure 35 L (.int (x - y) :: st) h := Rr_nx d_MRm_figure_34 rfl
theorem r_MRm_figure_35 {l0 l1 l2 : Value} {x : Int32} : Rr X d MRm_figure 35 [l0, l1, l2] (.int x :: st) h = Rr X d MRm_figure 36 (sL [l0, l1, l2] 1 (.int x)) st h := Rr_nx d_MRm_figure_35 rfl
theorem r_MRm_figure_36 {l0 l1 : Value} {x : Int32} : Rr X d MRm_figure 36 [l0, l1, .int x] st h = Rr X d MRm_figure 39 (sL [l0, l1, .int x] 2 (.int (x + (1)))) st h := Rr_nx d_MRm_figure_36 rfl
theorem r_MRm_figure_39 {l1 l2 : Value} {x : Nat} : Rr X d MRm_figure 39 [.ref x, l1, l2] st h = Rr X d MRm_figure 40 [.ref x, l1, l2] (.ref x :: st) h := Rr_nx d_MRm_figure_39 rfl
theorem r_MRm_figure_40 {x : Nat} : Rr X d MRm_figure 40 L (.ref x :: st) h = Rr X d MRm_figure 41 L (.ref x :: .ref x :: st) h := Rr_nx d_MRm_figure_40 rfl
theorem r_MRm_figure_40i {x : Int32} : Rr X d MRm_figure 40 L (.int x :: st) h = Rr X d MRm_figure 41 L (.int x :: .int x :: st) h := Rr_nx d_MRm_figure_40 rfl
theorem r_MRm_figure_41 {a : Nat} (hq : qI a 10 18 = true) : Rr X d MRm_figure 41 L (.ref a :: st) (Wd mu la ro et) = Rr X d MRm_figure 44 L (.int (mu a 18) :: st) (Wd mu la ro et) := R_gfI d_MRm_figure_41 ff_10_120 hq
theorem r_MRm_figure_44 : Rr X d MRm_figure 44 L st h = Rr X d MRm_figure 45 L (.int (1) :: st) h := Rr_nx d_MRm_figure_44 rfl
theorem r_MRm_figure_45 {x y : Int32} : Rr X d MRm_figure 45 L (.int y :: .int x :: st) h = Rr X d MRm_figure 46 L (.int (x + y) :: st) h := Rr_nx d_MRm_figure_45 rfl
theorem r_MRm_figure_46 {a : Nat} {x : Int32} (hq : qI a 10 18 = true) : Rr X d MRm_figure 46 L (.int x :: .ref a :: st) (Wd mu la ro et) = Rr X d MRm_figure 49 L st (Wd (up2 mu a 18 x) la ro et) := R_pfI d_MRm_figure_46 ff_10_120 hq
theorem r_MRm_figure_49 : Rr X d MRm_figure 49 L st h = Rr X d MRm_figure 4 L st h := R_goto d_MRm_figure_49 (by decide)
theorem r_MRm_figure_52 {l0 l1 : Value} {x : Int32} : Rr X d MRm_figure 52 [l0, l1, .int x] st h = Rr X d MRm_figure 53 [l0, l1, .int x] (.int x :: st) h := Rr_nx d_MRm_figure_52 rfl
theorem r_MRm_figure_53 {x : Int32} : Rr X d MRm_figure 53 L (.int x :: st) h = if x = 0 then Rr X d MRm_figure 70 L st h else Rr X d MRm_figure 56 L st h := R_if_eq d_MRm_figure_53 (by decide)
theorem r_MRm_figure_56 {l1 l2 : Value} {x : Nat} : Rr X d MRm_figure 56 [.ref x, l1, l2] st h = Rr X d MRm_figure 57 [.ref x, l1, l2] (.ref x :: st) h := Rr_nx d_MRm_figure_56 rfl
theorem r_MRm_figure_57 {a : Nat} (hO : qO a 10 = true) (hc : ckS st = true) : Rr X (d + 1) MRm_figure 57 L (.ref a :: st) (Wd mu la ro et) = (Rr X d MRm_look 0 [.ref a] [] (Wd mu la ro et)).bind fun q => Rr X (d + 1) MRm_figure 60 L (psh q.1 st) q.2 := R_iv (av := []) d_MRm_figure_57 fc_10_206 hO (ckS_le hc) rfl (Nat.le_of_ble_eq_true rfl) (Nat.le_of_ble_eq_true rfl)
theorem r_MRm_figure_60 : Rr X d MRm_figure 60 L st h = Rr X d MRm_figure 62 L (.int (48) :: st) h := Rr_nx d_MRm_figure_60 rfl
theorem r_MRm_figure_62 : Rr X d MRm_figure 62 L st h = Rr X d MRm_figure 64 L (.int (57) :: st) h := Rr_nx d_MRm_figure_62 rfl
theorem r_MRm_figure_64 {y0 : Int32} {y1 : Int32} {y2 : Int32} (hc : ckS st = true) : Rr X (d + 1) MRm_figure 64 L (.int y2 :: .int y1 :: .int y0 :: st) h = (Rr X d MRm_in 0 [.int y0, .int y1, .int y2] [] h).bind fun q => Rr X (d + 1) MRm_figure 67 L (psh q.1 st) q.2 := R_is (av := [.int y2, .int y1, .int y0]) d_MRm_figure_64 (Or.inl fc_10_107) (ckS_le hc) rfl (Nat.le_of_ble_eq_true rfl) (Nat.le_of_ble_eq_true rfl)
theorem r_MRm_figure_67 {x : Int32} : Rr X d MRm_figure 67 L (.int x :: st) h = if x = 0 then Rr X d MRm_figure 74 L st h else Rr X d MRm_figure 70 L st h := R_if_eq d_MRm_figure_67 (by decide)
theorem r_MRm_figure_70 {l1 l2 : Value} {x : Nat} : Rr X d MRm_figure 70 [.ref x, l1, l2] st h = Rr X d MRm_figure 71 [.ref x, l1, l2] (.ref x :: st) h := Rr_nx d_MRm_figure_70 rfl
theorem r_MRm_figure_71 {a : Nat} (hO : qO a 10 = true) (hc : ckS st = true) : Rr X (d + 1) MRm_figure 71 L (.ref a :: st) (Wd mu la ro et) = (Rr X d MRm_wrong 0 [.ref a] [] (Wd mu la ro et)).bind fun q => Rr X (d + 1) MRm_figure 74 L (psh q.1 st) q.2 := R_iv (av := []) d_MRm_figure_71 fc_10_203 hO (ckS_le hc) rfl (Nat.le_of_ble_eq_true rfl) (Nat.le_of_ble_eq_true rfl)
theorem r_MRm_figure_74 {l1 l2 : Value} {x : Nat} : Rr X d MRm_figure 74 [.ref x, l1, l2] st h = Rr X d MRm_figure 75 [.ref x, l1, l2] (.ref x :: st) h := Rr_nx d_MRm_figure_74 rfl
theorem r_MRm_figure_75 : Rr X d MRm_figure 75 L st h = Rr X d MRm_figure 76 L (.int (1) :: st) h := Rr_nx d_MRm_figure_75 rfl
theorem r_MRm_figure_76 {l0 l2 : Value} {x : Int32} : Rr X d MRm_figure 76 [l0, .int x, l2] st h = Rr X d MRm_figure 77 [l0, .int x, l2] (.int x :: st) h := Rr_nx d_MRm_figure_76 rfl
theorem fc_10_209 : fC 10 209 = some (0, 10, 2, MRm_addStep) := rfl
theorem r_MRm_figure_77 {y0 : Int32} {y1 : Int32} {a : Nat} (hO : qO a 10 = true) (hc : ckS st = true) : Rr X (d + 1) MRm_figure 77 L (.int y1 :: .int y0 :: .ref a :: st) (Wd mu la ro et) = (Rr X d MRm_addStep 0 [.ref a, .int y0, .int y1] [] (Wd mu la ro et)).bind fun q => Rr X (d + 1) MRm_figure 80 L (psh q.1 st) q.2 := R_iv (av := [.int y1, .int y0]) d_MRm_figure_77 fc_10_209 hO (ckS_le hc) rfl (Nat.le_of_ble_eq_true rfl) (Nat.le_of_ble_eq_true rfl)
theorem r_MRm_figure_80 : Rr X d MRm_figure 80 L [] h = some (none, h) := Rr_rt d_MRm_figure_80 rfl
theorem d_MRm_operand_0 : decode MRm_operand.2.2.1 0 = .ok (.aload_n 0, 1) := by decide +kernel
theorem d_MRm_operand_1 : decode MRm_operand.2.2.1 1 = .ok (.invokevirtual 206, 3) := by decide +kernel
theorem d_MRm_operand_4 : decode MRm_operand.2.2.1 4 = .ok (.istore_n 1, 1) := by decide +kernel
theorem d_MRm_operand_5 : decode MRm_operand.2.2.1 5 = .ok (.iload_n 1, 1) := by decide +kernel
theorem d_MRm_operand_6 : decode MRm_operand.2.2.1 6 = .ok (.invokestatic 213, 3) := by decide +kernel
theorem d_MRm_operand_9 : decode MRm_operand.2.2.1 9 = .ok (.ifCond .lt 25, 3) := by decide +kernel
theorem d_MRm_operand_12 : decode MRm_operand.2.2.1 12 = .ok (.aload_n 0, 1) := by decide +kernel
theorem d_MRm_operand_13 : decode MRm_operand.2.2.1 13 = .ok (.iconst 2, 1) := by decide +kernel
theorem d_MRm_operand_14 : decode MRm_operand.2.2.1 14 = .ok (.iload_n 1, 1) := by decide +kernel
theorem d_MRm_operand_15 : decode MRm_operand.2.2.1 15 = .ok (.invokestatic 213, 3) := by decide +kernel
theorem d_MRm_operand_18 : decode MRm_operand.2.2.1 18 = .ok (.invokevirtual 209, 3) := by decide +kernel
theorem d_MRm_operand_21 : decode MRm_operand.2.2.1 21 = .ok (.aload_n 0, 1) := by decide +kernel
theorem d_MRm_operand_22 : decode MRm_operand.2.2.1 22 = .ok (.dup, 1) := by decide +kernel
theorem d_MRm_operand_23 : decode MRm_operand.2.2.1 23 = .ok (.getfield 120, 3) := by decide +kernel
theorem d_MRm_operand_26 : decode MRm_operand.2.2.1 26 = .ok (.iconst 1, 1) := by decide +kernel
theorem d_MRm_operand_27 : decode MRm_operand.2.2.1 27 = .ok (.iadd, 1) := by decide +kernel
theorem d_MRm_operand_28 : decode MRm_operand.2.2.1 28 = .ok (.putfield 120, 3) := by decide +kernel
theorem d_MRm_operand_31 : decode MRm_operand.2.2.1 31 = .ok (.goto 123, 3) := by decide +kernel
theorem d_MRm_operand_34 : decode MRm_operand.2.2.1 34 = .ok (.iload_n 1, 1) := by decide +kernel
theorem d_MRm_operand_35 : decode MRm_operand.2.2.1 35 = .ok (.bipush 33, 2) := by decide +kernel
theorem d_MRm_operand_37 : decode MRm_operand.2.2.1 37 = .ok (.if_icmp .eq 9, 3) := by decide +kernel
theorem d_MRm_operand_40 : decode MRm_operand.2.2.1 40 = .ok (.iload_n 1, 1) := by decide +kernel
theorem d_MRm_operand_41 : decode MRm_operand.2.2.1 41 = .ok (.bipush 45, 2) := by decide +kernel
theorem d_MRm_operand_43 : decode MRm_operand.2.2.1 43 = .ok (.if_icmp .ne 44, 3) := by decide +kernel
theorem d_MRm_operand_46 : decode MRm_operand.2.2.1 46 = .ok (.aload_n 0, 1) := by decide +kernel
theorem d_MRm_operand_47 : decode MRm_operand.2.2.1 47 = .ok (.invokevirtual 216, 3) := by decide +kernel
theorem d_MRm_operand_50 : decode MRm_operand.2.2.1 50 = .ok (.ifCond .ne 4, 3) := by decide +kernel
theorem d_MRm_operand_53 : decode MRm_operand.2.2.1 53 = .ok (.return_, 1) := by decide +kernel
theorem d_MRm_operand_54 : decode MRm_operand.2.2.1 54 = .ok (.aload_n 0, 1) := by decide +kernel
theorem d_MRm_operand_55 : decode MRm_operand.2.2.1 55 = .ok (.invokevirtual 220, 3) := by decide +kernel
theorem d_MRm_operand_58 : decode MRm_operand.2.2.1 58 = .ok (.aload_n 0, 1) := by decide +kernel
theorem d_MRm_operand_59 : decode MRm_operand.2.2.1 59 = .ok (.dup, 1) := by decide +kernel
theorem d_MRm_operand_60 : decode MRm_operand.2.2.1 60 = .ok (.getfield 200, 3) := by decide +kernel
theorem d_MRm_operand_63 : decode MRm_operand.2.2.1 63 = .ok (.iconst 1, 1) := by decide +kernel
theorem d_MRm_operand_64 : decode MRm_operand.2.2.1 64 = .ok (.isub, 1) := by decide +kernel
theorem d_MRm_operand_65 : decode MRm_operand.2.2.1 65 = .ok (.putfield 200, 3) := by decide +kernel
theorem d_MRm_operand_68 : decode MRm_operand.2.2.1 68 = .ok (.aload_n 0, 1) := by decide +kernel
theorem d_MRm_operand_69 : decode MRm_operand.2.2.1 69 = .ok (.iload_n 1, 1) := by decide +kernel
theorem d_MRm_operand_70 : decode MRm_operand.2.2.1 70 = .ok (.bipush 33, 2) := by decide +kernel
theorem d_MRm_operand_72 : decode MRm_operand.2.2.1 72 = .ok (.if_icmp .ne 7, 3) := by decide +kernel
theorem d_MRm_operand_75 : decode MRm_operand.2.2.1 75 = .ok (.iconst 3, 1) := by decide +kernel
theorem d_MRm_operand_76 : decode MRm_operand.2.2.1 76 = .ok (.goto 4, 3) := by decide +kernel
theorem d_MRm_operand_79 : decode MRm_operand.2.2.1 79 = .ok (.iconst 4, 1) := by decide +kernel
theorem d_MRm_operand_80 : decode MRm_operand.2.2.1 80 = .ok (.iconst 0, 1) := by decide +kernel
theorem d_MRm_operand_81 : decode MRm_operand.2.2.1 81 = .ok (.invokevirtual 209, 3) := by decide +kernel
theorem d_MRm_operand_84 : decode MRm_operand.2.2.1 84 = .ok (.goto 70, 3) := by decide +kernel
theorem d_MRm_operand_87 : decode MRm_operand.2.2.1 87 = .ok (.iload_n 1, 1) := by decide +kernel
theorem d_MRm_operand_88 : decode MRm_operand.2.2.1 88 = .ok (.bipush 40, 2) := by decide +kernel
theorem d_MRm_operand_90 : decode MRm_operand.2.2.1 90 = .ok (.if_icmp .ne 60, 3) := by decide +kernel
theorem d_MRm_operand_93 : decode MRm_operand.2.2.1 93 = .ok (.aload_n 0, 1) := by decide +kernel
theorem d_MRm_operand_94 : decode MRm_operand.2.2.1 94 = .ok (.invokevirtual 216, 3) := by decide +kernel
theorem d_MRm_operand_97 : decode MRm_operand.2.2.1 97 = .ok (.ifCond .ne 4, 3) := by decide +kernel
theorem d_MRm_operand_100 : decode MRm_operand.2.2.1 100 = .ok (.return_, 1) := by decide +kernel
theorem d_MRm_operand_101 : decode MRm_operand.2.2.1 101 = .ok (.aload_n 0, 1) := by decide +kernel
theorem d_MRm_operand_102 : decode MRm_operand.2.2.1 102 = .ok (.invokevirtual 223, 3) := by decide +kernel
theorem d_MRm_operand_105 : decode MRm_operand.2.2.1 105 = .ok (.aload_n 0, 1) := by decide +kernel
theorem d_MRm_operand_106 : decode MRm_operand.2.2.1 106 = .ok (.getfield 117, 3) := by decide +kernel
theorem d_MRm_operand_109 : decode MRm_operand.2.2.1 109 = .ok (.ifCond .lt 4, 3) := by decide +kernel
theorem d_MRm_operand_112 : decode MRm_operand.2.2.1 112 = .ok (.return_, 1) := by decide +kernel
theorem d_MRm_operand_113 : decode MRm_operand.2.2.1 113 = .ok (.aload_n 0, 1) := by decide +kernel
theorem d_MRm_operand_114 : decode MRm_operand.2.2.1 114 = .ok (.invokevirtual 206, 3) := by decide +kernel
theorem d_MRm_operand_117 : decode MRm_operand.2.2.1 117 = .ok (.bipush 41, 2) := by decide +kernel
theorem d_MRm_operand_119 : decode MRm_operand.2.2.1 119 = .ok (.if_icmp .eq 8, 3) := by decide +kernel
theorem d_MRm_operand_122 : decode MRm_operand.2.2.1 122 = .ok (.aload_n 0, 1) := by decide +kernel
theorem d_MRm_operand_123 : decode MRm_operand.2.2.1 123 = .ok (.invokevirtual 203, 3) := by decide +kernel
theorem d_MRm_operand_126 : decode MRm_operand.2.2.1 126 = .ok (.return_, 1) := by decide +kernel
theorem d_MRm_operand_127 : decode MRm_operand.2.2.1 127 = .ok (.aload_n 0, 1) := by decide +kernel
theorem d_MRm_operand_128 : decode MRm_operand.2.2.1 128 = .ok (.dup, 1) := by decide +kernel
theorem d_MRm_operand_129 : decode MRm_operand.2.2.1 129 = .ok (.getfield 120, 3) := by decide +kernel
theorem d_MRm_operand_132 : decode MRm_operand.2.2.1 132 = .ok (.iconst 1, 1) := by decide +kernel
theorem d_MRm_operand_133 : decode MRm_operand.2.2.1 133 = .ok (.iadd, 1) := by decide +kernel
theorem d_MRm_operand_134 : decode MRm_operand.2.2.1 134 = .ok (.putfield 120, 3) := by decide +kernel
theorem d_MRm_operand_137 : decode MRm_operand.2.2.1 137 = .ok (.aload_n 0, 1) := by decide +kernel
theorem d_MRm_operand_138 : decode MRm_operand.2.2.1 138 = .ok (.dup, 1) := by decide +kernel
theorem d_MRm_operand_139 : decode MRm_operand.2.2.1 139 = .ok (.getfield 200, 3) := by decide +kernel
theorem d_MRm_operand_142 : decode MRm_operand.2.2.1 142 = .ok (.iconst 1, 1) := by decide +kernel
theorem d_MRm_operand_143 : decode MRm_operand.2.2.1 143 = .ok (.isub, 1) := by decide +kernel
theorem d_MRm_operand_144 : decode MRm_operand.2.2.1 144 = .ok (.putfield 200, 3) := by decide +kernel
theorem d_MRm_operand_147 : decode MRm_operand.2.2.1 147 = .ok (.goto 7, 3) := by decide +kernel
theorem d_MRm_operand_150 : decode MRm_operand.2.2.1 150 = .ok (.aload_n 0, 1) := by decide +kernel
theorem d_MRm_operand_151 : decode MRm_operand.2.2.1 151 = .ok (.invokevirtual 226, 3) := by decide +kernel
theorem d_MRm_operand_154 : decode MRm_operand.2.2.1 154 = .ok (.return_, 1) := by decide +kernel
theorem r_MRm_operand_0 {l1 : Value} {x : Nat} : Rr X d MRm_operand 0 [.ref x, l1] st h = Rr X d MRm_operand 1 [.ref x, l1] (.ref x :: st) h := Rr_nx d_MRm_operand_0 rfl
theorem r_MRm_operand_1 {a : Nat} (hO : qO a 10 = true) (hc : ckS st = true) : Rr X (d + 1) MRm_operand 1 L (.ref a :: st) (Wd mu la ro et) = (Rr X d MRm_look 0 [.ref a] [] (Wd mu la ro et)).bind fun q => Rr X (d + 1) MRm_operand 4 L (psh q.1 st) q.2 := R_iv (av := []) d_MRm_operand_1 fc_10_206 hO (ckS_le hc) rfl (Nat.le_of_ble_eq_true rfl) (Nat.le_of_ble_eq_true rfl)
theorem r_MRm_operand_4 {l0 l1 : Value} {x : Int32} : Rr X d MRm_operand 4 [l0, l1] (.int x :: st) h = Rr X d MRm_operand 5 (sL [l0, l1] 1 (.int x)) st h := Rr_nx d_MRm_operand_4 rfl
theorem r_MRm_operand_5 {l0 : Value} {x : Int32} : Rr X d MRm_operand 5 [l0, .int x] st h = Rr X d MRm_operand 6 [l0, .int x] (.int x :: st) h := Rr_nx d_MRm_operand_5 rfl
theorem fc_10_213 : fC 10 213 = some (1, 0, 1, MRm_nameOf) := rfl
theorem r_MRm_operand_6 {y0 : Int32} (hc : ckS st = true) : Rr X (d + 1) MRm_operand 6 L (.int y0 :: st) h = (Rr X d MRm_nameOf 0 [.int y0] [] h).bind fun q => Rr X (d + 1) MRm_operand 9 L (psh q.1 st) q.2 := R_is (av := [.int y0]) d_MRm_operand_6 (Or.inl fc_10_213) (ckS_le hc) rfl (Nat.le_of_ble_eq_true rfl) (Nat.le_of_ble_eq_true rfl)
theorem r_MRm_operand_9 {x : Int32} : Rr X d MRm_operand 9 L (.int x :: st) h = if x < 0 then Rr X d MRm_operand 34 L st h else Rr X d MRm_operand 12 L st h := R_if_lt d_MRm_operand_9 (by decide)
theorem r_MRm_operand_12 {l1 : Value} {x : Nat} : Rr X d MRm_operand 12 [.ref x, l1] st h = Rr X d MRm_operand 13 [.ref x, l1] (.ref x :: st) h := Rr_nx d_MRm_operand_12 rfl
theorem r_MRm_operand_13 : Rr X d MRm_operand 13 L st h = Rr X d MRm_operand 14 L (.int (2) :: st) h := Rr_nx d_MRm_operand_13 rfl
theorem r_MRm_operand_14 {l0 : Value} {x : Int32} : Rr X d MRm_operand 14 [l0, .int x] st h = Rr X d MRm_operand 15 [l0, .int x] (.int x :: st) h := Rr_nx d_MRm_operand_14 rfl
theorem r_MRm_operand_15 {y0 : Int32} (hc : ckS st = true) : Rr X (d + 1) MRm_operand 15 L (.int y0 :: st) h = (Rr X d MRm_nameOf 0 [.int y0] [] h).bind fun q => Rr X (d + 1) MRm_operand 18 L (psh q.1 st) q.2 := R_is (av := [.int y0]) d_MRm_operand_15 (Or.inl fc_10_213) (ckS_le hc) rfl (Nat.le_of_ble_eq_true rfl) (Nat.le_of_ble_eq_true rfl)
theorem r_MRm_operand_18 {y0 : Int32} {y1 : Int32} {a : Nat} (hO : qO a 10 = true) (hc : ckS st = true) : Rr X (d + 1) MRm_operand 18 L (.int y1 :: .int y0 :: .ref a :: st) (Wd mu la ro et) = (Rr X d MRm_addStep 0 [.ref a, .int y0, .int y1] [] (Wd mu la ro et)).bind fun q => Rr X (d + 1) MRm_operand 21 L (psh q.1 st) q.2 := R_iv (av := [.int y1, .int y0]) d_MRm_operand_18 fc_10_209 hO (ckS_le hc) rfl (Nat.le_of_ble_eq_true rfl) (Nat.le_of_ble_eq_true rfl)
theorem r_MRm_operand_21 {l1 : Value} {x : Nat} : Rr X d MRm_operand 21 [.ref x, l1] st h = Rr X d MRm_operand 22 [.ref x, l1] (.ref x :: st) h := Rr_nx d_MRm_operand_21 rfl
theorem r_MRm_operand_22 {x : Nat} : Rr X d MRm_operand 22 L (.ref x :: st) h = Rr X d MRm_operand 23 L (.ref x :: .ref x :: st) h := Rr_nx d_MRm_operand_22 rfl
theorem r_MRm_operand_22i {x : Int32} : Rr X d MRm_operand 22 L (.int x :: st) h = Rr X d MRm_operand 23 L (.int x :: .int x :: st) h := Rr_nx d_MRm_operand_22 rfl
theorem r_MRm_operand_23 {a : Nat} (hq : qI a 10 18 = true) : Rr X d MRm_operand 23 L (.ref a :: st) (Wd mu la ro et) = Rr X d MRm_operand 26 L (.int (mu a 18) :: st) (Wd mu la ro et) := R_gfI d_MRm_operand_23 ff_10_120 hq
theorem r_MRm_operand_26 : Rr X d MRm_operand 26 L st h = Rr X d MRm_operand 27 L (.int (1) :: st) h := Rr_nx d_MRm_operand_26 rfl
theorem r_MRm_operand_27 {x y : Int32} : Rr X d MRm_operand 27 L (.int y :: .int x :: st) h = Rr X d MRm_operand 28 L (.int (x + y) :: st) h := Rr_nx d_MRm_operand_27 rfl
theorem r_MRm_operand_28 {a : Nat} {x : Int32} (hq : qI a 10 18 = true) : Rr X d MRm_operand 28 L (.int x :: .ref a :: st) (Wd mu la ro et) = Rr X d MRm_operand 31 L st (Wd (up2 mu a 18 x) la ro et) := R_pfI d_MRm_operand_28 ff_10_120 hq
theorem r_MRm_operand_31 : Rr X d MRm_operand 31 L st h = Rr X d MRm_operand 154 L st h := R_goto d_MRm_operand_31 (by decide)
theorem r_MRm_operand_34 {l0 : Value} {x : Int32} : Rr X d MRm_operand 34 [l0, .int x] st h = Rr X d MRm_operand 35 [l0, .int x] (.int x :: st) h := Rr_nx d_MRm_operand_34 rfl
theorem r_MRm_operand_35 : Rr X d MRm_operand 35 L st h = Rr X d MRm_operand 37 L (.int (33) :: st) h := Rr_nx d_MRm_operand_35 rfl
theorem r_MRm_operand_37 {x y : Int32} : Rr X d MRm_operand 37 L (.int y :: .int x :: st) h = if x = y then Rr X d MRm_operand 46 L st h else Rr X d MRm_operand 40 L st h := R_ic_eq d_MRm_operand_37 (by decide)
theorem r_MRm_operand_40 {l0 : Value} {x : Int32} : Rr X d MRm_operand 40 [l0, .int x] st h = Rr X d MRm_operand 41 [l0, .int x] (.int x :: st) h := Rr_nx d_MRm_operand_40 rfl
theorem r_MRm_operand_41 : Rr X d MRm_operand 41 L st h = Rr X d MRm_operand 43 L (.int (45) :: st) h := Rr_nx d_MRm_operand_41 rfl
theorem r_MRm_operand_43 {x y : Int32} : Rr X d MRm_operand 43 L (.int y :: .int x :: st) h = if ¬ x = y then Rr X d MRm_operand 87 L st h else Rr X d MRm_operand 46 L st h := R_ic_ne d_MRm_operand_43 (by decide)
theorem r_MRm_operand_46 {l1 : Value} {x : Nat} : Rr X d MRm_operand 46 [.ref x, l1] st h = Rr X d MRm_operand 47 [.ref x, l1] (.ref x :: st) h := Rr_nx d_MRm_operand_46 rfl
theorem fc_10_216 : fC 10 216 = some (0, 10, 0, MRm_opens) := rfl
theorem r_MRm_operand_47 {a : Nat} (hO : qO a 10 = true) (hc : ckS st = true) : Rr X (d + 1) MRm_operand 47 L (.ref a :: st) (Wd mu la ro et) = (Rr X d MRm_opens 0 [.ref a] [] (Wd mu la ro et)).bind fun q => Rr X (d + 1) MRm_operand 50 L (psh q.1 st) q.2 := R_iv (av := []) d_MRm_operand_47 fc_10_216 hO (ckS_le hc) rfl (Nat.le_of_ble_eq_true rfl) (Nat.le_of_ble_eq_true rfl)
theorem r_MRm_operand_50 {x : Int32} : Rr X d MRm_operand 50 L (.int x :: st) h = if ¬ x = 0 then Rr X d MRm_operand 54 L st h else Rr X d MRm_operand 53 L st h := R_if_ne d_MRm_operand_50 (by decide)
theorem r_MRm_operand_53 : Rr X d MRm_operand 53 L [] h = some (none, h) := Rr_rt d_MRm_operand_53 rfl
theorem r_MRm_operand_54 {l1 : Value} {x : Nat} : Rr X d MRm_operand 54 [.ref x, l1] st h = Rr X d MRm_operand 55 [.ref x, l1] (.ref x :: st) h := Rr_nx d_MRm_operand_54 rfl
theorem fc_10_220 : fC 10 220 = some (0, 10, 0, MRm_operand) := rfl
theorem r_MRm_operand_55 {a : Nat} (hO : qO a 10 = true) (hc : ckS st = true) : Rr X (d + 1) MRm_operand 55 L (.ref a :: st) (Wd mu la ro et) = (Rr X d MRm_operand 0 [.ref a, mkU] [] (Wd mu la ro et)).bind fun q => Rr X (d + 1) MRm_operand 58 L (psh q.1 st) q.2 := R_iv (av := []) d_MRm_operand_55 fc_10_220 hO (ckS_le hc) rfl (Nat.le_of_ble_eq_true rfl) (Nat.le_of_ble_eq_true rfl)
theorem r_MRm_operand_58 {l1 : Value} {x : Nat} : Rr X d MRm_operand 58 [.ref x, l1] st h = Rr X d MRm_operand 59 [.ref x, l1] (.ref x :: st) h := Rr_nx d_MRm_operand_58 rfl
theorem r_MRm_operand_59 {x : Nat} : Rr X d MRm_operand 59 L (.ref x :: st) h = Rr X d MRm_operand 60 L (.ref x :: .ref x :: st) h := Rr_nx d_MRm_operand_59 rfl
theorem r_MRm_operand_59i {x : Int32} : Rr X d MRm_operand 59 L (.int x :: st) h = Rr X d MRm_operand 60 L (.int x :: .int x :: st) h := Rr_nx d_MRm_operand_59 rfl
theorem r_MRm_operand_60 {a : Nat} (hq : qI a 10 20 = true) : Rr X d MRm_operand 60 L (.ref a :: st) (Wd mu la ro et) = Rr X d MRm_operand 63 L (.int (mu a 20) :: st) (Wd mu la ro et) := R_gfI d_MRm_operand_60 ff_10_200 hq
theorem r_MRm_operand_63 : Rr X d MRm_operand 63 L st h = Rr X d MRm_operand 64 L (.int (1) :: st) h := Rr_nx d_MRm_operand_63 rfl
theorem r_MRm_operand_64 {x y : Int32} : Rr X d MRm_operand 64 L (.int y :: .int x :: st) h = Rr X d MRm_operand 65 L (.int (x - y) :: st) h := Rr_nx d_MRm_operand_64 rfl
theorem r_MRm_operand_65 {a : Nat} {x : Int32} (hq : qI a 10 20 = true) : Rr X d MRm_operand 65 L (.int x :: .ref a :: st) (Wd mu la ro et) = Rr X d MRm_operand 68 L st (Wd (up2 mu a 20 x) la ro et) := R_pfI d_MRm_operand_65 ff_10_200 hq
theorem r_MRm_operand_68 {l1 : Value} {x : Nat} : Rr X d MRm_operand 68 [.ref x, l1] st h = Rr X d MRm_operand 69 [.ref x, l1] (.ref x :: st) h := Rr_nx d_MRm_operand_68 rfl
theorem r_MRm_operand_69 {l0 : Value} {x : Int32} : Rr X d MRm_operand 69 [l0, .int x] st h = Rr X d MRm_operand 70 [l0, .int x] (.int x :: st) h := Rr_nx d_MRm_operand_69 rfl
theorem r_MRm_operand_70 : Rr X d MRm_operand 70 L st h = Rr X d MRm_operand 72 L (.int (33) :: st) h := Rr_nx d_MRm_operand_70 rfl
theorem r_MRm_operand_72 {x y : Int32} : Rr X d MRm_operand 72 L (.int y :: .int x :: st) h = if ¬ x = y then Rr X d MRm_operand 79 L st h else Rr X d MRm_operand 75 L st h := R_ic_ne d_MRm_operand_72 (by decide)
theorem r_MRm_operand_75 : Rr X d MRm_operand 75 L st h = Rr X d MRm_operand 76 L (.int (3) :: st) h := Rr_nx d_MRm_operand_75 rfl
theorem r_MRm_operand_76 : Rr X d MRm_operand 76 L st h = Rr X d MRm_operand 80 L st h := R_goto d_MRm_operand_76 (by decide)
theorem r_MRm_operand_79 : Rr X d MRm_operand 79 L st h = Rr X d MRm_operand 80 L (.int (4) :: st) h := Rr_nx d_MRm_operand_79 rfl
theorem r_MRm_operand_80 : Rr X d MRm_operand 80 L st h = Rr X d MRm_operand 81 L (.int (0) :: st) h := Rr_nx d_MRm_operand_80 rfl
theorem r_MRm_operand_81 {y0 : Int32} {y1 : Int32} {a : Nat} (hO : qO a 10 = true) (hc : ckS st = true) : Rr X (d + 1) MRm_operand 81 L (.int y1 :: .int y0 :: .ref a :: st) (Wd mu la ro et) = (Rr X d MRm_addStep 0 [.ref a, .int y0, .int y1] [] (Wd mu la ro et)).bind fun q => Rr X (d + 1) MRm_operand 84 L (psh q.1 st) q.2 := R_iv (av := [.int y1, .int y0]) d_MRm_operand_81 fc_10_209 hO (ckS_le hc) rfl (Nat.le_of_ble_eq_true rfl) (Nat.le_of_ble_eq_true rfl)
theorem r_MRm_operand_84 : Rr X d MRm_operand 84 L st h = Rr X d MRm_operand 154 L st h := R_goto d_MRm_operand_84 (by decide)
theorem r_MRm_operand_87 {l0 : Value} {x : Int32} : Rr X d MRm_operand 87 [l0, .int x] st h = Rr X d MRm_operand 88 [l0, .int x] (.int x :: st) h := Rr_nx d_MRm_operand_87 rfl
theorem r_MRm_operand_88 : Rr X d MRm_operand 88 L st h = Rr X d MRm_operand 90 L (.int (40) :: st) h := Rr_nx d_MRm_operand_88 rfl
theorem r_MRm_operand_90 {x y : Int32} : Rr X d MRm_operand 90 L (.int y :: .int x :: st) h = if ¬ x = y then Rr X d MRm_operand 150 L st h else Rr X d MRm_operand 93 L st h := R_ic_ne d_MRm_operand_90 (by decide)
theorem r_MRm_operand_93 {l1 : Value} {x : Nat} : Rr X d MRm_operand 93 [.ref x, l1] st h = Rr X d MRm_operand 94 [.ref x, l1] (.ref x :: st) h := Rr_nx d_MRm_operand_93 rfl
theorem r_MRm_operand_94 {a : Nat} (hO : qO a 10 = true) (hc : ckS st = true) : Rr X (d + 1) MRm_operand 94 L (.ref a :: st) (Wd mu la ro et) = (Rr X d MRm_opens 0 [.ref a] [] (Wd mu la ro et)).bind fun q => Rr X (d + 1) MRm_operand 97 L (psh q.1 st) q.2 := R_iv (av := []) d_MRm_operand_94 fc_10_216 hO (ckS_le hc) rfl (Nat.le_of_ble_eq_true rfl) (Nat.le_of_ble_eq_true rfl)
theorem r_MRm_operand_97 {x : Int32} : Rr X d MRm_operand 97 L (.int x :: st) h = if ¬ x = 0 then Rr X d MRm_operand 101 L st h else Rr X d MRm_operand 100 L st h := R_if_ne d_MRm_operand_97 (by decide)
theorem r_MRm_operand_100 : Rr X d MRm_operand 100 L [] h = some (none, h) := Rr_rt d_MRm_operand_100 rfl
theorem r_MRm_operand_101 {l1 : Value} {x : Nat} : Rr X d MRm_operand 101 [.ref x, l1] st h = Rr X d MRm_operand 102 [.ref x, l1] (.ref x :: st) h := Rr_nx d_MRm_operand_101 rfl
theorem fc_10_223 : fC 10 223 = some (0, 10, 0, MRm_either) := rfl
theorem r_MRm_operand_102 {a : Nat} (hO : qO a 10 = true) (hc : ckS st = true) : Rr X (d + 1) MRm_operand 102 L (.ref a :: st) (Wd mu la ro et) = (Rr X d MRm_either 0 [.ref a] [] (Wd mu la ro et)).bind fun q => Rr X (d + 1) MRm_operand 105 L (psh q.1 st) q.2 := R_iv (av := []) d_MRm_operand_102 fc_10_223 hO (ckS_le hc) rfl (Nat.le_of_ble_eq_true rfl) (Nat.le_of_ble_eq_true rfl)
theorem r_MRm_operand_105 {l1 : Value} {x : Nat} : Rr X d MRm_operand 105 [.ref x, l1] st h = Rr X d MRm_operand 106 [.ref x, l1] (.ref x :: st) h := Rr_nx d_MRm_operand_105 rfl
theorem r_MRm_operand_106 {a : Nat} (hq : qI a 10 19 = true) : Rr X d MRm_operand 106 L (.ref a :: st) (Wd mu la ro et) = Rr X d MRm_operand 109 L (.int (mu a 19) :: st) (Wd mu la ro et) := R_gfI d_MRm_operand_106 ff_10_117 hq
theorem r_MRm_operand_109 {x : Int32} : Rr X d MRm_operand 109 L (.int x :: st) h = if x < 0 then Rr X d MRm_operand 113 L st h else Rr X d MRm_operand 112 L st h := R_if_lt d_MRm_operand_109 (by decide)
theorem r_MRm_operand_112 : Rr X d MRm_operand 112 L [] h = some (none, h) := Rr_rt d_MRm_operand_112 rfl
theorem r_MRm_operand_113 {l1 : Value} {x : Nat} : Rr X d MRm_operand 113 [.ref x, l1] st h = Rr X d MRm_operand 114 [.ref x, l1] (.ref x :: st) h := Rr_nx d_MRm_operand_113 rfl
theorem r_MRm_operand_114 {a : Nat} (hO : qO a 10 = true) (hc : ckS st = true) : Rr X (d + 1) MRm_operand 114 L (.ref a :: st) (Wd mu la ro et) = (Rr X d MRm_look 0 [.ref a] [] (Wd mu la ro et)).bind fun q => Rr X (d + 1) MRm_operand 117 L (psh q.1 st) q.2 := R_iv (av := []) d_MRm_operand_114 fc_10_206 hO (ckS_le hc) rfl (Nat.le_of_ble_eq_true rfl) (Nat.le_of_ble_eq_true rfl)
theorem r_MRm_operand_117 : Rr X d MRm_operand 117 L st h = Rr X d MRm_operand 119 L (.int (41) :: st) h := Rr_nx d_MRm_operand_117 rfl
theorem r_MRm_operand_119 {x y : Int32} : Rr X d MRm_operand 119 L (.int y :: .int x :: st) h = if x = y then Rr X d MRm_operand 127 L st h else Rr X d MRm_operand 122 L st h := R_ic_eq d_MRm_operand_119 (by decide)
theorem r_MRm_operand_122 {l1 : Value} {x : Nat} : Rr X d MRm_operand 122 [.ref x, l1] st h = Rr X d MRm_operand 123 [.ref x, l1] (.ref x :: st) h := Rr_nx d_MRm_operand_122 rfl
theorem r_MRm_operand_123 {a : Nat} (hO : qO a 10 = true) (hc : ckS st = true) : Rr X (d + 1) MRm_operand 123 L (.ref a :: st) (Wd mu la ro et) = (Rr X d MRm_wrong 0 [.ref a] [] (Wd mu la ro et)).bind fun q => Rr X (d + 1) MRm_operand 126 L (psh q.1 st) q.2 := R_iv (av := []) d_MRm_operand_123 fc_10_203 hO (ckS_le hc) rfl (Nat.le_of_ble_eq_true rfl) (Nat.le_of_ble_eq_true rfl)
theorem r_MRm_operand_126 : Rr X d MRm_operand 126 L [] h = some (none, h) := Rr_rt d_MRm_operand_126 rfl
theorem r_MRm_operand_127 {l1 : Value} {x : Nat} : Rr X d MRm_operand 127 [.ref x, l1] st h = Rr X d MRm_operand 128 [.ref x, l1] (.ref x :: st) h := Rr_nx d_MRm_operand_127 rfl
theorem r_MRm_operand_128 {x : Nat} : Rr X d MRm_operand 128 L (.ref x :: st) h = Rr X d MRm_operand 129 L (.ref x :: .ref x :: st) h := Rr_nx d_MRm_operand_128 rfl
theorem r_MRm_operand_128i {x : Int32} : Rr X d MRm_operand 128 L (.int x :: st) h = Rr X d MRm_operand 129 L (.int x :: .int x :: st) h := Rr_nx d_MRm_operand_128 rfl
theorem r_MRm_operand_129 {a : Nat} (hq : qI a 10 18 = true) : Rr X d MRm_operand 129 L (.ref a :: st) (Wd mu la ro et) = Rr X d MRm_operand 132 L (.int (mu a 18) :: st) (Wd mu la ro et) := R_gfI d_MRm_operand_129 ff_10_120 hq
theorem r_MRm_operand_132 : Rr X d MRm_operand 132 L st h = Rr X d MRm_operand 133 L (.int (1) :: st) h := Rr_nx d_MRm_operand_132 rfl
theorem r_MRm_operand_133 {x y : Int32} : Rr X d MRm_operand 133 L (.int y :: .int x :: st) h = Rr X d MRm_operand 134 L (.int (x + y) :: st) h := Rr_nx d_MRm_operand_133 rfl
theorem r_MRm_operand_134 {a : Nat} {x : Int32} (hq : qI a 10 18 = true) : Rr X d MRm_operand 134 L (.int x :: .ref a :: st) (Wd mu la ro et) = Rr X d MRm_operand 137 L st (Wd (up2 mu a 18 x) la ro et) := R_pfI d_MRm_operand_134 ff_10_120 hq
theorem r_MRm_operand_137 {l1 : Value} {x : Nat} : Rr X d MRm_operand 137 [.ref x, l1] st h = Rr X d MRm_operand 138 [.ref x, l1] (.ref x :: st) h := Rr_nx d_MRm_operand_137 rfl
theorem r_MRm_operand_138 {x : Nat} : Rr X d MRm_operand 138 L (.ref x :: st) h = Rr X d MRm_operand 139 L (.ref x :: .ref x :: st) h := Rr_nx d_MRm_operand_138 rfl
theorem r_MRm_operand_138i {x : Int32} : Rr X d MRm_operand 138 L (.int x :: st) h = Rr X d MRm_operand 139 L (.int x :: .int x :: st) h := Rr_nx d_MRm_operand_138 rfl
theorem r_MRm_operand_139 {a : Nat} (hq : qI a 10 20 = true) : Rr X d MRm_operand 139 L (.ref a :: st) (Wd mu la ro et) = Rr X d MRm_operand 142 L (.int (mu a 20) :: st) (Wd mu la ro et) := R_gfI d_MRm_operand_139 ff_10_200 hq
theorem r_MRm_operand_142 : Rr X d MRm_operand 142 L st h = Rr X d MRm_operand 143 L (.int (1) :: st) h := Rr_nx d_MRm_operand_142 rfl
theorem r_MRm_operand_143 {x y : Int32} : Rr X d MRm_operand 143 L (.int y :: .int x :: st) h = Rr X d MRm_operand 144 L (.int (x - y) :: st) h := Rr_nx d_MRm_operand_143 rfl
theorem r_MRm_operand_144 {a : Nat} {x : Int32} (hq : qI a 10 20 = true) : Rr X d MRm_operand 144 L (.int x :: .ref a :: st) (Wd mu la ro et) = Rr X d MRm_operand 147 L st (Wd (up2 mu a 20 x) la ro et) := R_pfI d_MRm_operand_144 ff_10_200 hq
theorem r_MRm_operand_147 : Rr X d MRm_operand 147 L st h = Rr X d MRm_operand 154 L st h := R_goto d_MRm_operand_147 (by decide)
theorem r_MRm_operand_150 {l1 : Value} {x : Nat} : Rr X d MRm_operand 150 [.ref x, l1] st h = Rr X d MRm_operand 151 [.ref x, l1] (.ref x :: st) h := Rr_nx d_MRm_operand_150 rfl
theorem fc_10_226 : fC 10 226 = some (0, 10, 0, MRm_figure) := rfl
theorem r_MRm_operand_151 {a : Nat} (hO : qO a 10 = true) (hc : ckS st = true) : Rr X (d + 1) MRm_operand 151 L (.ref a :: st) (Wd mu la ro et) = (Rr X d MRm_figure 0 [.ref a, mkU, mkU] [] (Wd mu la ro et)).bind fun q => Rr X (d + 1) MRm_operand 154 L (psh q.1 st) q.2 := R_iv (av := []) d_MRm_operand_151 fc_10_226 hO (ckS_le hc) rfl (Nat.le_of_ble_eq_true rfl) (Nat.le_of_ble_eq_true rfl)
theorem r_MRm_operand_154 : Rr X d MRm_operand 154 L [] h = some (none, h) := Rr_rt d_MRm_operand_154 rfl
theorem d_MRm_product_0 : decode MRm_product.2.2.1 0 = .ok (.aload_n 0, 1) := by decide +kernel
theorem d_MRm_product_1 : decode MRm_product.2.2.1 1 = .ok (.invokevirtual 220, 3) := by decide +kernel
theorem d_MRm_product_4 : decode MRm_product.2.2.1 4 = .ok (.aload_n 0, 1) := by decide +kernel
theorem d_MRm_product_5 : decode MRm_product.2.2.1 5 = .ok (.getfield 117, 3) := by decide +kernel
theorem d_MRm_product_8 : decode MRm_product.2.2.1 8 = .ok (.ifCond .ge 58, 3) := by decide +kernel
theorem d_MRm_product_11 : decode MRm_product.2.2.1 11 = .ok (.aload_n 0, 1) := by decide +kernel
theorem d_MRm_product_12 : decode MRm_product.2.2.1 12 = .ok (.invokevirtual 206, 3) := by decide +kernel
theorem d_MRm_product_15 : decode MRm_product.2.2.1 15 = .ok (.bipush 42, 2) := by decide +kernel
theorem d_MRm_product_17 : decode MRm_product.2.2.1 17 = .ok (.if_icmp .eq 21, 3) := by decide +kernel
theorem d_MRm_product_20 : decode MRm_product.2.2.1 20 = .ok (.aload_n 0, 1) := by decide +kernel
theorem d_MRm_product_21 : decode MRm_product.2.2.1 21 = .ok (.invokevirtual 206, 3) := by decide +kernel
theorem d_MRm_product_24 : decode MRm_product.2.2.1 24 = .ok (.bipush 47, 2) := by decide +kernel
theorem d_MRm_product_26 : decode MRm_product.2.2.1 26 = .ok (.if_icmp .eq 12, 3) := by decide +kernel
theorem d_MRm_product_29 : decode MRm_product.2.2.1 29 = .ok (.aload_n 0, 1) := by decide +kernel
theorem d_MRm_product_30 : decode MRm_product.2.2.1 30 = .ok (.invokevirtual 206, 3) := by decide +kernel
theorem d_MRm_product_33 : decode MRm_product.2.2.1 33 = .ok (.bipush 37, 2) := by decide +kernel
theorem d_MRm_product_35 : decode MRm_product.2.2.1 35 = .ok (.if_icmp .ne 31, 3) := by decide +kernel
theorem d_MRm_product_38 : decode MRm_product.2.2.1 38 = .ok (.aload_n 0, 1) := by decide +kernel
theorem d_MRm_product_39 : decode MRm_product.2.2.1 39 = .ok (.invokevirtual 206, 3) := by decide +kernel
theorem d_MRm_product_42 : decode MRm_product.2.2.1 42 = .ok (.istore_n 1, 1) := by decide +kernel
theorem d_MRm_product_43 : decode MRm_product.2.2.1 43 = .ok (.aload_n 0, 1) := by decide +kernel
theorem d_MRm_product_44 : decode MRm_product.2.2.1 44 = .ok (.dup, 1) := by decide +kernel
theorem d_MRm_product_45 : decode MRm_product.2.2.1 45 = .ok (.getfield 120, 3) := by decide +kernel
theorem d_MRm_product_48 : decode MRm_product.2.2.1 48 = .ok (.iconst 1, 1) := by decide +kernel
theorem d_MRm_product_49 : decode MRm_product.2.2.1 49 = .ok (.iadd, 1) := by decide +kernel
theorem d_MRm_product_50 : decode MRm_product.2.2.1 50 = .ok (.putfield 120, 3) := by decide +kernel
theorem d_MRm_product_53 : decode MRm_product.2.2.1 53 = .ok (.aload_n 0, 1) := by decide +kernel
theorem d_MRm_product_54 : decode MRm_product.2.2.1 54 = .ok (.invokevirtual 220, 3) := by decide +kernel
theorem d_MRm_product_57 : decode MRm_product.2.2.1 57 = .ok (.aload_n 0, 1) := by decide +kernel
theorem d_MRm_product_58 : decode MRm_product.2.2.1 58 = .ok (.iload_n 1, 1) := by decide +kernel
theorem d_MRm_product_59 : decode MRm_product.2.2.1 59 = .ok (.iconst 0, 1) := by decide +kernel
theorem d_MRm_product_60 : decode MRm_product.2.2.1 60 = .ok (.invokevirtual 209, 3) := by decide +kernel
theorem d_MRm_product_63 : decode MRm_product.2.2.1 63 = .ok (.goto (-59), 3) := by decide +kernel
theorem d_MRm_product_66 : decode MRm_product.2.2.1 66 = .ok (.return_, 1) := by decide +kernel
theorem r_MRm_product_0 {l1 : Value} {x : Nat} : Rr X d MRm_product 0 [.ref x, l1] st h = Rr X d MRm_product 1 [.ref x, l1] (.ref x :: st) h := Rr_nx d_MRm_product_0 rfl
theorem r_MRm_product_1 {a : Nat} (hO : qO a 10 = true) (hc : ckS st = true) : Rr X (d + 1) MRm_product 1 L (.ref a :: st) (Wd mu la ro et) = (Rr X d MRm_operand 0 [.ref a, mkU] [] (Wd mu la ro et)).bind fun q => Rr X (d + 1) MRm_product 4 L (psh q.1 st) q.2 := R_iv (av := []) d_MRm_product_1 fc_10_220 hO (ckS_le hc) rfl (Nat.le_of_ble_eq_true rfl) (Nat.le_of_ble_eq_true rfl)
theorem r_MRm_product_4 {l1 : Value} {x : Nat} : Rr X d MRm_product 4 [.ref x, l1] st h = Rr X d MRm_product 5 [.ref x, l1] (.ref x :: st) h := Rr_nx d_MRm_product_4 rfl
theorem r_MRm_product_5 {a : Nat} (hq : qI a 10 19 = true) : Rr X d MRm_product 5 L (.ref a :: st) (Wd mu la ro et) = Rr X d MRm_product 8 L (.int (mu a 19) :: st) (Wd mu la ro et) := R_gfI d_MRm_product_5 ff_10_117 hq
theorem r_MRm_product_8 {x : Int32} : Rr X d MRm_product 8 L (.int x :: st) h = if 0 ≤ x then Rr X d MRm_product 66 L st h else Rr X d MRm_product 11 L st h := R_if_ge d_MRm_product_8 (by decide)
theorem r_MRm_product_11 {l1 : Value} {x : Nat} : Rr X d MRm_product 11 [.ref x, l1] st h = Rr X d MRm_product 12 [.ref x, l1] (.ref x :: st) h := Rr_nx d_MRm_product_11 rfl
theorem r_MRm_product_12 {a : Nat} (hO : qO a 10 = true) (hc : ckS st = true) : Rr X (d + 1) MRm_product 12 L (.ref a :: st) (Wd mu la ro et) = (Rr X d MRm_look 0 [.ref a] [] (Wd mu la ro et)).bind fun q => Rr X (d + 1) MRm_product 15 L (psh q.1 st) q.2 := R_iv (av := []) d_MRm_product_12 fc_10_206 hO (ckS_le hc) rfl (Nat.le_of_ble_eq_true rfl) (Nat.le_of_ble_eq_true rfl)
theorem r_MRm_product_15 : Rr X d MRm_product 15 L st h = Rr X d MRm_product 17 L (.int (42) :: st) h := Rr_nx d_MRm_product_15 rfl
theorem r_MRm_product_17 {x y : Int32} : Rr X d MRm_product 17 L (.int y :: .int x :: st) h = if x = y then Rr X d MRm_product 38 L st h else Rr X d MRm_product 20 L st h := R_ic_eq d_MRm_product_17 (by decide)
theorem r_MRm_product_20 {l1 : Value} {x : Nat} : Rr X d MRm_product 20 [.ref x, l1] st h = Rr X d MRm_product 21 [.ref x, l1] (.ref x :: st) h := Rr_nx d_MRm_product_20 rfl
theorem r_MRm_product_21 {a : Nat} (hO : qO a 10 = true) (hc : ckS st = true) : Rr X (d + 1) MRm_product 21 L (.ref a :: st) (Wd mu la ro et) = (Rr X d MRm_look 0 [.ref a] [] (Wd mu la ro et)).bind fun q => Rr X (d + 1) MRm_product 24 L (psh q.1 st) q.2 := R_iv (av := []) d_MRm_product_21 fc_10_206 hO (ckS_le hc) rfl (Nat.le_of_ble_eq_true rfl) (Nat.le_of_ble_eq_true rfl)
theorem r_MRm_product_24 : Rr X d MRm_product 24 L st h = Rr X d MRm_product 26 L (.int (47) :: st) h := Rr_nx d_MRm_product_24 rfl
theorem r_MRm_product_26 {x y : Int32} : Rr X d MRm_product 26 L (.int y :: .int x :: st) h = if x = y then Rr X d MRm_product 38 L st h else Rr X d MRm_product 29 L st h := R_ic_eq d_MRm_product_26 (by decide)
theorem r_MRm_product_29 {l1 : Value} {x : Nat} : Rr X d MRm_product 29 [.ref x, l1] st h = Rr X d MRm_product 30 [.ref x, l1] (.ref x :: st) h := Rr_nx d_MRm_product_29 rfl
theorem r_MRm_product_30 {a : Nat} (hO : qO a 10 = true) (hc : ckS st = true) : Rr X (d + 1) MRm_product 30 L (.ref a :: st) (Wd mu la ro et) = (Rr X d MRm_look 0 [.ref a] [] (Wd mu la ro et)).bind fun q => Rr X (d + 1) MRm_product 33 L (psh q.1 st) q.2 := R_iv (av := []) d_MRm_product_30 fc_10_206 hO (ckS_le hc) rfl (Nat.le_of_ble_eq_true rfl) (Nat.le_of_ble_eq_true rfl)
theorem r_MRm_product_33 : Rr X d MRm_product 33 L st h = Rr X d MRm_product 35 L (.int (37) :: st) h := Rr_nx d_MRm_product_33 rfl
theorem r_MRm_product_35 {x y : Int32} : Rr X d MRm_product 35 L (.int y :: .int x :: st) h = if ¬ x = y then Rr X d MRm_product 66 L st h else Rr X d MRm_product 38 L st h := R_ic_ne d_MRm_product_35 (by decide)
theorem r_MRm_product_38 {l1 : Value} {x : Nat} : Rr X d MRm_product 38 [.ref x, l1] st h = Rr X d MRm_product 39 [.ref x, l1] (.ref x :: st) h := Rr_nx d_MRm_product_38 rfl
theorem r_MRm_product_39 {a : Nat} (hO : qO a 10 = true) (hc : ckS st = true) : Rr X (d + 1) MRm_product 39 L (.ref a :: st) (Wd mu la ro et) = (Rr X d MRm_look 0 [.ref a] [] (Wd mu la ro et)).bind fun q => Rr X (d + 1) MRm_product 42 L (psh q.1 st) q.2 := R_iv (av := []) d_MRm_product_39 fc_10_206 hO (ckS_le hc) rfl (Nat.le_of_ble_eq_true rfl) (Nat.le_of_ble_eq_true rfl)
theorem r_MRm_product_42 {l0 l1 : Value} {x : Int32} : Rr X d MRm_product 42 [l0, l1] (.int x :: st) h = Rr X d MRm_product 43 (sL [l0, l1] 1 (.int x)) st h := Rr_nx d_MRm_product_42 rfl
theorem r_MRm_product_43 {l1 : Value} {x : Nat} : Rr X d MRm_product 43 [.ref x, l1] st h = Rr X d MRm_product 44 [.ref x, l1] (.ref x :: st) h := Rr_nx d_MRm_product_43 rfl
theorem r_MRm_product_44 {x : Nat} : Rr X d MRm_product 44 L (.ref x :: st) h = Rr X d MRm_product 45 L (.ref x :: .ref x :: st) h := Rr_nx d_MRm_product_44 rfl
theorem r_MRm_product_44i {x : Int32} : Rr X d MRm_product 44 L (.int x :: st) h = Rr X d MRm_product 45 L (.int x :: .int x :: st) h := Rr_nx d_MRm_product_44 rfl
theorem r_MRm_product_45 {a : Nat} (hq : qI a 10 18 = true) : Rr X d MRm_product 45 L (.ref a :: st) (Wd mu la ro et) = Rr X d MRm_product 48 L (.int (mu a 18) :: st) (Wd mu la ro et) := R_gfI d_MRm_product_45 ff_10_120 hq
theorem r_MRm_product_48 : Rr X d MRm_product 48 L st h = Rr X d MRm_product 49 L (.int (1) :: st) h := Rr_nx d_MRm_product_48 rfl
theorem r_MRm_product_49 {x y : Int32} : Rr X d MRm_product 49 L (.int y :: .int x :: st) h = Rr X d MRm_product 50 L (.int (x + y) :: st) h := Rr_nx d_MRm_product_49 rfl
theorem r_MRm_product_50 {a : Nat} {x : Int32} (hq : qI a 10 18 = true) : Rr X d MRm_product 50 L (.int x :: .ref a :: st) (Wd mu la ro et) = Rr X d MRm_product 53 L st (Wd (up2 mu a 18 x) la ro et) := R_pfI d_MRm_product_50 ff_10_120 hq
theorem r_MRm_product_53 {l1 : Value} {x : Nat} : Rr X d MRm_product 53 [.ref x, l1] st h = Rr X d MRm_product 54 [.ref x, l1] (.ref x :: st) h := Rr_nx d_MRm_product_53 rfl
theorem r_MRm_product_54 {a : Nat} (hO : qO a 10 = true) (hc : ckS st = true) : Rr X (d + 1) MRm_product 54 L (.ref a :: st) (Wd mu la ro et) = (Rr X d MRm_operand 0 [.ref a, mkU] [] (Wd mu la ro et)).bind fun q => Rr X (d + 1) MRm_product 57 L (psh q.1 st) q.2 := R_iv (av := []) d_MRm_product_54 fc_10_220 hO (ckS_le hc) rfl (Nat.le_of_ble_eq_true rfl) (Nat.le_of_ble_eq_true rfl)
theorem r_MRm_product_57 {l1 : Value} {x : Nat} : Rr X d MRm_product 57 [.ref x, l1] st h = Rr X d MRm_product 58 [.ref x, l1] (.ref x :: st) h := Rr_nx d_MRm_product_57 rfl
theorem r_MRm_product_58 {l0 : Value} {x : Int32} : Rr X d MRm_product 58 [l0, .int x] st h = Rr X d MRm_product 59 [l0, .int x] (.int x :: st) h := Rr_nx d_MRm_product_58 rfl
theorem r_MRm_product_59 : Rr X d MRm_product 59 L st h = Rr X d MRm_product 60 L (.int (0) :: st) h := Rr_nx d_MRm_product_59 rfl
theorem r_MRm_product_60 {y0 : Int32} {y1 : Int32} {a : Nat} (hO : qO a 10 = true) (hc : ckS st = true) : Rr X (d + 1) MRm_product 60 L (.int y1 :: .int y0 :: .ref a :: st) (Wd mu la ro et) = (Rr X d MRm_addStep 0 [.ref a, .int y0, .int y1] [] (Wd mu la ro et)).bind fun q => Rr X (d + 1) MRm_product 63 L (psh q.1 st) q.2 := R_iv (av := [.int y1, .int y0]) d_MRm_product_60 fc_10_209 hO (ckS_le hc) rfl (Nat.le_of_ble_eq_true rfl) (Nat.le_of_ble_eq_true rfl)
theorem r_MRm_product_63 : Rr X d MRm_product 63 L st h = Rr X d MRm_product 4 L st h := R_goto d_MRm_product_63 (by decide)
theorem r_MRm_product_66 : Rr X d MRm_product 66 L [] h = some (none, h) := Rr_rt d_MRm_product_66 rfl
theorem d_MRm_sum_0 : decode MRm_sum.2.2.1 0 = .ok (.aload_n 0, 1) := by decide +kernel
theorem d_MRm_sum_1 : decode MRm_sum.2.2.1 1 = .ok (.invokevirtual 229, 3) := by decide +kernel
theorem d_MRm_sum_4 : decode MRm_sum.2.2.1 4 = .ok (.aload_n 0, 1) := by decide +kernel
theorem d_MRm_sum_5 : decode MRm_sum.2.2.1 5 = .ok (.getfield 117, 3) := by decide +kernel
theorem d_MRm_sum_8 : decode MRm_sum.2.2.1 8 = .ok (.ifCond .ge 49, 3) := by decide +kernel
theorem d_MRm_sum_11 : decode MRm_sum.2.2.1 11 = .ok (.aload_n 0, 1) := by decide +kernel
theorem d_MRm_sum_12 : decode MRm_sum.2.2.1 12 = .ok (.invokevirtual 206, 3) := by decide +kernel
theorem d_MRm_sum_15 : decode MRm_sum.2.2.1 15 = .ok (.bipush 43, 2) := by decide +kernel
theorem d_MRm_sum_17 : decode MRm_sum.2.2.1 17 = .ok (.if_icmp .eq 12, 3) := by decide +kernel
theorem d_MRm_sum_20 : decode MRm_sum.2.2.1 20 = .ok (.aload_n 0, 1) := by decide +kernel
theorem d_MRm_sum_21 : decode MRm_sum.2.2.1 21 = .ok (.invokevirtual 206, 3) := by decide +kernel
theorem d_MRm_sum_24 : decode MRm_sum.2.2.1 24 = .ok (.bipush 45, 2) := by decide +kernel
theorem d_MRm_sum_26 : decode MRm_sum.2.2.1 26 = .ok (.if_icmp .ne 31, 3) := by decide +kernel
theorem d_MRm_sum_29 : decode MRm_sum.2.2.1 29 = .ok (.aload_n 0, 1) := by decide +kernel
theorem d_MRm_sum_30 : decode MRm_sum.2.2.1 30 = .ok (.invokevirtual 206, 3) := by decide +kernel
theorem d_MRm_sum_33 : decode MRm_sum.2.2.1 33 = .ok (.istore_n 1, 1) := by decide +kernel
theorem d_MRm_sum_34 : decode MRm_sum.2.2.1 34 = .ok (.aload_n 0, 1) := by decide +kernel
theorem d_MRm_sum_35 : decode MRm_sum.2.2.1 35 = .ok (.dup, 1) := by decide +kernel
theorem d_MRm_sum_36 : decode MRm_sum.2.2.1 36 = .ok (.getfield 120, 3) := by decide +kernel
theorem d_MRm_sum_39 : decode MRm_sum.2.2.1 39 = .ok (.iconst 1, 1) := by decide +kernel
theorem d_MRm_sum_40 : decode MRm_sum.2.2.1 40 = .ok (.iadd, 1) := by decide +kernel
theorem d_MRm_sum_41 : decode MRm_sum.2.2.1 41 = .ok (.putfield 120, 3) := by decide +kernel
theorem d_MRm_sum_44 : decode MRm_sum.2.2.1 44 = .ok (.aload_n 0, 1) := by decide +kernel
theorem d_MRm_sum_45 : decode MRm_sum.2.2.1 45 = .ok (.invokevirtual 229, 3) := by decide +kernel
theorem d_MRm_sum_48 : decode MRm_sum.2.2.1 48 = .ok (.aload_n 0, 1) := by decide +kernel
theorem d_MRm_sum_49 : decode MRm_sum.2.2.1 49 = .ok (.iload_n 1, 1) := by decide +kernel
theorem d_MRm_sum_50 : decode MRm_sum.2.2.1 50 = .ok (.iconst 0, 1) := by decide +kernel
theorem d_MRm_sum_51 : decode MRm_sum.2.2.1 51 = .ok (.invokevirtual 209, 3) := by decide +kernel
theorem d_MRm_sum_54 : decode MRm_sum.2.2.1 54 = .ok (.goto (-50), 3) := by decide +kernel
theorem d_MRm_sum_57 : decode MRm_sum.2.2.1 57 = .ok (.return_, 1) := by decide +kernel
theorem r_MRm_sum_0 {l1 : Value} {x : Nat} : Rr X d MRm_sum 0 [.ref x, l1] st h = Rr X d MRm_sum 1 [.ref x, l1] (.ref x :: st) h := Rr_nx d_MRm_sum_0 rfl
theorem fc_10_229 : fC 10 229 = some (0, 10, 0, MRm_product) := rfl
theorem r_MRm_sum_1 {a : Nat} (hO : qO a 10 = true) (hc : ckS st = true) : Rr X (d + 1) MRm_sum 1 L (.ref a :: st) (Wd mu la ro et) = (Rr X d MRm_product 0 [.ref a, mkU] [] (Wd mu la ro et)).bind fun q => Rr X (d + 1) MRm_sum 4 L (psh q.1 st) q.2 := R_iv (av := []) d_MRm_sum_1 fc_10_229 hO (ckS_le hc) rfl (Nat.le_of_ble_eq_true rfl) (Nat.le_of_ble_eq_true rfl)
theorem r_MRm_sum_4 {l1 : Value} {x : Nat} : Rr X d MRm_sum 4 [.ref x, l1] st h = Rr X d MRm_sum 5 [.ref x, l1] (.ref x :: st) h := Rr_nx d_MRm_sum_4 rfl
theorem r_MRm_sum_5 {a : Nat} (hq : qI a 10 19 = true) : Rr X d MRm_sum 5 L (.ref a :: st) (Wd mu la ro et) = Rr X d MRm_sum 8 L (.int (mu a 19) :: st) (Wd mu la ro et) := R_gfI d_MRm_sum_5 ff_10_117 hq
theorem r_MRm_sum_8 {x : Int32} : Rr X d MRm_sum 8 L (.int x :: st) h = if 0 ≤ x then Rr X d MRm_sum 57 L st h else Rr X d MRm_sum 11 L st h := R_if_ge d_MRm_sum_8 (by decide)
theorem r_MRm_sum_11 {l1 : Value} {x : Nat} : Rr X d MRm_sum 11 [.ref x, l1] st h = Rr X d MRm_sum 12 [.ref x, l1] (.ref x :: st) h := Rr_nx d_MRm_sum_11 rfl
theorem r_MRm_sum_12 {a : Nat} (hO : qO a 10 = true) (hc : ckS st = true) : Rr X (d + 1) MRm_sum 12 L (.ref a :: st) (Wd mu la ro et) = (Rr X d MRm_look 0 [.ref a] [] (Wd mu la ro et)).bind fun q => Rr X (d + 1) MRm_sum 15 L (psh q.1 st) q.2 := R_iv (av := []) d_MRm_sum_12 fc_10_206 hO (ckS_le hc) rfl (Nat.le_of_ble_eq_true rfl) (Nat.le_of_ble_eq_true rfl)
theorem r_MRm_sum_15 : Rr X d MRm_sum 15 L st h = Rr X d MRm_sum 17 L (.int (43) :: st) h := Rr_nx d_MRm_sum_15 rfl
theorem r_MRm_sum_17 {x y : Int32} : Rr X d MRm_sum 17 L (.int y :: .int x :: st) h = if x = y then Rr X d MRm_sum 29 L st h else Rr X d MRm_sum 20 L st h := R_ic_eq d_MRm_sum_17 (by decide)
theorem r_MRm_sum_20 {l1 : Value} {x : Nat} : Rr X d MRm_sum 20 [.ref x, l1] st h = Rr X d MRm_sum 21 [.ref x, l1] (.ref x :: st) h := Rr_nx d_MRm_sum_20 rfl
theorem r_MRm_sum_21 {a : Nat} (hO : qO a 10 = true) (hc : ckS st = true) : Rr X (d + 1) MRm_sum 21 L (.ref a :: st) (Wd mu la ro et) = (Rr X d MRm_look 0 [.ref a] [] (Wd mu la ro et)).bind fun q => Rr X (d + 1) MRm_sum 24 L (psh q.1 st) q.2 := R_iv (av := []) d_MRm_sum_21 fc_10_206 hO (ckS_le hc) rfl (Nat.le_of_ble_eq_true rfl) (Nat.le_of_ble_eq_true rfl)
theorem r_MRm_sum_24 : Rr X d MRm_sum 24 L st h = Rr X d MRm_sum 26 L (.int (45) :: st) h := Rr_nx d_MRm_sum_24 rfl
theorem r_MRm_sum_26 {x y : Int32} : Rr X d MRm_sum 26 L (.int y :: .int x :: st) h = if ¬ x = y then Rr X d MRm_sum 57 L st h else Rr X d MRm_sum 29 L st h := R_ic_ne d_MRm_sum_26 (by decide)
theorem r_MRm_sum_29 {l1 : Value} {x : Nat} : Rr X d MRm_sum 29 [.ref x, l1] st h = Rr X d MRm_sum 30 [.ref x, l1] (.ref x :: st) h := Rr_nx d_MRm_sum_29 rfl
theorem r_MRm_sum_30 {a : Nat} (hO : qO a 10 = true) (hc : ckS st = true) : Rr X (d + 1) MRm_sum 30 L (.ref a :: st) (Wd mu la ro et) = (Rr X d MRm_look 0 [.ref a] [] (Wd mu la ro et)).bind fun q => Rr X (d + 1) MRm_sum 33 L (psh q.1 st) q.2 := R_iv (av := []) d_MRm_sum_30 fc_10_206 hO (ckS_le hc) rfl (Nat.le_of_ble_eq_true rfl) (Nat.le_of_ble_eq_true rfl)
theorem r_MRm_sum_33 {l0 l1 : Value} {x : Int32} : Rr X d MRm_sum 33 [l0, l1] (.int x :: st) h = Rr X d MRm_sum 34 (sL [l0, l1] 1 (.int x)) st h := Rr_nx d_MRm_sum_33 rfl
theorem r_MRm_sum_34 {l1 : Value} {x : Nat} : Rr X d MRm_sum 34 [.ref x, l1] st h = Rr X d MRm_sum 35 [.ref x, l1] (.ref x :: st) h := Rr_nx d_MRm_sum_34 rfl
theorem r_MRm_sum_35 {x : Nat} : Rr X d MRm_sum 35 L (.ref x :: st) h = Rr X d MRm_sum 36 L (.ref x :: .ref x :: st) h := Rr_nx d_MRm_sum_35 rfl
theorem r_MRm_sum_35i {x : Int32} : Rr X d MRm_sum 35 L (.int x :: st) h = Rr X d MRm_sum 36 L (.int x :: .int x :: st) h := Rr_nx d_MRm_sum_35 rfl
theorem r_MRm_sum_36 {a : Nat} (hq : qI a 10 18 = true) : Rr X d MRm_sum 36 L (.ref a :: st) (Wd mu la ro et) = Rr X d MRm_sum 39 L (.int (mu a 18) :: st) (Wd mu la ro et) := R_gfI d_MRm_sum_36 ff_10_120 hq
theorem r_MRm_sum_39 : Rr X d MRm_sum 39 L st h = Rr X d MRm_sum 40 L (.int (1) :: st) h := Rr_nx d_MRm_sum_39 rfl
theorem r_MRm_sum_40 {x y : Int32} : Rr X d MRm_sum 40 L (.int y :: .int x :: st) h = Rr X d MRm_sum 41 L (.int (x + y) :: st) h := Rr_nx d_MRm_sum_40 rfl
theorem r_MRm_sum_41 {a : Nat} {x : Int32} (hq : qI a 10 18 = true) : Rr X d MRm_sum 41 L (.int x :: .ref a :: st) (Wd mu la ro et) = Rr X d MRm_sum 44 L st (Wd (up2 mu a 18 x) la ro et) := R_pfI d_MRm_sum_41 ff_10_120 hq
theorem r_MRm_sum_44 {l1 : Value} {x : Nat} : Rr X d MRm_sum 44 [.ref x, l1] st h = Rr X d MRm_sum 45 [.ref x, l1] (.ref x :: st) h := Rr_nx d_MRm_sum_44 rfl
theorem r_MRm_sum_45 {a : Nat} (hO : qO a 10 = true) (hc : ckS st = true) : Rr X (d + 1) MRm_sum 45 L (.ref a :: st) (Wd mu la ro et) = (Rr X d MRm_product 0 [.ref a, mkU] [] (Wd mu la ro et)).bind fun q => Rr X (d + 1) MRm_sum 48 L (psh q.1 st) q.2 := R_iv (av := []) d_MRm_sum_45 fc_10_229 hO (ckS_le hc) rfl (Nat.le_of_ble_eq_true rfl) (Nat.le_of_ble_eq_true rfl)
theorem r_MRm_sum_48 {l1 : Value} {x : Nat} : Rr X d MRm_sum 48 [.ref x, l1] st h = Rr X d MRm_sum 49 [.ref x, l1] (.ref x :: st) h := Rr_nx d_MRm_sum_48 rfl
theorem r_MRm_sum_49 {l0 : Value} {x : Int32} : Rr X d MRm_sum 49 [l0, .int x] st h = Rr X d MRm_sum 50 [l0, .int x] (.int x :: st) h := Rr_nx d_MRm_sum_49 rfl
theorem r_MRm_sum_50 : Rr X d MRm_sum 50 L st h = Rr X d MRm_sum 51 L (.int (0) :: st) h := Rr_nx d_MRm_sum_50 rfl
theorem r_MRm_sum_51 {y0 : Int32} {y1 : Int32} {a : Nat} (hO : qO a 10 = true) (hc : ckS st = true) : Rr X (d + 1) MRm_sum 51 L (.int y1 :: .int y0 :: .ref a :: st) (Wd mu la ro et) = (Rr X d MRm_addStep 0 [.ref a, .int y0, .int y1] [] (Wd mu la ro et)).bind fun q => Rr X (d + 1) MRm_sum 54 L (psh q.1 st) q.2 := R_iv (av := [.int y1, .int y0]) d_MRm_sum_51 fc_10_209 hO (ckS_le hc) rfl (Nat.le_of_ble_eq_true rfl) (Nat.le_of_ble_eq_true rfl)
theorem r_MRm_sum_54 : Rr X d MRm_sum 54 L st h = Rr X d MRm_sum 4 L st h := R_goto d_MRm_sum_54 (by decide)
theorem r_MRm_sum_57 : Rr X d MRm_sum 57 L [] h = some (none, h) := Rr_rt d_MRm_sum_57 rfl
theorem d_MRm_compared_0 : decode MRm_compared.2.2.1 0 = .ok (.aload_n 0, 1) := by decide +kernel
theorem d_MRm_compared_1 : decode MRm_compared.2.2.1 1 = .ok (.invokevirtual 232, 3) := by decide +kernel
theorem d_MRm_compared_4 : decode MRm_compared.2.2.1 4 = .ok (.aload_n 0, 1) := by decide +kernel
theorem d_MRm_compared_5 : decode MRm_compared.2.2.1 5 = .ok (.invokevirtual 206, 3) := by decide +kernel
theorem d_MRm_compared_8 : decode MRm_compared.2.2.1 8 = .ok (.istore_n 1, 1) := by decide +kernel
theorem d_MRm_compared_9 : decode MRm_compared.2.2.1 9 = .ok (.aload_n 0, 1) := by decide +kernel
theorem d_MRm_compared_10 : decode MRm_compared.2.2.1 10 = .ok (.getfield 117, 3) := by decide +kernel
theorem d_MRm_compared_13 : decode MRm_compared.2.2.1 13 = .ok (.ifCond .ge 21, 3) := by decide +kernel
theorem d_MRm_compared_16 : decode MRm_compared.2.2.1 16 = .ok (.iload_n 1, 1) := by decide +kernel
theorem d_MRm_compared_17 : decode MRm_compared.2.2.1 17 = .ok (.bipush 60, 2) := by decide +kernel
theorem d_MRm_compared_19 : decode MRm_compared.2.2.1 19 = .ok (.if_icmp .eq 16, 3) := by decide +kernel
theorem d_MRm_compared_22 : decode MRm_compared.2.2.1 22 = .ok (.iload_n 1, 1) := by decide +kernel
theorem d_MRm_compared_23 : decode MRm_compared.2.2.1 23 = .ok (.bipush 61, 2) := by decide +kernel
theorem d_MRm_compared_25 : decode MRm_compared.2.2.1 25 = .ok (.if_icmp .eq 10, 3) := by decide +kernel
theorem d_MRm_compared_28 : decode MRm_compared.2.2.1 28 = .ok (.iload_n 1, 1) := by decide +kernel
theorem d_MRm_compared_29 : decode MRm_compared.2.2.1 29 = .ok (.bipush 62, 2) := by decide +kernel
theorem d_MRm_compared_31 : decode MRm_compared.2.2.1 31 = .ok (.if_icmp .eq 4, 3) := by decide +kernel
theorem d_MRm_compared_34 : decode MRm_compared.2.2.1 34 = .ok (.return_, 1) := by decide +kernel
theorem d_MRm_compared_35 : decode MRm_compared.2.2.1 35 = .ok (.aload_n 0, 1) := by decide +kernel
theorem d_MRm_compared_36 : decode MRm_compared.2.2.1 36 = .ok (.dup, 1) := by decide +kernel
theorem d_MRm_compared_37 : decode MRm_compared.2.2.1 37 = .ok (.getfield 120, 3) := by decide +kernel
theorem d_MRm_compared_40 : decode MRm_compared.2.2.1 40 = .ok (.iconst 1, 1) := by decide +kernel
theorem d_MRm_compared_41 : decode MRm_compared.2.2.1 41 = .ok (.iadd, 1) := by decide +kernel
theorem d_MRm_compared_42 : decode MRm_compared.2.2.1 42 = .ok (.putfield 120, 3) := by decide +kernel
theorem d_MRm_compared_45 : decode MRm_compared.2.2.1 45 = .ok (.aload_n 0, 1) := by decide +kernel
theorem d_MRm_compared_46 : decode MRm_compared.2.2.1 46 = .ok (.invokevirtual 232, 3) := by decide +kernel
theorem d_MRm_compared_49 : decode MRm_compared.2.2.1 49 = .ok (.aload_n 0, 1) := by decide +kernel
theorem d_MRm_compared_50 : decode MRm_compared.2.2.1 50 = .ok (.iload_n 1, 1) := by decide +kernel
theorem d_MRm_compared_51 : decode MRm_compared.2.2.1 51 = .ok (.iconst 0, 1) := by decide +kernel
theorem d_MRm_compared_52 : decode MRm_compared.2.2.1 52 = .ok (.invokevirtual 209, 3) := by decide +kernel
theorem d_MRm_compared_55 : decode MRm_compared.2.2.1 55 = .ok (.return_, 1) := by decide +kernel
theorem r_MRm_compared_0 {l1 : Value} {x : Nat} : Rr X d MRm_compared 0 [.ref x, l1] st h = Rr X d MRm_compared 1 [.ref x, l1] (.ref x :: st) h := Rr_nx d_MRm_compared_0 rfl
theorem fc_10_232 : fC 10 232 = some (0, 10, 0, MRm_sum) := rfl
theorem r_MRm_compared_1 {a : Nat} (hO : qO a 10 = true) (hc : ckS st = true) : Rr X (d + 1) MRm_compared 1 L (.ref a :: st) (Wd mu la ro et) = (Rr X d MRm_sum 0 [.ref a, mkU] [] (Wd mu la ro et)).bind fun q => Rr X (d + 1) MRm_compared 4 L (psh q.1 st) q.2 := R_iv (av := []) d_MRm_compared_1 fc_10_232 hO (ckS_le hc) rfl (Nat.le_of_ble_eq_true rfl) (Nat.le_of_ble_eq_true rfl)
theorem r_MRm_compared_4 {l1 : Value} {x : Nat} : Rr X d MRm_compared 4 [.ref x, l1] st h = Rr X d MRm_compared 5 [.ref x, l1] (.ref x :: st) h := Rr_nx d_MRm_compared_4 rfl
theorem r_MRm_compared_5 {a : Nat} (hO : qO a 10 = true) (hc : ckS st = true) : Rr X (d + 1) MRm_compared 5 L (.ref a :: st) (Wd mu la ro et) = (Rr X d MRm_look 0 [.ref a] [] (Wd mu la ro et)).bind fun q => Rr X (d + 1) MRm_compared 8 L (psh q.1 st) q.2 := R_iv (av := []) d_MRm_compared_5 fc_10_206 hO (ckS_le hc) rfl (Nat.le_of_ble_eq_true rfl) (Nat.le_of_ble_eq_true rfl)
theorem r_MRm_compared_8 {l0 l1 : Value} {x : Int32} : Rr X d MRm_compared 8 [l0, l1] (.int x :: st) h = Rr X d MRm_compared 9 (sL [l0, l1] 1 (.int x)) st h := Rr_nx d_MRm_compared_8 rfl
theorem r_MRm_compared_9 {l1 : Value} {x : Nat} : Rr X d MRm_compared 9 [.ref x, l1] st h = Rr X d MRm_compared 10 [.ref x, l1] (.ref x :: st) h := Rr_nx d_MRm_compared_9 rfl
theorem r_MRm_compared_10 {a : Nat} (hq : qI a 10 19 = true) : Rr X d MRm_compared 10 L (.ref a :: st) (Wd mu la ro et) = Rr X d MRm_compared 13 L (.int (mu a 19) :: st) (Wd mu la ro et) := R_gfI d_MRm_compared_10 ff_10_117 hq
theorem r_MRm_compared_13 {x : Int32} : Rr X d MRm_compared 13 L (.int x :: st) h = if 0 ≤ x then Rr X d MRm_compared 34 L st h else Rr X d MRm_compared 16 L st h := R_if_ge d_MRm_compared_13 (by decide)
theorem r_MRm_compared_16 {l0 : Value} {x : Int32} : Rr X d MRm_compared 16 [l0, .int x] st h = Rr X d MRm_compared 17 [l0, .int x] (.int x :: st) h := Rr_nx d_MRm_compared_16 rfl
theorem r_MRm_compared_17 : Rr X d MRm_compared 17 L st h = Rr X d MRm_compared 19 L (.int (60) :: st) h := Rr_nx d_MRm_compared_17 rfl
theorem r_MRm_compared_19 {x y : Int32} : Rr X d MRm_compared 19 L (.int y :: .int x :: st) h = if x = y then Rr X d MRm_compared 35 L st h else Rr X d MRm_compared 22 L st h := R_ic_eq d_MRm_compared_19 (by decide)
theorem r_MRm_compared_22 {l0 : Value} {x : Int32} : Rr X d MRm_compared 22 [l0, .int x] st h = Rr X d MRm_compared 23 [l0, .int x] (.int x :: st) h := Rr_nx d_MRm_compared_22 rfl
theorem r_MRm_compared_23 : Rr X d MRm_compared 23 L st h = Rr X d MRm_compared 25 L (.int (61) :: st) h := Rr_nx d_MRm_compared_23 rfl
theorem r_MRm_compared_25 {x y : Int32} : Rr X d MRm_compared 25 L (.int y :: .int x :: st) h = if x = y then Rr X d MRm_compared 35 L st h else Rr X d MRm_compared 28 L st h := R_ic_eq d_MRm_compared_25 (by decide)
theorem r_MRm_compared_28 {l0 : Value} {x : Int32} : Rr X d MRm_compared 28 [l0, .int x] st h = Rr X d MRm_compared 29 [l0, .int x] (.int x :: st) h := Rr_nx d_MRm_compared_28 rfl
theorem r_MRm_compared_29 : Rr X d MRm_compared 29 L st h = Rr X d MRm_compared 31 L (.int (62) :: st) h := Rr_nx d_MRm_compared_29 rfl
theorem r_MRm_compared_31 {x y : Int32} : Rr X d MRm_compared 31 L (.int y :: .int x :: st) h = if x = y then Rr X d MRm_compared 35 L st h else Rr X d MRm_compared 34 L st h := R_ic_eq d_MRm_compared_31 (by decide)
theorem r_MRm_compared_34 : Rr X d MRm_compared 34 L [] h = some (none, h) := Rr_rt d_MRm_compared_34 rfl
theorem r_MRm_compared_35 {l1 : Value} {x : Nat} : Rr X d MRm_compared 35 [.ref x, l1] st h = Rr X d MRm_compared 36 [.ref x, l1] (.ref x :: st) h := Rr_nx d_MRm_compared_35 rfl
theorem r_MRm_compared_36 {x : Nat} : Rr X d MRm_compared 36 L (.ref x :: st) h = Rr X d MRm_compared 37 L (.ref x :: .ref x :: st) h := Rr_nx d_MRm_compared_36 rfl
theorem r_MRm_compared_36i {x : Int32} : Rr X d MRm_compared 36 L (.int x :: st) h = Rr X d MRm_compared 37 L (.int x :: .int x :: st) h := Rr_nx d_MRm_compared_36 rfl
theorem r_MRm_compared_37 {a : Nat} (hq : qI a 10 18 = true) : Rr X d MRm_compared 37 L (.ref a :: st) (Wd mu la ro et) = Rr X d MRm_compared 40 L (.int (mu a 18) :: st) (Wd mu la ro et) := R_gfI d_MRm_compared_37 ff_10_120 hq
theorem r_MRm_compared_40 : Rr X d MRm_compared 40 L st h = Rr X d MRm_compared 41 L (.int (1) :: st) h := Rr_nx d_MRm_compared_40 rfl
theorem r_MRm_compared_41 {x y : Int32} : Rr X d MRm_compared 41 L (.int y :: .int x :: st) h = Rr X d MRm_compared 42 L (.int (x + y) :: st) h := Rr_nx d_MRm_compared_41 rfl
theorem r_MRm_compared_42 {a : Nat} {x : Int32} (hq : qI a 10 18 = true) : Rr X d MRm_compared 42 L (.int x :: .ref a :: st) (Wd mu la ro et) = Rr X d MRm_compared 45 L st (Wd (up2 mu a 18 x) la ro et) := R_pfI d_MRm_compared_42 ff_10_120 hq
theorem r_MRm_compared_45 {l1 : Value} {x : Nat} : Rr X d MRm_compared 45 [.ref x, l1] st h = Rr X d MRm_compared 46 [.ref x, l1] (.ref x :: st) h := Rr_nx d_MRm_compared_45 rfl
theorem r_MRm_compared_46 {a : Nat} (hO : qO a 10 = true) (hc : ckS st = true) : Rr X (d + 1) MRm_compared 46 L (.ref a :: st) (Wd mu la ro et) = (Rr X d MRm_sum 0 [.ref a, mkU] [] (Wd mu la ro et)).bind fun q => Rr X (d + 1) MRm_compared 49 L (psh q.1 st) q.2 := R_iv (av := []) d_MRm_compared_46 fc_10_232 hO (ckS_le hc) rfl (Nat.le_of_ble_eq_true rfl) (Nat.le_of_ble_eq_true rfl)
theorem r_MRm_compared_49 {l1 : Value} {x : Nat} : Rr X d MRm_compared 49 [.ref x, l1] st h = Rr X d MRm_compared 50 [.ref x, l1] (.ref x :: st) h := Rr_nx d_MRm_compared_49 rfl
theorem r_MRm_compared_50 {l0 : Value} {x : Int32} : Rr X d MRm_compared 50 [l0, .int x] st h = Rr X d MRm_compared 51 [l0, .int x] (.int x :: st) h := Rr_nx d_MRm_compared_50 rfl
theorem r_MRm_compared_51 : Rr X d MRm_compared 51 L st h = Rr X d MRm_compared 52 L (.int (0) :: st) h := Rr_nx d_MRm_compared_51 rfl
theorem r_MRm_compared_52 {y0 : Int32} {y1 : Int32} {a : Nat} (hO : qO a 10 = true) (hc : ckS st = true) : Rr X (d + 1) MRm_compared 52 L (.int y1 :: .int y0 :: .ref a :: st) (Wd mu la ro et) = (Rr X d MRm_addStep 0 [.ref a, .int y0, .int y1] [] (Wd mu la ro et)).bind fun q => Rr X (d + 1) MRm_compared 55 L (psh q.1 st) q.2 := R_iv (av := [.int y1, .int y0]) d_MRm_compared_52 fc_10_209 hO (ckS_le hc) rfl (Nat.le_of_ble_eq_true rfl) (Nat.le_of_ble_eq_true rfl)
theorem r_MRm_compared_55 : Rr X d MRm_compared 55 L [] h = some (none, h) := Rr_rt d_MRm_compared_55 rfl
theorem d_MRm_both_0 : decode MRm_both.2.2.1 0 = .ok (.aload_n 0, 1) := by decide +kernel
theorem d_MRm_both_1 : decode MRm_both.2.2.1 1 = .ok (.invokevirtual 235, 3) := by decide +kernel
theorem d_MRm_both_4 : decode MRm_both.2.2.1 4 = .ok (.aload_n 0, 1) := by decide +kernel
theorem d_MRm_both_5 : decode MRm_both.2.2.1 5 = .ok (.getfield 117, 3) := by decide +kernel
theorem d_MRm_both_8 : decode MRm_both.2.2.1 8 = .ok (.ifCond .ge 36, 3) := by decide +kernel
theorem d_MRm_both_11 : decode MRm_both.2.2.1 11 = .ok (.aload_n 0, 1) := by decide +kernel
theorem d_MRm_both_12 : decode MRm_both.2.2.1 12 = .ok (.invokevirtual 206, 3) := by decide +kernel
theorem d_MRm_both_15 : decode MRm_both.2.2.1 15 = .ok (.bipush 38, 2) := by decide +kernel
theorem d_MRm_both_17 : decode MRm_both.2.2.1 17 = .ok (.if_icmp .ne 27, 3) := by decide +kernel
theorem d_MRm_both_20 : decode MRm_both.2.2.1 20 = .ok (.aload_n 0, 1) := by decide +kernel
theorem d_MRm_both_21 : decode MRm_both.2.2.1 21 = .ok (.dup, 1) := by decide +kernel
theorem d_MRm_both_22 : decode MRm_both.2.2.1 22 = .ok (.getfield 120, 3) := by decide +kernel
theorem d_MRm_both_25 : decode MRm_both.2.2.1 25 = .ok (.iconst 1, 1) := by decide +kernel
theorem d_MRm_both_26 : decode MRm_both.2.2.1 26 = .ok (.iadd, 1) := by decide +kernel
theorem d_MRm_both_27 : decode MRm_both.2.2.1 27 = .ok (.putfield 120, 3) := by decide +kernel
theorem d_MRm_both_30 : decode MRm_both.2.2.1 30 = .ok (.aload_n 0, 1) := by decide +kernel
theorem d_MRm_both_31 : decode MRm_both.2.2.1 31 = .ok (.invokevirtual 235, 3) := by decide +kernel
theorem d_MRm_both_34 : decode MRm_both.2.2.1 34 = .ok (.aload_n 0, 1) := by decide +kernel
theorem d_MRm_both_35 : decode MRm_both.2.2.1 35 = .ok (.bipush 38, 2) := by decide +kernel
theorem d_MRm_both_37 : decode MRm_both.2.2.1 37 = .ok (.iconst 0, 1) := by decide +kernel
theorem d_MRm_both_38 : decode MRm_both.2.2.1 38 = .ok (.invokevirtual 209, 3) := by decide +kernel
theorem d_MRm_both_41 : decode MRm_both.2.2.1 41 = .ok (.goto (-37), 3) := by decide +kernel
theorem d_MRm_both_44 : decode MRm_both.2.2.1 44 = .ok (.return_, 1) := by decide +kernel
theorem r_MRm_both_0 {x : Nat} : Rr X d MRm_both 0 [.ref x] st h = Rr X d MRm_both 1 [.ref x] (.ref x :: st) h := Rr_nx d_MRm_both_0 rfl
theorem fc_10_235 : fC 10 235 = some (0, 10, 0, MRm_compared) := rfl
theorem r_MRm_both_1 {a : Nat} (hO : qO a 10 = true) (hc : ckS st = true) : Rr X (d + 1) MRm_both 1 L (.ref a :: st) (Wd mu la ro et) = (Rr X d MRm_compared 0 [.ref a, mkU] [] (Wd mu la ro et)).bind fun q => Rr X (d + 1) MRm_both 4 L (psh q.1 st) q.2 := R_iv (av := []) d_MRm_both_1 fc_10_235 hO (ckS_le hc) rfl (Nat.le_of_ble_eq_true rfl) (Nat.le_of_ble_eq_true rfl)
theorem r_MRm_both_4 {x : Nat} : Rr X d MRm_both 4 [.ref x] st h = Rr X d MRm_both 5 [.ref x] (.ref x :: st) h := Rr_nx d_MRm_both_4 rfl
theorem r_MRm_both_5 {a : Nat} (hq : qI a 10 19 = true) : Rr X d MRm_both 5 L (.ref a :: st) (Wd mu la ro et) = Rr X d MRm_both 8 L (.int (mu a 19) :: st) (Wd mu la ro et) := R_gfI d_MRm_both_5 ff_10_117 hq
theorem r_MRm_both_8 {x : Int32} : Rr X d MRm_both 8 L (.int x :: st) h = if 0 ≤ x then Rr X d MRm_both 44 L st h else Rr X d MRm_both 11 L st h := R_if_ge d_MRm_both_8 (by decide)
theorem r_MRm_both_11 {x : Nat} : Rr X d MRm_both 11 [.ref x] st h = Rr X d MRm_both 12 [.ref x] (.ref x :: st) h := Rr_nx d_MRm_both_11 rfl
theorem r_MRm_both_12 {a : Nat} (hO : qO a 10 = true) (hc : ckS st = true) : Rr X (d + 1) MRm_both 12 L (.ref a :: st) (Wd mu la ro et) = (Rr X d MRm_look 0 [.ref a] [] (Wd mu la ro et)).bind fun q => Rr X (d + 1) MRm_both 15 L (psh q.1 st) q.2 := R_iv (av := []) d_MRm_both_12 fc_10_206 hO (ckS_le hc) rfl (Nat.le_of_ble_eq_true rfl) (Nat.le_of_ble_eq_true rfl)
theorem r_MRm_both_15 : Rr X d MRm_both 15 L st h = Rr X d MRm_both 17 L (.int (38) :: st) h := Rr_nx d_MRm_both_15 rfl
theorem r_MRm_both_17 {x y : Int32} : Rr X d MRm_both 17 L (.int y :: .int x :: st) h = if ¬ x = y then Rr X d MRm_both 44 L st h else Rr X d MRm_both 20 L st h := R_ic_ne d_MRm_both_17 (by decide)
theorem r_MRm_both_20 {x : Nat} : Rr X d MRm_both 20 [.ref x] st h = Rr X d MRm_both 21 [.ref x] (.ref x :: st) h := Rr_nx d_MRm_both_20 rfl
theorem r_MRm_both_21 {x : Nat} : Rr X d MRm_both 21 L (.ref x :: st) h = Rr X d MRm_both 22 L (.ref x :: .ref x :: st) h := Rr_nx d_MRm_both_21 rfl
theorem r_MRm_both_21i {x : Int32} : Rr X d MRm_both 21 L (.int x :: st) h = Rr X d MRm_both 22 L (.int x :: .int x :: st) h := Rr_nx d_MRm_both_21 rfl
theorem r_MRm_both_22 {a : Nat} (hq : qI a 10 18 = true) : Rr X d MRm_both 22 L (.ref a :: st) (Wd mu la ro et) = Rr X d MRm_both 25 L (.int (mu a 18) :: st) (Wd mu la ro et) := R_gfI d_MRm_both_22 ff_10_120 hq
theorem r_MRm_both_25 : Rr X d MRm_both 25 L st h = Rr X d MRm_both 26 L (.int (1) :: st) h := Rr_nx d_MRm_both_25 rfl
theorem r_MRm_both_26 {x y : Int32} : Rr X d MRm_both 26 L (.int y :: .int x :: st) h = Rr X d MRm_both 27 L (.int (x + y) :: st) h := Rr_nx d_MRm_both_26 rfl
theorem r_MRm_both_27 {a : Nat} {x : Int32} (hq : qI a 10 18 = true) : Rr X d MRm_both 27 L (.int x :: .ref a :: st) (Wd mu la ro et) = Rr X d MRm_both 30 L st (Wd (up2 mu a 18 x) la ro et) := R_pfI d_MRm_both_27 ff_10_120 hq
theorem r_MRm_both_30 {x : Nat} : Rr X d MRm_both 30 [.ref x] st h = Rr X d MRm_both 31 [.ref x] (.ref x :: st) h := Rr_nx d_MRm_both_30 rfl
theorem r_MRm_both_31 {a : Nat} (hO : qO a 10 = true) (hc : ckS st = true) : Rr X (d + 1) MRm_both 31 L (.ref a :: st) (Wd mu la ro et) = (Rr X d MRm_compared 0 [.ref a, mkU] [] (Wd mu la ro et)).bind fun q => Rr X (d + 1) MRm_both 34 L (psh q.1 st) q.2 := R_iv (av := []) d_MRm_both_31 fc_10_235 hO (ckS_le hc) rfl (Nat.le_of_ble_eq_true rfl) (Nat.le_of_ble_eq_true rfl)
theorem r_MRm_both_34 {x : Nat} : Rr X d MRm_both 34 [.ref x] st h = Rr X d MRm_both 35 [.ref x] (.ref x :: st) h := Rr_nx d_MRm_both_34 rfl
theorem r_MRm_both_35 : Rr X d MRm_both 35 L st h = Rr X d MRm_both 37 L (.int (38) :: st) h := Rr_nx d_MRm_both_35 rfl
theorem r_MRm_both_37 : Rr X d MRm_both 37 L st h = Rr X d MRm_both 38 L (.int (0) :: st) h := Rr_nx d_MRm_both_37 rfl
theorem r_MRm_both_38 {y0 : Int32} {y1 : Int32} {a : Nat} (hO : qO a 10 = true) (hc : ckS st = true) : Rr X (d + 1) MRm_both 38 L (.int y1 :: .int y0 :: .ref a :: st) (Wd mu la ro et) = (Rr X d MRm_addStep 0 [.ref a, .int y0, .int y1] [] (Wd mu la ro et)).bind fun q => Rr X (d + 1) MRm_both 41 L (psh q.1 st) q.2 := R_iv (av := [.int y1, .int y0]) d_MRm_both_38 fc_10_209 hO (ckS_le hc) rfl (Nat.le_of_ble_eq_true rfl) (Nat.le_of_ble_eq_true rfl)
theorem r_MRm_both_41 : Rr X d MRm_both 41 L st h = Rr X d MRm_both 4 L st h := R_goto d_MRm_both_41 (by decide)
theorem r_MRm_both_44 : Rr X d MRm_both 44 L [] h = some (none, h) := Rr_rt d_MRm_both_44 rfl
theorem d_MRm_either_0 : decode MRm_either.2.2.1 0 = .ok (.aload_n 0, 1) := by decide +kernel
theorem d_MRm_either_1 : decode MRm_either.2.2.1 1 = .ok (.invokevirtual 238, 3) := by decide +kernel
theorem d_MRm_either_4 : decode MRm_either.2.2.1 4 = .ok (.aload_n 0, 1) := by decide +kernel
theorem d_MRm_either_5 : decode MRm_either.2.2.1 5 = .ok (.getfield 117, 3) := by decide +kernel
theorem d_MRm_either_8 : decode MRm_either.2.2.1 8 = .ok (.ifCond .ge 36, 3) := by decide +kernel
theorem d_MRm_either_11 : decode MRm_either.2.2.1 11 = .ok (.aload_n 0, 1) := by decide +kernel
theorem d_MRm_either_12 : decode MRm_either.2.2.1 12 = .ok (.invokevirtual 206, 3) := by decide +kernel
theorem d_MRm_either_15 : decode MRm_either.2.2.1 15 = .ok (.bipush 124, 2) := by decide +kernel
theorem d_MRm_either_17 : decode MRm_either.2.2.1 17 = .ok (.if_icmp .ne 27, 3) := by decide +kernel
theorem d_MRm_either_20 : decode MRm_either.2.2.1 20 = .ok (.aload_n 0, 1) := by decide +kernel
theorem d_MRm_either_21 : decode MRm_either.2.2.1 21 = .ok (.dup, 1) := by decide +kernel
theorem d_MRm_either_22 : decode MRm_either.2.2.1 22 = .ok (.getfield 120, 3) := by decide +kernel
theorem d_MRm_either_25 : decode MRm_either.2.2.1 25 = .ok (.iconst 1, 1) := by decide +kernel
theorem d_MRm_either_26 : decode MRm_either.2.2.1 26 = .ok (.iadd, 1) := by decide +kernel
theorem d_MRm_either_27 : decode MRm_either.2.2.1 27 = .ok (.putfield 120, 3) := by decide +kernel
theorem d_MRm_either_30 : decode MRm_either.2.2.1 30 = .ok (.aload_n 0, 1) := by decide +kernel
theorem d_MRm_either_31 : decode MRm_either.2.2.1 31 = .ok (.invokevirtual 238, 3) := by decide +kernel
theorem d_MRm_either_34 : decode MRm_either.2.2.1 34 = .ok (.aload_n 0, 1) := by decide +kernel
theorem d_MRm_either_35 : decode MRm_either.2.2.1 35 = .ok (.bipush 124, 2) := by decide +kernel
theorem d_MRm_either_37 : decode MRm_either.2.2.1 37 = .ok (.iconst 0, 1) := by decide +kernel
theorem d_MRm_either_38 : decode MRm_either.2.2.1 38 = .ok (.invokevirtual 209, 3) := by decide +kernel
theorem d_MRm_either_41 : decode MRm_either.2.2.1 41 = .ok (.goto (-37), 3) := by decide +kernel
theorem d_MRm_either_44 : decode MRm_either.2.2.1 44 = .ok (.return_, 1) := by decide +kernel
theorem r_MRm_either_0 {x : Nat} : Rr X d MRm_either 0 [.ref x] st h = Rr X d MRm_either 1 [.ref x] (.ref x :: st) h := Rr_nx d_MRm_either_0 rfl
theorem fc_10_238 : fC 10 238 = some (0, 10, 0, MRm_both) := rfl
theorem r_MRm_either_1 {a : Nat} (hO : qO a 10 = true) (hc : ckS st = true) : Rr X (d + 1) MRm_either 1 L (.ref a :: st) (Wd mu la ro et) = (Rr X d MRm_both 0 [.ref a] [] (Wd mu la ro et)).bind fun q => Rr X (d + 1) MRm_either 4 L (psh q.1 st) q.2 := R_iv (av := []) d_MRm_either_1 fc_10_238 hO (ckS_le hc) rfl (Nat.le_of_ble_eq_true rfl) (Nat.le_of_ble_eq_true rfl)
theorem r_MRm_either_4 {x : Nat} : Rr X d MRm_either 4 [.ref x] st h = Rr X d MRm_either 5 [.ref x] (.ref x :: st) h := Rr_nx d_MRm_either_4 rfl
theorem r_MRm_either_5 {a : Nat} (hq : qI a 10 19 = true) : Rr X d MRm_either 5 L (.ref a :: st) (Wd mu la ro et) = Rr X d MRm_either 8 L (.int (mu a 19) :: st) (Wd mu la ro et) := R_gfI d_MRm_either_5 ff_10_117 hq
theorem r_MRm_either_8 {x : Int32} : Rr X d MRm_either 8 L (.int x :: st) h = if 0 ≤ x then Rr X d MRm_either 44 L st h else Rr X d MRm_either 11 L st h := R_if_ge d_MRm_either_8 (by decide)
theorem r_MRm_either_11 {x : Nat} : Rr X d MRm_either 11 [.ref x] st h = Rr X d MRm_either 12 [.ref x] (.ref x :: st) h := Rr_nx d_MRm_either_11 rfl
theorem r_MRm_either_12 {a : Nat} (hO : qO a 10 = true) (hc : ckS st = true) : Rr X (d + 1) MRm_either 12 L (.ref a :: st) (Wd mu la ro et) = (Rr X d MRm_look 0 [.ref a] [] (Wd mu la ro et)).bind fun q => Rr X (d + 1) MRm_either 15 L (psh q.1 st) q.2 := R_iv (av := []) d_MRm_either_12 fc_10_206 hO (ckS_le hc) rfl (Nat.le_of_ble_eq_true rfl) (Nat.le_of_ble_eq_true rfl)
theorem r_MRm_either_15 : Rr X d MRm_either 15 L st h = Rr X d MRm_either 17 L (.int (124) :: st) h := Rr_nx d_MRm_either_15 rfl
theorem r_MRm_either_17 {x y : Int32} : Rr X d MRm_either 17 L (.int y :: .int x :: st) h = if ¬ x = y then Rr X d MRm_either 44 L st h else Rr X d MRm_either 20 L st h := R_ic_ne d_MRm_either_17 (by decide)
theorem r_MRm_either_20 {x : Nat} : Rr X d MRm_either 20 [.ref x] st h = Rr X d MRm_either 21 [.ref x] (.ref x :: st) h := Rr_nx d_MRm_either_20 rfl
theorem r_MRm_either_21 {x : Nat} : Rr X d MRm_either 21 L (.ref x :: st) h = Rr X d MRm_either 22 L (.ref x :: .ref x :: st) h := Rr_nx d_MRm_either_21 rfl
theorem r_MRm_either_21i {x : Int32} : Rr X d MRm_either 21 L (.int x :: st) h = Rr X d MRm_either 22 L (.int x :: .int x :: st) h := Rr_nx d_MRm_either_21 rfl
theorem r_MRm_either_22 {a : Nat} (hq : qI a 10 18 = true) : Rr X d MRm_either 22 L (.ref a :: st) (Wd mu la ro et) = Rr X d MRm_either 25 L (.int (mu a 18) :: st) (Wd mu la ro et) := R_gfI d_MRm_either_22 ff_10_120 hq
theorem r_MRm_either_25 : Rr X d MRm_either 25 L st h = Rr X d MRm_either 26 L (.int (1) :: st) h := Rr_nx d_MRm_either_25 rfl
theorem r_MRm_either_26 {x y : Int32} : Rr X d MRm_either 26 L (.int y :: .int x :: st) h = Rr X d MRm_either 27 L (.int (x + y) :: st) h := Rr_nx d_MRm_either_26 rfl
theorem r_MRm_either_27 {a : Nat} {x : Int32} (hq : qI a 10 18 = true) : Rr X d MRm_either 27 L (.int x :: .ref a :: st) (Wd mu la ro et) = Rr X d MRm_either 30 L st (Wd (up2 mu a 18 x) la ro et) := R_pfI d_MRm_either_27 ff_10_120 hq
theorem r_MRm_either_30 {x : Nat} : Rr X d MRm_either 30 [.ref x] st h = Rr X d MRm_either 31 [.ref x] (.ref x :: st) h := Rr_nx d_MRm_either_30 rfl
theorem r_MRm_either_31 {a : Nat} (hO : qO a 10 = true) (hc : ckS st = true) : Rr X (d + 1) MRm_either 31 L (.ref a :: st) (Wd mu la ro et) = (Rr X d MRm_both 0 [.ref a] [] (Wd mu la ro et)).bind fun q => Rr X (d + 1) MRm_either 34 L (psh q.1 st) q.2 := R_iv (av := []) d_MRm_either_31 fc_10_238 hO (ckS_le hc) rfl (Nat.le_of_ble_eq_true rfl) (Nat.le_of_ble_eq_true rfl)
theorem r_MRm_either_34 {x : Nat} : Rr X d MRm_either 34 [.ref x] st h = Rr X d MRm_either 35 [.ref x] (.ref x :: st) h := Rr_nx d_MRm_either_34 rfl
theorem r_MRm_either_35 : Rr X d MRm_either 35 L st h = Rr X d MRm_either 37 L (.int (124) :: st) h := Rr_nx d_MRm_either_35 rfl
theorem r_MRm_either_37 : Rr X d MRm_either 37 L st h = Rr X d MRm_either 38 L (.int (0) :: st) h := Rr_nx d_MRm_either_37 rfl
theorem r_MRm_either_38 {y0 : Int32} {y1 : Int32} {a : Nat} (hO : qO a 10 = true) (hc : ckS st = true) : Rr X (d + 1) MRm_either 38 L (.int y1 :: .int y0 :: .ref a :: st) (Wd mu la ro et) = (Rr X d MRm_addStep 0 [.ref a, .int y0, .int y1] [] (Wd mu la ro et)).bind fun q => Rr X (d + 1) MRm_either 41 L (psh q.1 st) q.2 := R_iv (av := [.int y1, .int y0]) d_MRm_either_38 fc_10_209 hO (ckS_le hc) rfl (Nat.le_of_ble_eq_true rfl) (Nat.le_of_ble_eq_true rfl)
theorem r_MRm_either_41 : Rr X d MRm_either 41 L st h = Rr X d MRm_either 4 L st h := R_goto d_MRm_either_41 (by decide)
theorem r_MRm_either_44 : Rr X d MRm_either 44 L [] h = some (none, h) := Rr_rt d_MRm_either_44 rfl
theorem d_MRm_line_0 : decode MRm_line.2.2.1 0 = .ok (.sipush 244, 3) := by decide +kernel
theorem d_MRm_line_3 : decode MRm_line.2.2.1 3 = .ok (.aload_n 0, 1) := by decide +kernel
theorem d_MRm_line_4 : decode MRm_line.2.2.1 4 = .ok (.getfield 47, 3) := by decide +kernel
theorem d_MRm_line_7 : decode MRm_line.2.2.1 7 = .ok (.iconst 4, 1) := by decide +kernel
theorem d_MRm_line_8 : decode MRm_line.2.2.1 8 = .ok (.iaload, 1) := by decide +kernel
theorem d_MRm_line_9 : decode MRm_line.2.2.1 9 = .ok (.iadd, 1) := by decide +kernel
theorem d_MRm_line_10 : decode MRm_line.2.2.1 10 = .ok (.istore_n 1, 1) := by decide +kernel
theorem d_MRm_line_11 : decode MRm_line.2.2.1 11 = .ok (.aload_n 0, 1) := by decide +kernel
theorem d_MRm_line_12 : decode MRm_line.2.2.1 12 = .ok (.getfield 50, 3) := by decide +kernel
theorem d_MRm_line_15 : decode MRm_line.2.2.1 15 = .ok (.iload_n 1, 1) := by decide +kernel
theorem d_MRm_line_16 : decode MRm_line.2.2.1 16 = .ok (.aload_n 0, 1) := by decide +kernel
theorem d_MRm_line_17 : decode MRm_line.2.2.1 17 = .ok (.getfield 197, 3) := by decide +kernel
theorem d_MRm_line_20 : decode MRm_line.2.2.1 20 = .ok (.i2s, 1) := by decide +kernel
theorem d_MRm_line_21 : decode MRm_line.2.2.1 21 = .ok (.sastore, 1) := by decide +kernel
theorem d_MRm_line_22 : decode MRm_line.2.2.1 22 = .ok (.aload_n 0, 1) := by decide +kernel
theorem d_MRm_line_23 : decode MRm_line.2.2.1 23 = .ok (.invokevirtual 223, 3) := by decide +kernel
theorem d_MRm_line_26 : decode MRm_line.2.2.1 26 = .ok (.aload_n 0, 1) := by decide +kernel
theorem d_MRm_line_27 : decode MRm_line.2.2.1 27 = .ok (.getfield 117, 3) := by decide +kernel
theorem d_MRm_line_30 : decode MRm_line.2.2.1 30 = .ok (.ifCond .ge 37, 3) := by decide +kernel
theorem d_MRm_line_33 : decode MRm_line.2.2.1 33 = .ok (.aload_n 0, 1) := by decide +kernel
theorem d_MRm_line_34 : decode MRm_line.2.2.1 34 = .ok (.invokevirtual 206, 3) := by decide +kernel
theorem d_MRm_line_37 : decode MRm_line.2.2.1 37 = .ok (.bipush 63, 2) := by decide +kernel
theorem d_MRm_line_39 : decode MRm_line.2.2.1 39 = .ok (.if_icmp .ne 28, 3) := by decide +kernel
theorem d_MRm_line_42 : decode MRm_line.2.2.1 42 = .ok (.aload_n 0, 1) := by decide +kernel
theorem d_MRm_line_43 : decode MRm_line.2.2.1 43 = .ok (.dup, 1) := by decide +kernel
theorem d_MRm_line_44 : decode MRm_line.2.2.1 44 = .ok (.getfield 120, 3) := by decide +kernel
theorem d_MRm_line_47 : decode MRm_line.2.2.1 47 = .ok (.iconst 1, 1) := by decide +kernel
theorem d_MRm_line_48 : decode MRm_line.2.2.1 48 = .ok (.iadd, 1) := by decide +kernel
theorem d_MRm_line_49 : decode MRm_line.2.2.1 49 = .ok (.putfield 120, 3) := by decide +kernel
theorem d_MRm_line_52 : decode MRm_line.2.2.1 52 = .ok (.aload_n 0, 1) := by decide +kernel
theorem d_MRm_line_53 : decode MRm_line.2.2.1 53 = .ok (.getfield 50, 3) := by decide +kernel
theorem d_MRm_line_56 : decode MRm_line.2.2.1 56 = .ok (.iload_n 1, 1) := by decide +kernel
theorem d_MRm_line_57 : decode MRm_line.2.2.1 57 = .ok (.aload_n 0, 1) := by decide +kernel
theorem d_MRm_line_58 : decode MRm_line.2.2.1 58 = .ok (.getfield 197, 3) := by decide +kernel
theorem d_MRm_line_61 : decode MRm_line.2.2.1 61 = .ok (.i2s, 1) := by decide +kernel
theorem d_MRm_line_62 : decode MRm_line.2.2.1 62 = .ok (.sastore, 1) := by decide +kernel
theorem d_MRm_line_63 : decode MRm_line.2.2.1 63 = .ok (.aload_n 0, 1) := by decide +kernel
theorem d_MRm_line_64 : decode MRm_line.2.2.1 64 = .ok (.invokevirtual 223, 3) := by decide +kernel
theorem d_MRm_line_67 : decode MRm_line.2.2.1 67 = .ok (.aload_n 0, 1) := by decide +kernel
theorem d_MRm_line_68 : decode MRm_line.2.2.1 68 = .ok (.getfield 54, 3) := by decide +kernel
theorem d_MRm_line_71 : decode MRm_line.2.2.1 71 = .ok (.iload_n 1, 1) := by decide +kernel
theorem d_MRm_line_72 : decode MRm_line.2.2.1 72 = .ok (.aload_n 0, 1) := by decide +kernel
theorem d_MRm_line_73 : decode MRm_line.2.2.1 73 = .ok (.getfield 197, 3) := by decide +kernel
theorem d_MRm_line_76 : decode MRm_line.2.2.1 76 = .ok (.i2s, 1) := by decide +kernel
theorem d_MRm_line_77 : decode MRm_line.2.2.1 77 = .ok (.sastore, 1) := by decide +kernel
theorem d_MRm_line_78 : decode MRm_line.2.2.1 78 = .ok (.aload_n 0, 1) := by decide +kernel
theorem d_MRm_line_79 : decode MRm_line.2.2.1 79 = .ok (.getfield 47, 3) := by decide +kernel
theorem d_MRm_line_82 : decode MRm_line.2.2.1 82 = .ok (.iconst 4, 1) := by decide +kernel
theorem d_MRm_line_83 : decode MRm_line.2.2.1 83 = .ok (.dup2, 1) := by decide +kernel
theorem d_MRm_line_84 : decode MRm_line.2.2.1 84 = .ok (.iaload, 1) := by decide +kernel
theorem d_MRm_line_85 : decode MRm_line.2.2.1 85 = .ok (.iconst 1, 1) := by decide +kernel
theorem d_MRm_line_86 : decode MRm_line.2.2.1 86 = .ok (.iadd, 1) := by decide +kernel
theorem d_MRm_line_87 : decode MRm_line.2.2.1 87 = .ok (.iastore, 1) := by decide +kernel
theorem d_MRm_line_88 : decode MRm_line.2.2.1 88 = .ok (.return_, 1) := by decide +kernel
theorem r_MRm_line_0 : Rr X d MRm_line 0 L st h = Rr X d MRm_line 3 L (.int (244) :: st) h := Rr_nx d_MRm_line_0 rfl
theorem r_MRm_line_3 {l1 : Value} {x : Nat} : Rr X d MRm_line 3 [.ref x, l1] st h = Rr X d MRm_line 4 [.ref x, l1] (.ref x :: st) h := Rr_nx d_MRm_line_3 rfl
theorem ff_10_47 : fF 10 47 = some (10, 24, 1, 1) := rfl
theorem r_MRm_line_4 {a : Nat} (hq : (qR a 10 24).isSome = true) : Rr X d MRm_line 4 L (.ref a :: st) (Wd mu la ro et) = Rr X d MRm_line 7 L (.ref (qRd a 10 24) :: st) (Wd mu la ro et) := R_gfR d_MRm_line_4 ff_10_47 hq
theorem r_MRm_line_7 : Rr X d MRm_line 7 L st h = Rr X d MRm_line 8 L (.int (4) :: st) h := Rr_nx d_MRm_line_7 rfl
theorem r_MRm_line_8 {a : Nat} {j : Int32} (hq : (qA a 0).isSome = true) : Rr X d MRm_line 8 L (.int j :: .ref a :: st) (Wd mu la ro et) = if j < 0 ∨ qAd a 0 ≤ j.toNatClampNeg then none else Rr X d MRm_line 9 L (.int (mu a j.toNatClampNeg) :: st) (Wd mu la ro et) := R_ialW d_MRm_line_8 hq
theorem r_MRm_line_9 {x y : Int32} : Rr X d MRm_line 9 L (.int y :: .int x :: st) h = Rr X d MRm_line 10 L (.int (x + y) :: st) h := Rr_nx d_MRm_line_9 rfl
theorem r_MRm_line_10 {l0 l1 : Value} {x : Int32} : Rr X d MRm_line 10 [l0, l1] (.int x :: st) h = Rr X d MRm_line 11 (sL [l0, l1] 1 (.int x)) st h := Rr_nx d_MRm_line_10 rfl
theorem r_MRm_line_11 {l1 : Value} {x : Nat} : Rr X d MRm_line 11 [.ref x, l1] st h = Rr X d MRm_line 12 [.ref x, l1] (.ref x :: st) h := Rr_nx d_MRm_line_11 rfl
theorem ff_10_50 : fF 10 50 = some (10, 25, 1, 1) := rfl
theorem r_MRm_line_12 {a : Nat} (hq : (qR a 10 25).isSome = true) : Rr X d MRm_line 12 L (.ref a :: st) (Wd mu la ro et) = Rr X d MRm_line 15 L (.ref (qRd a 10 25) :: st) (Wd mu la ro et) := R_gfR d_MRm_line_12 ff_10_50 hq
theorem r_MRm_line_15 {l0 : Value} {x : Int32} : Rr X d MRm_line 15 [l0, .int x] st h = Rr X d MRm_line 16 [l0, .int x] (.int x :: st) h := Rr_nx d_MRm_line_15 rfl
theorem r_MRm_line_16 {l1 : Value} {x : Nat} : Rr X d MRm_line 16 [.ref x, l1] st h = Rr X d MRm_line 17 [.ref x, l1] (.ref x :: st) h := Rr_nx d_MRm_line_16 rfl
theorem r_MRm_line_17 {a : Nat} (hq : qI a 10 21 = true) : Rr X d MRm_line 17 L (.ref a :: st) (Wd mu la ro et) = Rr X d MRm_line 20 L (.int (mu a 21) :: st) (Wd mu la ro et) := R_gfI d_MRm_line_17 ff_10_197 hq
theorem r_MRm_line_20 {x : Int32} : Rr X d MRm_line 20 L (.int x :: st) h = Rr X d MRm_line 21 L (.int (x.toInt16.toInt32) :: st) h := Rr_nx d_MRm_line_20 rfl
theorem r_MRm_line_21 {a : Nat} {j x : Int32} (hq : (qA a 3).isSome = true) : Rr X d MRm_line 21 L (.int x :: .int j :: .ref a :: st) (Wd mu la ro et) = if j < 0 ∨ qAd a 3 ≤ j.toNatClampNeg then none else Rr X d MRm_line 22 L st (Wd (up2 mu a j.toNatClampNeg (x.toInt16.toInt32)) la ro et) := R_sasW d_MRm_line_21 hq
theorem r_MRm_line_22 {l1 : Value} {x : Nat} : Rr X d MRm_line 22 [.ref x, l1] st h = Rr X d MRm_line 23 [.ref x, l1] (.ref x :: st) h := Rr_nx d_MRm_line_22 rfl
theorem r_MRm_line_23 {a : Nat} (hO : qO a 10 = true) (hc : ckS st = true) : Rr X (d + 1) MRm_line 23 L (.ref a :: st) (Wd mu la ro et) = (Rr X d MRm_either 0 [.ref a] [] (Wd mu la ro et)).bind fun q => Rr X (d + 1) MRm_line 26 L (psh q.1 st) q.2 := R_iv (av := []) d_MRm_line_23 fc_10_223 hO (ckS_le hc) rfl (Nat.le_of_ble_eq_true rfl) (Nat.le_of_ble_eq_true rfl)
theorem r_MRm_line_26 {l1 : Value} {x : Nat} : Rr X d MRm_line 26 [.ref x, l1] st h = Rr X d MRm_line 27 [.ref x, l1] (.ref x :: st) h := Rr_nx d_MRm_line_26 rfl
theorem r_MRm_line_27 {a : Nat} (hq : qI a 10 19 = true) : Rr X d MRm_line 27 L (.ref a :: st) (Wd mu la ro et) = Rr X d MRm_line 30 L (.int (mu a 19) :: st) (Wd mu la ro et) := R_gfI d_MRm_line_27 ff_10_117 hq
theorem r_MRm_line_30 {x : Int32} : Rr X d MRm_line 30 L (.int x :: st) h = if 0 ≤ x then Rr X d MRm_line 67 L st h else Rr X d MRm_line 33 L st h := R_if_ge d_MRm_line_30 (by decide)
theorem r_MRm_line_33 {l1 : Value} {x : Nat} : Rr X d MRm_line 33 [.ref x, l1] st h = Rr X d MRm_line 34 [.ref x, l1] (.ref x :: st) h := Rr_nx d_MRm_line_33 rfl
theorem r_MRm_line_34 {a : Nat} (hO : qO a 10 = true) (hc : ckS st = true) : Rr X (d + 1) MRm_line 34 L (.ref a :: st) (Wd mu la ro et) = (Rr X d MRm_look 0 [.ref a] [] (Wd mu la ro et)).bind fun q => Rr X (d + 1) MRm_line 37 L (psh q.1 st) q.2 := R_iv (av := []) d_MRm_line_34 fc_10_206 hO (ckS_le hc) rfl (Nat.le_of_ble_eq_true rfl) (Nat.le_of_ble_eq_true rfl)
theorem r_MRm_line_37 : Rr X d MRm_line 37 L st h = Rr X d MRm_line 39 L (.int (63) :: st) h := Rr_nx d_MRm_line_37 rfl
theorem r_MRm_line_39 {x y : Int32} : Rr X d MRm_line 39 L (.int y :: .int x :: st) h = if ¬ x = y then Rr X d MRm_line 67 L st h else Rr X d MRm_line 42 L st h := R_ic_ne d_MRm_line_39 (by decide)
theorem r_MRm_line_42 {l1 : Value} {x : Nat} : Rr X d MRm_line 42 [.ref x, l1] st h = Rr X d MRm_line 43 [.ref x, l1] (.ref x :: st) h := Rr_nx d_MRm_line_42 rfl
theorem r_MRm_line_43 {x : Nat} : Rr X d MRm_line 43 L (.ref x :: st) h = Rr X d MRm_line 44 L (.ref x :: .ref x :: st) h := Rr_nx d_MRm_line_43 rfl
theorem r_MRm_line_43i {x : Int32} : Rr X d MRm_line 43 L (.int x :: st) h = Rr X d MRm_line 44 L (.int x :: .int x :: st) h := Rr_nx d_MRm_line_43 rfl
theorem r_MRm_line_44 {a : Nat} (hq : qI a 10 18 = true) : Rr X d MRm_line 44 L (.ref a :: st) (Wd mu la ro et) = Rr X d MRm_line 47 L (.int (mu a 18) :: st) (Wd mu la ro et) := R_gfI d_MRm_line_44 ff_10_120 hq
theorem r_MRm_line_47 : Rr X d MRm_line 47 L st h = Rr X d MRm_line 48 L (.int (1) :: st) h := Rr_nx d_MRm_line_47 rfl
theorem r_MRm_line_48 {x y : Int32} : Rr X d MRm_line 48 L (.int y :: .int x :: st) h = Rr X d MRm_line 49 L (.int (x + y) :: st) h := Rr_nx d_MRm_line_48 rfl
theorem r_MRm_line_49 {a : Nat} {x : Int32} (hq : qI a 10 18 = true) : Rr X d MRm_line 49 L (.int x :: .ref a :: st) (Wd mu la ro et) = Rr X d MRm_line 52 L st (Wd (up2 mu a 18 x) la ro et) := R_pfI d_MRm_line_49 ff_10_120 hq
theorem r_MRm_line_52 {l1 : Value} {x : Nat} : Rr X d MRm_line 52 [.ref x, l1] st h = Rr X d MRm_line 53 [.ref x, l1] (.ref x :: st) h := Rr_nx d_MRm_line_52 rfl
theorem r_MRm_line_53 {a : Nat} (hq : (qR a 10 25).isSome = true) : Rr X d MRm_line 53 L (.ref a :: st) (Wd mu la ro et) = Rr X d MRm_line 56 L (.ref (qRd a 10 25) :: st) (Wd mu la ro et) := R_gfR d_MRm_line_53 ff_10_50 hq
theorem r_MRm_line_56 {l0 : Value} {x : Int32} : Rr X d MRm_line 56 [l0, .int x] st h = Rr X d MRm_line 57 [l0, .int x] (.int x :: st) h := Rr_nx d_MRm_line_56 rfl
theorem r_MRm_line_57 {l1 : Value} {x : Nat} : Rr X d MRm_line 57 [.ref x, l1] st h = Rr X d MRm_line 58 [.ref x, l1] (.ref x :: st) h := Rr_nx d_MRm_line_57 rfl
theorem r_MRm_line_58 {a : Nat} (hq : qI a 10 21 = true) : Rr X d MRm_line 58 L (.ref a :: st) (Wd mu la ro et) = Rr X d MRm_line 61 L (.int (mu a 21) :: st) (Wd mu la ro et) := R_gfI d_MRm_line_58 ff_10_197 hq
theorem r_MRm_line_61 {x : Int32} : Rr X d MRm_line 61 L (.int x :: st) h = Rr X d MRm_line 62 L (.int (x.toInt16.toInt32) :: st) h := Rr_nx d_MRm_line_61 rfl
theorem r_MRm_line_62 {a : Nat} {j x : Int32} (hq : (qA a 3).isSome = true) : Rr X d MRm_line 62 L (.int x :: .int j :: .ref a :: st) (Wd mu la ro et) = if j < 0 ∨ qAd a 3 ≤ j.toNatClampNeg then none else Rr X d MRm_line 63 L st (Wd (up2 mu a j.toNatClampNeg (x.toInt16.toInt32)) la ro et) := R_sasW d_MRm_line_62 hq
theorem r_MRm_line_63 {l1 : Value} {x : Nat} : Rr X d MRm_line 63 [.ref x, l1] st h = Rr X d MRm_line 64 [.ref x, l1] (.ref x :: st) h := Rr_nx d_MRm_line_63 rfl
theorem r_MRm_line_64 {a : Nat} (hO : qO a 10 = true) (hc : ckS st = true) : Rr X (d + 1) MRm_line 64 L (.ref a :: st) (Wd mu la ro et) = (Rr X d MRm_either 0 [.ref a] [] (Wd mu la ro et)).bind fun q => Rr X (d + 1) MRm_line 67 L (psh q.1 st) q.2 := R_iv (av := []) d_MRm_line_64 fc_10_223 hO (ckS_le hc) rfl (Nat.le_of_ble_eq_true rfl) (Nat.le_of_ble_eq_true rfl)
theorem r_MRm_line_67 {l1 : Value} {x : Nat} : Rr X d MRm_line 67 [.ref x, l1] st h = Rr X d MRm_line 68 [.ref x, l1] (.ref x :: st) h := Rr_nx d_MRm_line_67 rfl
theorem ff_10_54 : fF 10 54 = some (10, 26, 1, 1) := rfl
theorem r_MRm_line_68 {a : Nat} (hq : (qR a 10 26).isSome = true) : Rr X d MRm_line 68 L (.ref a :: st) (Wd mu la ro et) = Rr X d MRm_line 71 L (.ref (qRd a 10 26) :: st) (Wd mu la ro et) := R_gfR d_MRm_line_68 ff_10_54 hq
theorem r_MRm_line_71 {l0 : Value} {x : Int32} : Rr X d MRm_line 71 [l0, .int x] st h = Rr X d MRm_line 72 [l0, .int x] (.int x :: st) h := Rr_nx d_MRm_line_71 rfl
theorem r_MRm_line_72 {l1 : Value} {x : Nat} : Rr X d MRm_line 72 [.ref x, l1] st h = Rr X d MRm_line 73 [.ref x, l1] (.ref x :: st) h := Rr_nx d_MRm_line_72 rfl
theorem r_MRm_line_73 {a : Nat} (hq : qI a 10 21 = true) : Rr X d MRm_line 73 L (.ref a :: st) (Wd mu la ro et) = Rr X d MRm_line 76 L (.int (mu a 21) :: st) (Wd mu la ro et) := R_gfI d_MRm_line_73 ff_10_197 hq
theorem r_MRm_line_76 {x : Int32} : Rr X d MRm_line 76 L (.int x :: st) h = Rr X d MRm_line 77 L (.int (x.toInt16.toInt32) :: st) h := Rr_nx d_MRm_line_76 rfl
theorem r_MRm_line_77 {a : Nat} {j x : Int32} (hq : (qA a 3).isSome = true) : Rr X d MRm_line 77 L (.int x :: .int j :: .ref a :: st) (Wd mu la ro et) = if j < 0 ∨ qAd a 3 ≤ j.toNatClampNeg then none else Rr X d MRm_line 78 L st (Wd (up2 mu a j.toNatClampNeg (x.toInt16.toInt32)) la ro et) := R_sasW d_MRm_line_77 hq
theorem r_MRm_line_78 {l1 : Value} {x : Nat} : Rr X d MRm_line 78 [.ref x, l1] st h = Rr X d MRm_line 79 [.ref x, l1] (.ref x :: st) h := Rr_nx d_MRm_line_78 rfl
theorem r_MRm_line_79 {a : Nat} (hq : (qR a 10 24).isSome = true) : Rr X d MRm_line 79 L (.ref a :: st) (Wd mu la ro et) = Rr X d MRm_line 82 L (.ref (qRd a 10 24) :: st) (Wd mu la ro et) := R_gfR d_MRm_line_79 ff_10_47 hq
theorem r_MRm_line_82 : Rr X d MRm_line 82 L st h = Rr X d MRm_line 83 L (.int (4) :: st) h := Rr_nx d_MRm_line_82 rfl
theorem r_MRm_line_83 {x : Int32} {y : Nat} : Rr X d MRm_line 83 L (.int x :: .ref y :: st) h = Rr X d MRm_line 84 L (.int x :: .ref y :: .int x :: .ref y :: st) h := Rr_nx d_MRm_line_83 rfl
theorem r_MRm_line_84 {a : Nat} {j : Int32} (hq : (qA a 0).isSome = true) : Rr X d MRm_line 84 L (.int j :: .ref a :: st) (Wd mu la ro et) = if j < 0 ∨ qAd a 0 ≤ j.toNatClampNeg then none else Rr X d MRm_line 85 L (.int (mu a j.toNatClampNeg) :: st) (Wd mu la ro et) := R_ialW d_MRm_line_84 hq
theorem r_MRm_line_85 : Rr X d MRm_line 85 L st h = Rr X d MRm_line 86 L (.int (1) :: st) h := Rr_nx d_MRm_line_85 rfl
theorem r_MRm_line_86 {x y : Int32} : Rr X d MRm_line 86 L (.int y :: .int x :: st) h = Rr X d MRm_line 87 L (.int (x + y) :: st) h := Rr_nx d_MRm_line_86 rfl
theorem r_MRm_line_87 {a : Nat} {j x : Int32} (hq : (qA a 0).isSome = true) : Rr X d MRm_line 87 L (.int x :: .int j :: .ref a :: st) (Wd mu la ro et) = if j < 0 ∨ qAd a 0 ≤ j.toNatClampNeg then none else Rr X d MRm_line 88 L st (Wd (up2 mu a j.toNatClampNeg (x)) la ro et) := R_iasW d_MRm_line_87 hq
theorem r_MRm_line_88 : Rr X d MRm_line 88 L [] h = some (none, h) := Rr_rt d_MRm_line_88 rfl
theorem d_MRm_readText_0 : decode MRm_readText.2.2.1 0 = .ok (.aload_n 0, 1) := by decide +kernel
theorem d_MRm_readText_1 : decode MRm_readText.2.2.1 1 = .ok (.iconst 0, 1) := by decide +kernel
theorem d_MRm_readText_2 : decode MRm_readText.2.2.1 2 = .ok (.putfield 120, 3) := by decide +kernel
theorem d_MRm_readText_5 : decode MRm_readText.2.2.1 5 = .ok (.aload_n 0, 1) := by decide +kernel
theorem d_MRm_readText_6 : decode MRm_readText.2.2.1 6 = .ok (.iconst (-1), 1) := by decide +kernel
theorem d_MRm_readText_7 : decode MRm_readText.2.2.1 7 = .ok (.putfield 117, 3) := by decide +kernel
theorem d_MRm_readText_10 : decode MRm_readText.2.2.1 10 = .ok (.aload_n 0, 1) := by decide +kernel
theorem d_MRm_readText_11 : decode MRm_readText.2.2.1 11 = .ok (.iconst 0, 1) := by decide +kernel
theorem d_MRm_readText_12 : decode MRm_readText.2.2.1 12 = .ok (.putfield 200, 3) := by decide +kernel
theorem d_MRm_readText_15 : decode MRm_readText.2.2.1 15 = .ok (.aload_n 0, 1) := by decide +kernel
theorem d_MRm_readText_16 : decode MRm_readText.2.2.1 16 = .ok (.iconst 0, 1) := by decide +kernel
theorem d_MRm_readText_17 : decode MRm_readText.2.2.1 17 = .ok (.putfield 197, 3) := by decide +kernel
theorem d_MRm_readText_20 : decode MRm_readText.2.2.1 20 = .ok (.aload_n 0, 1) := by decide +kernel
theorem d_MRm_readText_21 : decode MRm_readText.2.2.1 21 = .ok (.getfield 47, 3) := by decide +kernel
theorem d_MRm_readText_24 : decode MRm_readText.2.2.1 24 = .ok (.iconst 4, 1) := by decide +kernel
theorem d_MRm_readText_25 : decode MRm_readText.2.2.1 25 = .ok (.iconst 0, 1) := by decide +kernel
theorem d_MRm_readText_26 : decode MRm_readText.2.2.1 26 = .ok (.iastore, 1) := by decide +kernel
theorem d_MRm_readText_27 : decode MRm_readText.2.2.1 27 = .ok (.aload_n 0, 1) := by decide +kernel
theorem d_MRm_readText_28 : decode MRm_readText.2.2.1 28 = .ok (.invokevirtual 241, 3) := by decide +kernel
theorem d_MRm_readText_31 : decode MRm_readText.2.2.1 31 = .ok (.aload_n 0, 1) := by decide +kernel
theorem d_MRm_readText_32 : decode MRm_readText.2.2.1 32 = .ok (.getfield 117, 3) := by decide +kernel
theorem d_MRm_readText_35 : decode MRm_readText.2.2.1 35 = .ok (.ifCond .ge 29, 3) := by decide +kernel
theorem d_MRm_readText_38 : decode MRm_readText.2.2.1 38 = .ok (.aload_n 0, 1) := by decide +kernel
theorem d_MRm_readText_39 : decode MRm_readText.2.2.1 39 = .ok (.invokevirtual 206, 3) := by decide +kernel
theorem d_MRm_readText_42 : decode MRm_readText.2.2.1 42 = .ok (.bipush 59, 2) := by decide +kernel
theorem d_MRm_readText_44 : decode MRm_readText.2.2.1 44 = .ok (.if_icmp .ne 20, 3) := by decide +kernel
theorem d_MRm_readText_47 : decode MRm_readText.2.2.1 47 = .ok (.aload_n 0, 1) := by decide +kernel
theorem d_MRm_readText_48 : decode MRm_readText.2.2.1 48 = .ok (.dup, 1) := by decide +kernel
theorem d_MRm_readText_49 : decode MRm_readText.2.2.1 49 = .ok (.getfield 120, 3) := by decide +kernel
theorem d_MRm_readText_52 : decode MRm_readText.2.2.1 52 = .ok (.iconst 1, 1) := by decide +kernel
theorem d_MRm_readText_53 : decode MRm_readText.2.2.1 53 = .ok (.iadd, 1) := by decide +kernel
theorem d_MRm_readText_54 : decode MRm_readText.2.2.1 54 = .ok (.putfield 120, 3) := by decide +kernel
theorem d_MRm_readText_57 : decode MRm_readText.2.2.1 57 = .ok (.aload_n 0, 1) := by decide +kernel
theorem d_MRm_readText_58 : decode MRm_readText.2.2.1 58 = .ok (.invokevirtual 241, 3) := by decide +kernel
theorem d_MRm_readText_61 : decode MRm_readText.2.2.1 61 = .ok (.goto (-30), 3) := by decide +kernel
theorem d_MRm_readText_64 : decode MRm_readText.2.2.1 64 = .ok (.aload_n 0, 1) := by decide +kernel
theorem d_MRm_readText_65 : decode MRm_readText.2.2.1 65 = .ok (.getfield 117, 3) := by decide +kernel
theorem d_MRm_readText_68 : decode MRm_readText.2.2.1 68 = .ok (.ifCond .ge 18, 3) := by decide +kernel
theorem d_MRm_readText_71 : decode MRm_readText.2.2.1 71 = .ok (.aload_n 0, 1) := by decide +kernel
theorem d_MRm_readText_72 : decode MRm_readText.2.2.1 72 = .ok (.getfield 120, 3) := by decide +kernel
theorem d_MRm_readText_75 : decode MRm_readText.2.2.1 75 = .ok (.aload_n 0, 1) := by decide +kernel
theorem d_MRm_readText_76 : decode MRm_readText.2.2.1 76 = .ok (.getfield 111, 3) := by decide +kernel
theorem d_MRm_readText_79 : decode MRm_readText.2.2.1 79 = .ok (.if_icmp .ge 7, 3) := by decide +kernel
theorem d_MRm_readText_82 : decode MRm_readText.2.2.1 82 = .ok (.aload_n 0, 1) := by decide +kernel
theorem d_MRm_readText_83 : decode MRm_readText.2.2.1 83 = .ok (.invokevirtual 203, 3) := by decide +kernel
theorem d_MRm_readText_86 : decode MRm_readText.2.2.1 86 = .ok (.aload_n 0, 1) := by decide +kernel
theorem d_MRm_readText_87 : decode MRm_readText.2.2.1 87 = .ok (.iconst 0, 1) := by decide +kernel
theorem d_MRm_readText_88 : decode MRm_readText.2.2.1 88 = .ok (.putfield 111, 3) := by decide +kernel
theorem d_MRm_readText_91 : decode MRm_readText.2.2.1 91 = .ok (.aload_n 0, 1) := by decide +kernel
theorem d_MRm_readText_92 : decode MRm_readText.2.2.1 92 = .ok (.getfield 117, 3) := by decide +kernel
theorem d_MRm_readText_95 : decode MRm_readText.2.2.1 95 = .ok (.ifCond .lt 8, 3) := by decide +kernel
theorem d_MRm_readText_98 : decode MRm_readText.2.2.1 98 = .ok (.aload_n 0, 1) := by decide +kernel
theorem d_MRm_readText_99 : decode MRm_readText.2.2.1 99 = .ok (.getfield 117, 3) := by decide +kernel
theorem d_MRm_readText_102 : decode MRm_readText.2.2.1 102 = .ok (.ireturn, 1) := by decide +kernel
theorem d_MRm_readText_103 : decode MRm_readText.2.2.1 103 = .ok (.iconst 0, 1) := by decide +kernel
theorem d_MRm_readText_104 : decode MRm_readText.2.2.1 104 = .ok (.istore_n 2, 1) := by decide +kernel
theorem d_MRm_readText_105 : decode MRm_readText.2.2.1 105 = .ok (.iload_n 2, 1) := by decide +kernel
theorem d_MRm_readText_106 : decode MRm_readText.2.2.1 106 = .ok (.aload_n 0, 1) := by decide +kernel
theorem d_MRm_readText_107 : decode MRm_readText.2.2.1 107 = .ok (.getfield 197, 3) := by decide +kernel
theorem d_MRm_readText_110 : decode MRm_readText.2.2.1 110 = .ok (.if_icmp .ge 53, 3) := by decide +kernel
theorem d_MRm_readText_113 : decode MRm_readText.2.2.1 113 = .ok (.aload_n 0, 1) := by decide +kernel
theorem d_MRm_readText_114 : decode MRm_readText.2.2.1 114 = .ok (.getfield 41, 3) := by decide +kernel
theorem d_MRm_readText_117 : decode MRm_readText.2.2.1 117 = .ok (.sipush 130, 3) := by decide +kernel
theorem d_MRm_readText_120 : decode MRm_readText.2.2.1 120 = .ok (.iload_n 1, 1) := by decide +kernel
theorem d_MRm_readText_121 : decode MRm_readText.2.2.1 121 = .ok (.imul, 1) := by decide +kernel
theorem d_MRm_readText_122 : decode MRm_readText.2.2.1 122 = .ok (.iload_n 2, 1) := by decide +kernel
theorem d_MRm_readText_123 : decode MRm_readText.2.2.1 123 = .ok (.iadd, 1) := by decide +kernel
theorem d_MRm_readText_124 : decode MRm_readText.2.2.1 124 = .ok (.aload_n 0, 1) := by decide +kernel
theorem d_MRm_readText_125 : decode MRm_readText.2.2.1 125 = .ok (.getfield 41, 3) := by decide +kernel
theorem d_MRm_readText_128 : decode MRm_readText.2.2.1 128 = .ok (.sipush 520, 3) := by decide +kernel
theorem d_MRm_readText_131 : decode MRm_readText.2.2.1 131 = .ok (.iload_n 2, 1) := by decide +kernel
theorem d_MRm_readText_132 : decode MRm_readText.2.2.1 132 = .ok (.iadd, 1) := by decide +kernel
theorem d_MRm_readText_133 : decode MRm_readText.2.2.1 133 = .ok (.baload, 1) := by decide +kernel
theorem d_MRm_readText_134 : decode MRm_readText.2.2.1 134 = .ok (.bastore, 1) := by decide +kernel
theorem d_MRm_readText_135 : decode MRm_readText.2.2.1 135 = .ok (.aload_n 0, 1) := by decide +kernel
theorem d_MRm_readText_136 : decode MRm_readText.2.2.1 136 = .ok (.getfield 44, 3) := by decide +kernel
theorem d_MRm_readText_139 : decode MRm_readText.2.2.1 139 = .ok (.sipush 130, 3) := by decide +kernel
theorem d_MRm_readText_142 : decode MRm_readText.2.2.1 142 = .ok (.iload_n 1, 1) := by decide +kernel
theorem d_MRm_readText_143 : decode MRm_readText.2.2.1 143 = .ok (.imul, 1) := by decide +kernel
theorem d_MRm_readText_144 : decode MRm_readText.2.2.1 144 = .ok (.iload_n 2, 1) := by decide +kernel
theorem d_MRm_readText_145 : decode MRm_readText.2.2.1 145 = .ok (.iadd, 1) := by decide +kernel
theorem d_MRm_readText_146 : decode MRm_readText.2.2.1 146 = .ok (.aload_n 0, 1) := by decide +kernel
theorem d_MRm_readText_147 : decode MRm_readText.2.2.1 147 = .ok (.getfield 44, 3) := by decide +kernel
theorem d_MRm_readText_150 : decode MRm_readText.2.2.1 150 = .ok (.sipush 520, 3) := by decide +kernel
theorem d_MRm_readText_153 : decode MRm_readText.2.2.1 153 = .ok (.iload_n 2, 1) := by decide +kernel
theorem d_MRm_readText_154 : decode MRm_readText.2.2.1 154 = .ok (.iadd, 1) := by decide +kernel
theorem d_MRm_readText_155 : decode MRm_readText.2.2.1 155 = .ok (.iaload, 1) := by decide +kernel
theorem d_MRm_readText_156 : decode MRm_readText.2.2.1 156 = .ok (.iastore, 1) := by decide +kernel
theorem d_MRm_readText_157 : decode MRm_readText.2.2.1 157 = .ok (.iinc 2 1, 3) := by decide +kernel
theorem d_MRm_readText_160 : decode MRm_readText.2.2.1 160 = .ok (.goto (-55), 3) := by decide +kernel
theorem d_MRm_readText_163 : decode MRm_readText.2.2.1 163 = .ok (.aload_n 0, 1) := by decide +kernel
theorem d_MRm_readText_164 : decode MRm_readText.2.2.1 164 = .ok (.getfield 47, 3) := by decide +kernel
theorem d_MRm_readText_167 : decode MRm_readText.2.2.1 167 = .ok (.iload_n 1, 1) := by decide +kernel
theorem d_MRm_readText_168 : decode MRm_readText.2.2.1 168 = .ok (.aload_n 0, 1) := by decide +kernel
theorem d_MRm_readText_169 : decode MRm_readText.2.2.1 169 = .ok (.getfield 47, 3) := by decide +kernel
theorem d_MRm_readText_172 : decode MRm_readText.2.2.1 172 = .ok (.iconst 4, 1) := by decide +kernel
theorem d_MRm_readText_173 : decode MRm_readText.2.2.1 173 = .ok (.iaload, 1) := by decide +kernel
theorem d_MRm_readText_174 : decode MRm_readText.2.2.1 174 = .ok (.iastore, 1) := by decide +kernel
theorem d_MRm_readText_175 : decode MRm_readText.2.2.1 175 = .ok (.iconst 0, 1) := by decide +kernel
theorem d_MRm_readText_176 : decode MRm_readText.2.2.1 176 = .ok (.istore_n 2, 1) := by decide +kernel
theorem d_MRm_readText_177 : decode MRm_readText.2.2.1 177 = .ok (.iload_n 2, 1) := by decide +kernel
theorem d_MRm_readText_178 : decode MRm_readText.2.2.1 178 = .ok (.aload_n 0, 1) := by decide +kernel
theorem d_MRm_readText_179 : decode MRm_readText.2.2.1 179 = .ok (.getfield 47, 3) := by decide +kernel
theorem d_MRm_readText_182 : decode MRm_readText.2.2.1 182 = .ok (.iload_n 1, 1) := by decide +kernel
theorem d_MRm_readText_183 : decode MRm_readText.2.2.1 183 = .ok (.iaload, 1) := by decide +kernel
theorem d_MRm_readText_184 : decode MRm_readText.2.2.1 184 = .ok (.if_icmp .ge 51, 3) := by decide +kernel
theorem d_MRm_readText_187 : decode MRm_readText.2.2.1 187 = .ok (.aload_n 0, 1) := by decide +kernel
theorem d_MRm_readText_188 : decode MRm_readText.2.2.1 188 = .ok (.getfield 50, 3) := by decide +kernel
theorem d_MRm_readText_191 : decode MRm_readText.2.2.1 191 = .ok (.bipush 61, 2) := by decide +kernel
theorem d_MRm_readText_193 : decode MRm_readText.2.2.1 193 = .ok (.iload_n 1, 1) := by decide +kernel
theorem d_MRm_readText_194 : decode MRm_readText.2.2.1 194 = .ok (.imul, 1) := by decide +kernel
theorem d_MRm_readText_195 : decode MRm_readText.2.2.1 195 = .ok (.iload_n 2, 1) := by decide +kernel
theorem d_MRm_readText_196 : decode MRm_readText.2.2.1 196 = .ok (.iadd, 1) := by decide +kernel
theorem d_MRm_readText_197 : decode MRm_readText.2.2.1 197 = .ok (.aload_n 0, 1) := by decide +kernel
theorem d_MRm_readText_198 : decode MRm_readText.2.2.1 198 = .ok (.getfield 50, 3) := by decide +kernel
theorem d_MRm_readText_201 : decode MRm_readText.2.2.1 201 = .ok (.sipush 244, 3) := by decide +kernel
theorem d_MRm_readText_204 : decode MRm_readText.2.2.1 204 = .ok (.iload_n 2, 1) := by decide +kernel
theorem d_MRm_readText_205 : decode MRm_readText.2.2.1 205 = .ok (.iadd, 1) := by decide +kernel
theorem d_MRm_readText_206 : decode MRm_readText.2.2.1 206 = .ok (.saload, 1) := by decide +kernel
theorem d_MRm_readText_207 : decode MRm_readText.2.2.1 207 = .ok (.sastore, 1) := by decide +kernel
theorem d_MRm_readText_208 : decode MRm_readText.2.2.1 208 = .ok (.aload_n 0, 1) := by decide +kernel
theorem d_MRm_readText_209 : decode MRm_readText.2.2.1 209 = .ok (.getfield 54, 3) := by decide +kernel
theorem d_MRm_readText_212 : decode MRm_readText.2.2.1 212 = .ok (.bipush 61, 2) := by decide +kernel
theorem d_MRm_readText_214 : decode MRm_readText.2.2.1 214 = .ok (.iload_n 1, 1) := by decide +kernel
theorem d_MRm_readText_215 : decode MRm_readText.2.2.1 215 = .ok (.imul, 1) := by decide +kernel
theorem d_MRm_readText_216 : decode MRm_readText.2.2.1 216 = .ok (.iload_n 2, 1) := by decide +kernel
theorem d_MRm_readText_217 : decode MRm_readText.2.2.1 217 = .ok (.iadd, 1) := by decide +kernel
theorem d_MRm_readText_218 : decode MRm_readText.2.2.1 218 = .ok (.aload_n 0, 1) := by decide +kernel
theorem d_MRm_readText_219 : decode MRm_readText.2.2.1 219 = .ok (.getfield 54, 3) := by decide +kernel
theorem d_MRm_readText_222 : decode MRm_readText.2.2.1 222 = .ok (.sipush 244, 3) := by decide +kernel
theorem d_MRm_readText_225 : decode MRm_readText.2.2.1 225 = .ok (.iload_n 2, 1) := by decide +kernel
theorem d_MRm_readText_226 : decode MRm_readText.2.2.1 226 = .ok (.iadd, 1) := by decide +kernel
theorem d_MRm_readText_227 : decode MRm_readText.2.2.1 227 = .ok (.saload, 1) := by decide +kernel
theorem d_MRm_readText_228 : decode MRm_readText.2.2.1 228 = .ok (.sastore, 1) := by decide +kernel
theorem d_MRm_readText_229 : decode MRm_readText.2.2.1 229 = .ok (.iinc 2 1, 3) := by decide +kernel
theorem d_MRm_readText_232 : decode MRm_readText.2.2.1 232 = .ok (.goto (-55), 3) := by decide +kernel
theorem d_MRm_readText_235 : decode MRm_readText.2.2.1 235 = .ok (.iconst (-1), 1) := by decide +kernel
theorem d_MRm_readText_236 : decode MRm_readText.2.2.1 236 = .ok (.ireturn, 1) := by decide +kernel
theorem r_MRm_readText_0 {l1 l2 : Value} {x : Nat} : Rr X d MRm_readText 0 [.ref x, l1, l2] st h = Rr X d MRm_readText 1 [.ref x, l1, l2] (.ref x :: st) h := Rr_nx d_MRm_readText_0 rfl
theorem r_MRm_readText_1 : Rr X d MRm_readText 1 L st h = Rr X d MRm_readText 2 L (.int (0) :: st) h := Rr_nx d_MRm_readText_1 rfl
theorem r_MRm_readText_2 {a : Nat} {x : Int32} (hq : qI a 10 18 = true) : Rr X d MRm_readText 2 L (.int x :: .ref a :: st) (Wd mu la ro et) = Rr X d MRm_readText 5 L st (Wd (up2 mu a 18 x) la ro et) := R_pfI d_MRm_readText_2 ff_10_120 hq
theorem r_MRm_readText_5 {l1 l2 : Value} {x : Nat} : Rr X d MRm_readText 5 [.ref x, l1, l2] st h = Rr X d MRm_readText 6 [.ref x, l1, l2] (.ref x :: st) h := Rr_nx d_MRm_readText_5 rfl
theorem r_MRm_readText_6 : Rr X d MRm_readText 6 L st h = Rr X d MRm_readText 7 L (.int (-1) :: st) h := Rr_nx d_MRm_readText_6 rfl
theorem r_MRm_readText_7 {a : Nat} {x : Int32} (hq : qI a 10 19 = true) : Rr X d MRm_readText 7 L (.int x :: .ref a :: st) (Wd mu la ro et) = Rr X d MRm_readText 10 L st (Wd (up2 mu a 19 x) la ro et) := R_pfI d_MRm_readText_7 ff_10_117 hq
theorem r_MRm_readText_10 {l1 l2 : Value} {x : Nat} : Rr X d MRm_readText 10 [.ref x, l1, l2] st h = Rr X d MRm_readText 11 [.ref x, l1, l2] (.ref x :: st) h := Rr_nx d_MRm_readText_10 rfl
theorem r_MRm_readText_11 : Rr X d MRm_readText 11 L st h = Rr X d MRm_readText 12 L (.int (0) :: st) h := Rr_nx d_MRm_readText_11 rfl
theorem r_MRm_readText_12 {a : Nat} {x : Int32} (hq : qI a 10 20 = true) : Rr X d MRm_readText 12 L (.int x :: .ref a :: st) (Wd mu la ro et) = Rr X d MRm_readText 15 L st (Wd (up2 mu a 20 x) la ro et) := R_pfI d_MRm_readText_12 ff_10_200 hq
theorem r_MRm_readText_15 {l1 l2 : Value} {x : Nat} : Rr X d MRm_readText 15 [.ref x, l1, l2] st h = Rr X d MRm_readText 16 [.ref x, l1, l2] (.ref x :: st) h := Rr_nx d_MRm_readText_15 rfl
theorem r_MRm_readText_16 : Rr X d MRm_readText 16 L st h = Rr X d MRm_readText 17 L (.int (0) :: st) h := Rr_nx d_MRm_readText_16 rfl
theorem r_MRm_readText_17 {a : Nat} {x : Int32} (hq : qI a 10 21 = true) : Rr X d MRm_readText 17 L (.int x :: .ref a :: st) (Wd mu la ro et) = Rr X d MRm_readText 20 L st (Wd (up2 mu a 21 x) la ro et) := R_pfI d_MRm_readText_17 ff_10_197 hq
theorem r_MRm_readText_20 {l1 l2 : Value} {x : Nat} : Rr X d MRm_readText 20 [.ref x, l1, l2] st h = Rr X d MRm_readText 21 [.ref x, l1, l2] (.ref x :: st) h := Rr_nx d_MRm_readText_20 rfl
theorem r_MRm_readText_21 {a : Nat} (hq : (qR a 10 24).isSome = true) : Rr X d MRm_readText 21 L (.ref a :: st) (Wd mu la ro et) = Rr X d MRm_readText 24 L (.ref (qRd a 10 24) :: st) (Wd mu la ro et) := R_gfR d_MRm_readText_21 ff_10_47 hq
theorem r_MRm_readText_24 : Rr X d MRm_readText 24 L st h = Rr X d MRm_readText 25 L (.int (4) :: st) h := Rr_nx d_MRm_readText_24 rfl
theorem r_MRm_readText_25 : Rr X d MRm_readText 25 L st h = Rr X d MRm_readText 26 L (.int (0) :: st) h := Rr_nx d_MRm_readText_25 rfl
theorem r_MRm_readText_26 {a : Nat} {j x : Int32} (hq : (qA a 0).isSome = true) : Rr X d MRm_readText 26 L (.int x :: .int j :: .ref a :: st) (Wd mu la ro et) = if j < 0 ∨ qAd a 0 ≤ j.toNatClampNeg then none else Rr X d MRm_readText 27 L st (Wd (up2 mu a j.toNatClampNeg (x)) la ro et) := R_iasW d_MRm_readText_26 hq
theorem r_MRm_readText_27 {l1 l2 : Value} {x : Nat} : Rr X d MRm_readText 27 [.ref x, l1, l2] st h = Rr X d MRm_readText 28 [.ref x, l1, l2] (.ref x :: st) h := Rr_nx d_MRm_readText_27 rfl
theorem fc_10_241 : fC 10 241 = some (0, 10, 0, MRm_line) := rfl
theorem r_MRm_readText_28 {a : Nat} (hO : qO a 10 = true) (hc : ckS st = true) : Rr X (d + 1) MRm_readText 28 L (.ref a :: st) (Wd mu la ro et) = (Rr X d MRm_line 0 [.ref a, mkU] [] (Wd mu la ro et)).bind fun q => Rr X (d + 1) MRm_readText 31 L (psh q.1 st) q.2 := R_iv (av := []) d_MRm_readText_28 fc_10_241 hO (ckS_le hc) rfl (Nat.le_of_ble_eq_true rfl) (Nat.le_of_ble_eq_true rfl)
theorem r_MRm_readText_31 {l1 l2 : Value} {x : Nat} : Rr X d MRm_readText 31 [.ref x, l1, l2] st h = Rr X d MRm_readText 32 [.ref x, l1, l2] (.ref x :: st) h := Rr_nx d_MRm_readText_31 rfl
theorem r_MRm_readText_32 {a : Nat} (hq : qI a 10 19 = true) : Rr X d MRm_readText 32 L (.ref a :: st) (Wd mu la ro et) = Rr X d MRm_readText 35 L (.int (mu a 19) :: st) (Wd mu la ro et) := R_gfI d_MRm_readText_32 ff_10_117 hq
theorem r_MRm_readText_35 {x : Int32} : Rr X d MRm_readText 35 L (.int x :: st) h = if 0 ≤ x then Rr X d MRm_readText 64 L st h else Rr X d MRm_readText 38 L st h := R_if_ge d_MRm_readText_35 (by decide)
theorem r_MRm_readText_38 {l1 l2 : Value} {x : Nat} : Rr X d MRm_readText 38 [.ref x, l1, l2] st h = Rr X d MRm_readText 39 [.ref x, l1, l2] (.ref x :: st) h := Rr_nx d_MRm_readText_38 rfl
theorem r_MRm_readText_39 {a : Nat} (hO : qO a 10 = true) (hc : ckS st = true) : Rr X (d + 1) MRm_readText 39 L (.ref a :: st) (Wd mu la ro et) = (Rr X d MRm_look 0 [.ref a] [] (Wd mu la ro et)).bind fun q => Rr X (d + 1) MRm_readText 42 L (psh q.1 st) q.2 := R_iv (av := []) d_MRm_readText_39 fc_10_206 hO (ckS_le hc) rfl (Nat.le_of_ble_eq_true rfl) (Nat.le_of_ble_eq_true rfl)
theorem r_MRm_readText_42 : Rr X d MRm_readText 42 L st h = Rr X d MRm_readText 44 L (.int (59) :: st) h := Rr_nx d_MRm_readText_42 rfl
theorem r_MRm_readText_44 {x y : Int32} : Rr X d MRm_readText 44 L (.int y :: .int x :: st) h = if ¬ x = y then Rr X d MRm_readText 64 L st h else Rr X d MRm_readText 47 L st h := R_ic_ne d_MRm_readText_44 (by decide)
theorem r_MRm_readText_47 {l1 l2 : Value} {x : Nat} : Rr X d MRm_readText 47 [.ref x, l1, l2] st h = Rr X d MRm_readText 48 [.ref x, l1, l2] (.ref x :: st) h := Rr_nx d_MRm_readText_47 rfl
theorem r_MRm_readText_48 {x : Nat} : Rr X d MRm_readText 48 L (.ref x :: st) h = Rr X d MRm_readText 49 L (.ref x :: .ref x :: st) h := Rr_nx d_MRm_readText_48 rfl
theorem r_MRm_readText_48i {x : Int32} : Rr X d MRm_readText 48 L (.int x :: st) h = Rr X d MRm_readText 49 L (.int x :: .int x :: st) h := Rr_nx d_MRm_readText_48 rfl
theorem r_MRm_readText_49 {a : Nat} (hq : qI a 10 18 = true) : Rr X d MRm_readText 49 L (.ref a :: st) (Wd mu la ro et) = Rr X d MRm_readText 52 L (.int (mu a 18) :: st) (Wd mu la ro et) := R_gfI d_MRm_readText_49 ff_10_120 hq
theorem r_MRm_readText_52 : Rr X d MRm_readText 52 L st h = Rr X d MRm_readText 53 L (.int (1) :: st) h := Rr_nx d_MRm_readText_52 rfl
theorem r_MRm_readText_53 {x y : Int32} : Rr X d MRm_readText 53 L (.int y :: .int x :: st) h = Rr X d MRm_readText 54 L (.int (x + y) :: st) h := Rr_nx d_MRm_readText_53 rfl
theorem r_MRm_readText_54 {a : Nat} {x : Int32} (hq : qI a 10 18 = true) : Rr X d MRm_readText 54 L (.int x :: .ref a :: st) (Wd mu la ro et) = Rr X d MRm_readText 57 L st (Wd (up2 mu a 18 x) la ro et) := R_pfI d_MRm_readText_54 ff_10_120 hq
theorem r_MRm_readText_57 {l1 l2 : Value} {x : Nat} : Rr X d MRm_readText 57 [.ref x, l1, l2] st h = Rr X d MRm_readText 58 [.ref x, l1, l2] (.ref x :: st) h := Rr_nx d_MRm_readText_57 rfl
theorem r_MRm_readText_58 {a : Nat} (hO : qO a 10 = true) (hc : ckS st = true) : Rr X (d + 1) MRm_readText 58 L (.ref a :: st) (Wd mu la ro et) = (Rr X d MRm_line 0 [.ref a, mkU] [] (Wd mu la ro et)).bind fun q => Rr X (d + 1) MRm_readText 61 L (psh q.1 st) q.2 := R_iv (av := []) d_MRm_readText_58 fc_10_241 hO (ckS_le hc) rfl (Nat.le_of_ble_eq_true rfl) (Nat.le_of_ble_eq_true rfl)
theorem r_MRm_readText_61 : Rr X d MRm_readText 61 L st h = Rr X d MRm_readText 31 L st h := R_goto d_MRm_readText_61 (by decide)
theorem r_MRm_readText_64 {l1 l2 : Value} {x : Nat} : Rr X d MRm_readText 64 [.ref x, l1, l2] st h = Rr X d MRm_readText 65 [.ref x, l1, l2] (.ref x :: st) h := Rr_nx d_MRm_readText_64 rfl
theorem r_MRm_readText_65 {a : Nat} (hq : qI a 10 19 = true) : Rr X d MRm_readText 65 L (.ref a :: st) (Wd mu la ro et) = Rr X d MRm_readText 68 L (.int (mu a 19) :: st) (Wd mu la ro et) := R_gfI d_MRm_readText_65 ff_10_117 hq
theorem r_MRm_readText_68 {x : Int32} : Rr X d MRm_readText 68 L (.int x :: st) h = if 0 ≤ x then Rr X d MRm_readText 86 L st h else Rr X d MRm_readText 71 L st h := R_if_ge d_MRm_readText_68 (by decide)
theorem r_MRm_readText_71 {l1 l2 : Value} {x : Nat} : Rr X d MRm_readText 71 [.ref x, l1, l2] st h = Rr X d MRm_readText 72 [.ref x, l1, l2] (.ref x :: st) h := Rr_nx d_MRm_readText_71 rfl
theorem r_MRm_readText_72 {a : Nat} (hq : qI a 10 18 = true) : Rr X d MRm_readText 72 L (.ref a :: st) (Wd mu la ro et) = Rr X d MRm_readText 75 L (.int (mu a 18) :: st) (Wd mu la ro et) := R_gfI d_MRm_readText_72 ff_10_120 hq
theorem r_MRm_readText_75 {l1 l2 : Value} {x : Nat} : Rr X d MRm_readText 75 [.ref x, l1, l2] st h = Rr X d MRm_readText 76 [.ref x, l1, l2] (.ref x :: st) h := Rr_nx d_MRm_readText_75 rfl
theorem r_MRm_readText_76 {a : Nat} (hq : qI a 10 2 = true) : Rr X d MRm_readText 76 L (.ref a :: st) (Wd mu la ro et) = Rr X d MRm_readText 79 L (.int (mu a 2) :: st) (Wd mu la ro et) := R_gfI d_MRm_readText_76 ff_10_111 hq
theorem r_MRm_readText_79 {x y : Int32} : Rr X d MRm_readText 79 L (.int y :: .int x :: st) h = if y ≤ x then Rr X d MRm_readText 86 L st h else Rr X d MRm_readText 82 L st h := R_ic_ge d_MRm_readText_79 (by decide)
theorem r_MRm_readText_82 {l1 l2 : Value} {x : Nat} : Rr X d MRm_readText 82 [.ref x, l1, l2] st h = Rr X d MRm_readText 83 [.ref x, l1, l2] (.ref x :: st) h := Rr_nx d_MRm_readText_82 rfl
theorem r_MRm_readText_83 {a : Nat} (hO : qO a 10 = true) (hc : ckS st = true) : Rr X (d + 1) MRm_readText 83 L (.ref a :: st) (Wd mu la ro et) = (Rr X d MRm_wrong 0 [.ref a] [] (Wd mu la ro et)).bind fun q => Rr X (d + 1) MRm_readText 86 L (psh q.1 st) q.2 := R_iv (av := []) d_MRm_readText_83 fc_10_203 hO (ckS_le hc) rfl (Nat.le_of_ble_eq_true rfl) (Nat.le_of_ble_eq_true rfl)
theorem r_MRm_readText_86 {l1 l2 : Value} {x : Nat} : Rr X d MRm_readText 86 [.ref x, l1, l2] st h = Rr X d MRm_readText 87 [.ref x, l1, l2] (.ref x :: st) h := Rr_nx d_MRm_readText_86 rfl
theorem r_MRm_readText_87 : Rr X d MRm_readText 87 L st h = Rr X d MRm_readText 88 L (.int (0) :: st) h := Rr_nx d_MRm_readText_87 rfl
theorem r_MRm_readText_88 {a : Nat} {x : Int32} (hq : qI a 10 2 = true) : Rr X d MRm_readText 88 L (.int x :: .ref a :: st) (Wd mu la ro et) = Rr X d MRm_readText 91 L st (Wd (up2 mu a 2 x) la ro et) := R_pfI d_MRm_readText_88 ff_10_111 hq
theorem r_MRm_readText_91 {l1 l2 : Value} {x : Nat} : Rr X d MRm_readText 91 [.ref x, l1, l2] st h = Rr X d MRm_readText 92 [.ref x, l1, l2] (.ref x :: st) h := Rr_nx d_MRm_readText_91 rfl
theorem r_MRm_readText_92 {a : Nat} (hq : qI a 10 19 = true) : Rr X d MRm_readText 92 L (.ref a :: st) (Wd mu la ro et) = Rr X d MRm_readText 95 L (.int (mu a 19) :: st) (Wd mu la ro et) := R_gfI d_MRm_readText_92 ff_10_117 hq
theorem r_MRm_readText_95 {x : Int32} : Rr X d MRm_readText 95 L (.int x :: st) h = if x < 0 then Rr X d MRm_readText 103 L st h else Rr X d MRm_readText 98 L st h := R_if_lt d_MRm_readText_95 (by decide)
theorem r_MRm_readText_98 {l1 l2 : Value} {x : Nat} : Rr X d MRm_readText 98 [.ref x, l1, l2] st h = Rr X d MRm_readText 99 [.ref x, l1, l2] (.ref x :: st) h := Rr_nx d_MRm_readText_98 rfl
theorem r_MRm_readText_99 {a : Nat} (hq : qI a 10 19 = true) : Rr X d MRm_readText 99 L (.ref a :: st) (Wd mu la ro et) = Rr X d MRm_readText 102 L (.int (mu a 19) :: st) (Wd mu la ro et) := R_gfI d_MRm_readText_99 ff_10_117 hq
theorem r_MRm_readText_102 {x : Int32} : Rr X d MRm_readText 102 L [.int x] h = some (some (.int x), h) := R_ir d_MRm_readText_102 rfl
theorem r_MRm_readText_103 : Rr X d MRm_readText 103 L st h = Rr X d MRm_readText 104 L (.int (0) :: st) h := Rr_nx d_MRm_readText_103 rfl
theorem r_MRm_readText_104 {l0 l1 l2 : Value} {x : Int32} : Rr X d MRm_readText 104 [l0, l1, l2] (.int x :: st) h = Rr X d MRm_readText 105 (sL [l0, l1, l2] 2 (.int x)) st h := Rr_nx d_MRm_readText_104 rfl
theorem r_MRm_readText_105 {l0 l1 : Value} {x : Int32} : Rr X d MRm_readText 105 [l0, l1, .int x] st h = Rr X d MRm_readText 106 [l0, l1, .int x] (.int x :: st) h := Rr_nx d_MRm_readText_105 rfl
theorem r_MRm_readText_106 {l1 l2 : Value} {x : Nat} : Rr X d MRm_readText 106 [.ref x, l1, l2] st h = Rr X d MRm_readText 107 [.ref x, l1, l2] (.ref x :: st) h := Rr_nx d_MRm_readText_106 rfl
theorem r_MRm_readText_107 {a : Nat} (hq : qI a 10 21 = true) : Rr X d MRm_readText 107 L (.ref a :: st) (Wd mu la ro et) = Rr X d MRm_readText 110 L (.int (mu a 21) :: st) (Wd mu la ro et) := R_gfI d_MRm_readText_107 ff_10_197 hq
theorem r_MRm_readText_110 {x y : Int32} : Rr X d MRm_readText 110 L (.int y :: .int x :: st) h = if y ≤ x then Rr X d MRm_readText 163 L st h else Rr X d MRm_readText 113 L st h := R_ic_ge d_MRm_readText_110 (by decide)
theorem r_MRm_readText_113 {l1 l2 : Value} {x : Nat} : Rr X d MRm_readText 113 [.ref x, l1, l2] st h = Rr X d MRm_readText 114 [.ref x, l1, l2] (.ref x :: st) h := Rr_nx d_MRm_readText_113 rfl
theorem r_MRm_readText_114 {a : Nat} (hq : (qR a 10 22).isSome = true) : Rr X d MRm_readText 114 L (.ref a :: st) (Wd mu la ro et) = Rr X d MRm_readText 117 L (.ref (qRd a 10 22) :: st) (Wd mu la ro et) := R_gfR d_MRm_readText_114 ff_10_41 hq
theorem r_MRm_readText_117 : Rr X d MRm_readText 117 L st h = Rr X d MRm_readText 120 L (.int (130) :: st) h := Rr_nx d_MRm_readText_117 rfl
theorem r_MRm_readText_120 {l0 l2 : Value} {x : Int32} : Rr X d MRm_readText 120 [l0, .int x, l2] st h = Rr X d MRm_readText 121 [l0, .int x, l2] (.int x :: st) h := Rr_nx d_MRm_readText_120 rfl
theorem r_MRm_readText_121 {x y : Int32} : Rr X d MRm_readText 121 L (.int y :: .int x :: st) h = Rr X d MRm_readText 122 L (.int (x * y) :: st) h := Rr_nx d_MRm_readText_121 rfl
theorem r_MRm_readText_122 {l0 l1 : Value} {x : Int32} : Rr X d MRm_readText 122 [l0, l1, .int x] st h = Rr X d MRm_readText 123 [l0, l1, .int x] (.int x :: st) h := Rr_nx d_MRm_readText_122 rfl
theorem r_MRm_readText_123 {x y : Int32} : Rr X d MRm_readText 123 L (.int y :: .int x :: st) h = Rr X d MRm_readText 124 L (.int (x + y) :: st) h := Rr_nx d_MRm_readText_123 rfl
theorem r_MRm_readText_124 {l1 l2 : Value} {x : Nat} : Rr X d MRm_readText 124 [.ref x, l1, l2] st h = Rr X d MRm_readText 125 [.ref x, l1, l2] (.ref x :: st) h := Rr_nx d_MRm_readText_124 rfl
theorem r_MRm_readText_125 {a : Nat} (hq : (qR a 10 22).isSome = true) : Rr X d MRm_readText 125 L (.ref a :: st) (Wd mu la ro et) = Rr X d MRm_readText 128 L (.ref (qRd a 10 22) :: st) (Wd mu la ro et) := R_gfR d_MRm_readText_125 ff_10_41 hq
theorem r_MRm_readText_128 : Rr X d MRm_readText 128 L st h = Rr X d MRm_readText 131 L (.int (520) :: st) h := Rr_nx d_MRm_readText_128 rfl
theorem r_MRm_readText_131 {l0 l1 : Value} {x : Int32} : Rr X d MRm_readText 131 [l0, l1, .int x] st h = Rr X d MRm_readText 132 [l0, l1, .int x] (.int x :: st) h := Rr_nx d_MRm_readText_131 rfl
theorem r_MRm_readText_132 {x y : Int32} : Rr X d MRm_readText 132 L (.int y :: .int x :: st) h = Rr X d MRm_readText 133 L (.int (x + y) :: st) h := Rr_nx d_MRm_readText_132 rfl
theorem r_MRm_readText_133 {a : Nat} {j : Int32} (hq : (qA a 2).isSome = true) : Rr X d MRm_readText 133 L (.int j :: .ref a :: st) (Wd mu la ro et) = if j < 0 ∨ qAd a 2 ≤ j.toNatClampNeg then none else Rr X d MRm_readText 134 L (.int (mu a j.toNatClampNeg) :: st) (Wd mu la ro et) := R_balW d_MRm_readText_133 hq
theorem r_MRm_readText_134 {a : Nat} {j x : Int32} (hq : (qA a 2).isSome = true) : Rr X d MRm_readText 134 L (.int x :: .int j :: .ref a :: st) (Wd mu la ro et) = if j < 0 ∨ qAd a 2 ≤ j.toNatClampNeg then none else Rr X d MRm_readText 135 L st (Wd (up2 mu a j.toNatClampNeg (x.toInt8.toInt32)) la ro et) := R_basW d_MRm_readText_134 hq
theorem r_MRm_readText_135 {l1 l2 : Value} {x : Nat} : Rr X d MRm_readText 135 [.ref x, l1, l2] st h = Rr X d MRm_readText 136 [.ref x, l1, l2] (.ref x :: st) h := Rr_nx d_MRm_readText_135 rfl
theorem r_MRm_readText_136 {a : Nat} (hq : (qR a 10 23).isSome = true) : Rr X d MRm_readText 136 L (.ref a :: st) (Wd mu la ro et) = Rr X d MRm_readText 139 L (.ref (qRd a 10 23) :: st) (Wd mu la ro et) := R_gfR d_MRm_readText_136 ff_10_44 hq
theorem r_MRm_readText_139 : Rr X d MRm_readText 139 L st h = Rr X d MRm_readText 142 L (.int (130) :: st) h := Rr_nx d_MRm_readText_139 rfl
theorem r_MRm_readText_142 {l0 l2 : Value} {x : Int32} : Rr X d MRm_readText 142 [l0, .int x, l2] st h = Rr X d MRm_readText 143 [l0, .int x, l2] (.int x :: st) h := Rr_nx d_MRm_readText_142 rfl
theorem r_MRm_readText_143 {x y : Int32} : Rr X d MRm_readText 143 L (.int y :: .int x :: st) h = Rr X d MRm_readText 144 L (.int (x * y) :: st) h := Rr_nx d_MRm_readText_143 rfl
theorem r_MRm_readText_144 {l0 l1 : Value} {x : Int32} : Rr X d MRm_readText 144 [l0, l1, .int x] st h = Rr X d MRm_readText 145 [l0, l1, .int x] (.int x :: st) h := Rr_nx d_MRm_readText_144 rfl
theorem r_MRm_readText_145 {x y : Int32} : Rr X d MRm_readText 145 L (.int y :: .int x :: st) h = Rr X d MRm_readText 146 L (.int (x + y) :: st) h := Rr_nx d_MRm_readText_145 rfl
theorem r_MRm_readText_146 {l1 l2 : Value} {x : Nat} : Rr X d MRm_readText 146 [.ref x, l1, l2] st h = Rr X d MRm_readText 147 [.ref x, l1, l2] (.ref x :: st) h := Rr_nx d_MRm_readText_146 rfl
theorem r_MRm_readText_147 {a : Nat} (hq : (qR a 10 23).isSome = true) : Rr X d MRm_readText 147 L (.ref a :: st) (Wd mu la ro et) = Rr X d MRm_readText 150 L (.ref (qRd a 10 23) :: st) (Wd mu la ro et) := R_gfR d_MRm_readText_147 ff_10_44 hq
theorem r_MRm_readText_150 : Rr X d MRm_readText 150 L st h = Rr X d MRm_readText 153 L (.int (520) :: st) h := Rr_nx d_MRm_readText_150 rfl
theorem r_MRm_readText_153 {l0 l1 : Value} {x : Int32} : Rr X d MRm_readText 153 [l0, l1, .int x] st h = Rr X d MRm_readText 154 [l0, l1, .int x] (.int x :: st) h := Rr_nx d_MRm_readText_153 rfl
theorem r_MRm_readText_154 {x y : Int32} : Rr X d MRm_readText 154 L (.int y :: .int x :: st) h = Rr X d MRm_readText 155 L (.int (x + y) :: st) h := Rr_nx d_MRm_readText_154 rfl
theorem r_MRm_readText_155 {a : Nat} {j : Int32} (hq : (qA a 0).isSome = true) : Rr X d MRm_readText 155 L (.int j :: .ref a :: st) (Wd mu la ro et) = if j < 0 ∨ qAd a 0 ≤ j.toNatClampNeg then none else Rr X d MRm_readText 156 L (.int (mu a j.toNatClampNeg) :: st) (Wd mu la ro et) := R_ialW d_MRm_readText_155 hq
theorem r_MRm_readText_156 {a : Nat} {j x : Int32} (hq : (qA a 0).isSome = true) : Rr X d MRm_readText 156 L (.int x :: .int j :: .ref a :: st) (Wd mu la ro et) = if j < 0 ∨ qAd a 0 ≤ j.toNatClampNeg then none else Rr X d MRm_readText 157 L st (Wd (up2 mu a j.toNatClampNeg (x)) la ro et) := R_iasW d_MRm_readText_156 hq
theorem r_MRm_readText_157 {l0 l1 : Value} {x : Int32} : Rr X d MRm_readText 157 [l0, l1, .int x] st h = Rr X d MRm_readText 160 (sL [l0, l1, .int x] 2 (.int (x + (1)))) st h := Rr_nx d_MRm_readText_157 rfl
theorem r_MRm_readText_160 : Rr X d MRm_readText 160 L st h = Rr X d MRm_readText 105 L st h := R_goto d_MRm_readText_160 (by decide)
theorem r_MRm_readText_163 {l1 l2 : Value} {x : Nat} : Rr X d MRm_readText 163 [.ref x, l1, l2] st h = Rr X d MRm_readText 164 [.ref x, l1, l2] (.ref x :: st) h := Rr_nx d_MRm_readText_163 rfl
theorem r_MRm_readText_164 {a : Nat} (hq : (qR a 10 24).isSome = true) : Rr X d MRm_readText 164 L (.ref a :: st) (Wd mu la ro et) = Rr X d MRm_readText 167 L (.ref (qRd a 10 24) :: st) (Wd mu la ro et) := R_gfR d_MRm_readText_164 ff_10_47 hq
theorem r_MRm_readText_167 {l0 l2 : Value} {x : Int32} : Rr X d MRm_readText 167 [l0, .int x, l2] st h = Rr X d MRm_readText 168 [l0, .int x, l2] (.int x :: st) h := Rr_nx d_MRm_readText_167 rfl
theorem r_MRm_readText_168 {l1 l2 : Value} {x : Nat} : Rr X d MRm_readText 168 [.ref x, l1, l2] st h = Rr X d MRm_readText 169 [.ref x, l1, l2] (.ref x :: st) h := Rr_nx d_MRm_readText_168 rfl
theorem r_MRm_readText_169 {a : Nat} (hq : (qR a 10 24).isSome = true) : Rr X d MRm_readText 169 L (.ref a :: st) (Wd mu la ro et) = Rr X d MRm_readText 172 L (.ref (qRd a 10 24) :: st) (Wd mu la ro et) := R_gfR d_MRm_readText_169 ff_10_47 hq
theorem r_MRm_readText_172 : Rr X d MRm_readText 172 L st h = Rr X d MRm_readText 173 L (.int (4) :: st) h := Rr_nx d_MRm_readText_172 rfl
theorem r_MRm_readText_173 {a : Nat} {j : Int32} (hq : (qA a 0).isSome = true) : Rr X d MRm_readText 173 L (.int j :: .ref a :: st) (Wd mu la ro et) = if j < 0 ∨ qAd a 0 ≤ j.toNatClampNeg then none else Rr X d MRm_readText 174 L (.int (mu a j.toNatClampNeg) :: st) (Wd mu la ro et) := R_ialW d_MRm_readText_173 hq
theorem r_MRm_readText_174 {a : Nat} {j x : Int32} (hq : (qA a 0).isSome = true) : Rr X d MRm_readText 174 L (.int x :: .int j :: .ref a :: st) (Wd mu la ro et) = if j < 0 ∨ qAd a 0 ≤ j.toNatClampNeg then none else Rr X d MRm_readText 175 L st (Wd (up2 mu a j.toNatClampNeg (x)) la ro et) := R_iasW d_MRm_readText_174 hq
theorem r_MRm_readText_175 : Rr X d MRm_readText 175 L st h = Rr X d MRm_readText 176 L (.int (0) :: st) h := Rr_nx d_MRm_readText_175 rfl
theorem r_MRm_readText_176 {l0 l1 l2 : Value} {x : Int32} : Rr X d MRm_readText 176 [l0, l1, l2] (.int x :: st) h = Rr X d MRm_readText 177 (sL [l0, l1, l2] 2 (.int x)) st h := Rr_nx d_MRm_readText_176 rfl
theorem r_MRm_readText_177 {l0 l1 : Value} {x : Int32} : Rr X d MRm_readText 177 [l0, l1, .int x] st h = Rr X d MRm_readText 178 [l0, l1, .int x] (.int x :: st) h := Rr_nx d_MRm_readText_177 rfl
theorem r_MRm_readText_178 {l1 l2 : Value} {x : Nat} : Rr X d MRm_readText 178 [.ref x, l1, l2] st h = Rr X d MRm_readText 179 [.ref x, l1, l2] (.ref x :: st) h := Rr_nx d_MRm_readText_178 rfl
theorem r_MRm_readText_179 {a : Nat} (hq : (qR a 10 24).isSome = true) : Rr X d MRm_readText 179 L (.ref a :: st) (Wd mu la ro et) = Rr X d MRm_readText 182 L (.ref (qRd a 10 24) :: st) (Wd mu la ro et) := R_gfR d_MRm_readText_179 ff_10_47 hq
theorem r_MRm_readText_182 {l0 l2 : Value} {x : Int32} : Rr X d MRm_readText 182 [l0, .int x, l2] st h = Rr X d MRm_readText 183 [l0, .int x, l2] (.int x :: st) h := Rr_nx d_MRm_readText_182 rfl
theorem r_MRm_readText_183 {a : Nat} {j : Int32} (hq : (qA a 0).isSome = true) : Rr X d MRm_readText 183 L (.int j :: .ref a :: st) (Wd mu la ro et) = if j < 0 ∨ qAd a 0 ≤ j.toNatClampNeg then none else Rr X d MRm_readText 184 L (.int (mu a j.toNatClampNeg) :: st) (Wd mu la ro et) := R_ialW d_MRm_readText_183 hq
theorem r_MRm_readText_184 {x y : Int32} : Rr X d MRm_readText 184 L (.int y :: .int x :: st) h = if y ≤ x then Rr X d MRm_readText 235 L st h else Rr X d MRm_readText 187 L st h := R_ic_ge d_MRm_readText_184 (by decide)
theorem r_MRm_readText_187 {l1 l2 : Value} {x : Nat} : Rr X d MRm_readText 187 [.ref x, l1, l2] st h = Rr X d MRm_readText 188 [.ref x, l1, l2] (.ref x :: st) h := Rr_nx d_MRm_readText_187 rfl
theorem r_MRm_readText_188 {a : Nat} (hq : (qR a 10 25).isSome = true) : Rr X d MRm_readText 188 L (.ref a :: st) (Wd mu la ro et) = Rr X d MRm_readText 191 L (.ref (qRd a 10 25) :: st) (Wd mu la ro et) := R_gfR d_MRm_readText_188 ff_10_50 hq
theorem r_MRm_readText_191 : Rr X d MRm_readText 191 L st h = Rr X d MRm_readText 193 L (.int (61) :: st) h := Rr_nx d_MRm_readText_191 rfl
theorem r_MRm_readText_193 {l0 l2 : Value} {x : Int32} : Rr X d MRm_readText 193 [l0, .int x, l2] st h = Rr X d MRm_readText 194 [l0, .int x, l2] (.int x :: st) h := Rr_nx d_MRm_readText_193 rfl
theorem r_MRm_readText_194 {x y : Int32} : Rr X d MRm_readText 194 L (.int y :: .int x :: st) h = Rr X d MRm_readText 195 L (.int (x * y) :: st) h := Rr_nx d_MRm_readText_194 rfl
theorem r_MRm_readText_195 {l0 l1 : Value} {x : Int32} : Rr X d MRm_readText 195 [l0, l1, .int x] st h = Rr X d MRm_readText 196 [l0, l1, .int x] (.int x :: st) h := Rr_nx d_MRm_readText_195 rfl
theorem r_MRm_readText_196 {x y : Int32} : Rr X d MRm_readText 196 L (.int y :: .int x :: st) h = Rr X d MRm_readText 197 L (.int (x + y) :: st) h := Rr_nx d_MRm_readText_196 rfl
theorem r_MRm_readText_197 {l1 l2 : Value} {x : Nat} : Rr X d MRm_readText 197 [.ref x, l1, l2] st h = Rr X d MRm_readText 198 [.ref x, l1, l2] (.ref x :: st) h := Rr_nx d_MRm_readText_197 rfl
theorem r_MRm_readText_198 {a : Nat} (hq : (qR a 10 25).isSome = true) : Rr X d MRm_readText 198 L (.ref a :: st) (Wd mu la ro et) = Rr X d MRm_readText 201 L (.ref (qRd a 10 25) :: st) (Wd mu la ro et) := R_gfR d_MRm_readText_198 ff_10_50 hq
theorem r_MRm_readText_201 : Rr X d MRm_readText 201 L st h = Rr X d MRm_readText 204 L (.int (244) :: st) h := Rr_nx d_MRm_readText_201 rfl
theorem r_MRm_readText_204 {l0 l1 : Value} {x : Int32} : Rr X d MRm_readText 204 [l0, l1, .int x] st h = Rr X d MRm_readText 205 [l0, l1, .int x] (.int x :: st) h := Rr_nx d_MRm_readText_204 rfl
theorem r_MRm_readText_205 {x y : Int32} : Rr X d MRm_readText 205 L (.int y :: .int x :: st) h = Rr X d MRm_readText 206 L (.int (x + y) :: st) h := Rr_nx d_MRm_readText_205 rfl
theorem r_MRm_readText_206 {a : Nat} {j : Int32} (hq : (qA a 3).isSome = true) : Rr X d MRm_readText 206 L (.int j :: .ref a :: st) (Wd mu la ro et) = if j < 0 ∨ qAd a 3 ≤ j.toNatClampNeg then none else Rr X d MRm_readText 207 L (.int (mu a j.toNatClampNeg) :: st) (Wd mu la ro et) := R_salW d_MRm_readText_206 hq
theorem r_MRm_readText_207 {a : Nat} {j x : Int32} (hq : (qA a 3).isSome = true) : Rr X d MRm_readText 207 L (.int x :: .int j :: .ref a :: st) (Wd mu la ro et) = if j < 0 ∨ qAd a 3 ≤ j.toNatClampNeg then none else Rr X d MRm_readText 208 L st (Wd (up2 mu a j.toNatClampNeg (x.toInt16.toInt32)) la ro et) := R_sasW d_MRm_readText_207 hq
theorem r_MRm_readText_208 {l1 l2 : Value} {x : Nat} : Rr X d MRm_readText 208 [.ref x, l1, l2] st h = Rr X d MRm_readText 209 [.ref x, l1, l2] (.ref x :: st) h := Rr_nx d_MRm_readText_208 rfl
theorem r_MRm_readText_209 {a : Nat} (hq : (qR a 10 26).isSome = true) : Rr X d MRm_readText 209 L (.ref a :: st) (Wd mu la ro et) = Rr X d MRm_readText 212 L (.ref (qRd a 10 26) :: st) (Wd mu la ro et) := R_gfR d_MRm_readText_209 ff_10_54 hq
theorem r_MRm_readText_212 : Rr X d MRm_readText 212 L st h = Rr X d MRm_readText 214 L (.int (61) :: st) h := Rr_nx d_MRm_readText_212 rfl
theorem r_MRm_readText_214 {l0 l2 : Value} {x : Int32} : Rr X d MRm_readText 214 [l0, .int x, l2] st h = Rr X d MRm_readText 215 [l0, .int x, l2] (.int x :: st) h := Rr_nx d_MRm_readText_214 rfl
theorem r_MRm_readText_215 {x y : Int32} : Rr X d MRm_readText 215 L (.int y :: .int x :: st) h = Rr X d MRm_readText 216 L (.int (x * y) :: st) h := Rr_nx d_MRm_readText_215 rfl
theorem r_MRm_readText_216 {l0 l1 : Value} {x : Int32} : Rr X d MRm_readText 216 [l0, l1, .int x] st h = Rr X d MRm_readText 217 [l0, l1, .int x] (.int x :: st) h := Rr_nx d_MRm_readText_216 rfl
theorem r_MRm_readText_217 {x y : Int32} : Rr X d MRm_readText 217 L (.int y :: .int x :: st) h = Rr X d MRm_readText 218 L (.int (x + y) :: st) h := Rr_nx d_MRm_readText_217 rfl
theorem r_MRm_readText_218 {l1 l2 : Value} {x : Nat} : Rr X d MRm_readText 218 [.ref x, l1, l2] st h = Rr X d MRm_readText 219 [.ref x, l1, l2] (.ref x :: st) h := Rr_nx d_MRm_readText_218 rfl
theorem r_MRm_readText_219 {a : Nat} (hq : (qR a 10 26).isSome = true) : Rr X d MRm_readText 219 L (.ref a :: st) (Wd mu la ro et) = Rr X d MRm_readText 222 L (.ref (qRd a 10 26) :: st) (Wd mu la ro et) := R_gfR d_MRm_readText_219 ff_10_54 hq
theorem r_MRm_readText_222 : Rr X d MRm_readText 222 L st h = Rr X d MRm_readText 225 L (.int (244) :: st) h := Rr_nx d_MRm_readText_222 rfl
theorem r_MRm_readText_225 {l0 l1 : Value} {x : Int32} : Rr X d MRm_readText 225 [l0, l1, .int x] st h = Rr X d MRm_readText 226 [l0, l1, .int x] (.int x :: st) h := Rr_nx d_MRm_readText_225 rfl
theorem r_MRm_readText_226 {x y : Int32} : Rr X d MRm_readText 226 L (.int y :: .int x :: st) h = Rr X d MRm_readText 227 L (.int (x + y) :: st) h := Rr_nx d_MRm_readText_226 rfl
theorem r_MRm_readText_227 {a : Nat} {j : Int32} (hq : (qA a 3).isSome = true) : Rr X d MRm_readText 227 L (.int j :: .ref a :: st) (Wd mu la ro et) = if j < 0 ∨ qAd a 3 ≤ j.toNatClampNeg then none else Rr X d MRm_readText 228 L (.int (mu a j.toNatClampNeg) :: st) (Wd mu la ro et) := R_salW d_MRm_readText_227 hq
theorem r_MRm_readText_228 {a : Nat} {j x : Int32} (hq : (qA a 3).isSome = true) : Rr X d MRm_readText 228 L (.int x :: .int j :: .ref a :: st) (Wd mu la ro et) = if j < 0 ∨ qAd a 3 ≤ j.toNatClampNeg then none else Rr X d MRm_readText 229 L st (Wd (up2 mu a j.toNatClampNeg (x.toInt16.toInt32)) la ro et) := R_sasW d_MRm_readText_228 hq
theorem r_MRm_readText_229 {l0 l1 : Value} {x : Int32} : Rr X d MRm_readText 229 [l0, l1, .int x] st h = Rr X d MRm_readText 232 (sL [l0, l1, .int x] 2 (.int (x + (1)))) st h := Rr_nx d_MRm_readText_229 rfl
theorem r_MRm_readText_232 : Rr X d MRm_readText 232 L st h = Rr X d MRm_readText 177 L st h := R_goto d_MRm_readText_232 (by decide)
theorem r_MRm_readText_235 : Rr X d MRm_readText 235 L st h = Rr X d MRm_readText 236 L (.int (-1) :: st) h := Rr_nx d_MRm_readText_235 rfl
theorem r_MRm_readText_236 {x : Int32} : Rr X d MRm_readText 236 L [.int x] h = some (some (.int x), h) := R_ir d_MRm_readText_236 rfl
theorem d_MRm_isFloor_0 : decode MRm_isFloor.2.2.1 0 = .ok (.iload_n 1, 1) := by decide +kernel
theorem d_MRm_isFloor_1 : decode MRm_isFloor.2.2.1 1 = .ok (.iconst 0, 1) := by decide +kernel
theorem d_MRm_isFloor_2 : decode MRm_isFloor.2.2.1 2 = .ok (.aload_n 0, 1) := by decide +kernel
theorem d_MRm_isFloor_3 : decode MRm_isFloor.2.2.1 3 = .ok (.getfield 250, 3) := by decide +kernel
theorem d_MRm_isFloor_6 : decode MRm_isFloor.2.2.1 6 = .ok (.iconst 1, 1) := by decide +kernel
theorem d_MRm_isFloor_7 : decode MRm_isFloor.2.2.1 7 = .ok (.isub, 1) := by decide +kernel
theorem d_MRm_isFloor_8 : decode MRm_isFloor.2.2.1 8 = .ok (.invokestatic 107, 3) := by decide +kernel
theorem d_MRm_isFloor_11 : decode MRm_isFloor.2.2.1 11 = .ok (.ireturn, 1) := by decide +kernel
theorem r_MRm_isFloor_0 {l0 : Value} {x : Int32} : Rr X d MRm_isFloor 0 [l0, .int x] st h = Rr X d MRm_isFloor 1 [l0, .int x] (.int x :: st) h := Rr_nx d_MRm_isFloor_0 rfl
theorem r_MRm_isFloor_1 : Rr X d MRm_isFloor 1 L st h = Rr X d MRm_isFloor 2 L (.int (0) :: st) h := Rr_nx d_MRm_isFloor_1 rfl
theorem r_MRm_isFloor_2 {l1 : Value} {x : Nat} : Rr X d MRm_isFloor 2 [.ref x, l1] st h = Rr X d MRm_isFloor 3 [.ref x, l1] (.ref x :: st) h := Rr_nx d_MRm_isFloor_2 rfl
theorem ff_10_250 : fF 10 250 = some (10, 29, 0, 0) := rfl
theorem r_MRm_isFloor_3 {a : Nat} (hq : qI a 10 29 = true) : Rr X d MRm_isFloor 3 L (.ref a :: st) (Wd mu la ro et) = Rr X d MRm_isFloor 6 L (.int (mu a 29) :: st) (Wd mu la ro et) := R_gfI d_MRm_isFloor_3 ff_10_250 hq
theorem r_MRm_isFloor_6 : Rr X d MRm_isFloor 6 L st h = Rr X d MRm_isFloor 7 L (.int (1) :: st) h := Rr_nx d_MRm_isFloor_6 rfl
theorem r_MRm_isFloor_7 {x y : Int32} : Rr X d MRm_isFloor 7 L (.int y :: .int x :: st) h = Rr X d MRm_isFloor 8 L (.int (x - y) :: st) h := Rr_nx d_MRm_isFloor_7 rfl
theorem r_MRm_isFloor_8 {y0 : Int32} {y1 : Int32} {y2 : Int32} (hc : ckS st = true) : Rr X (d + 1) MRm_isFloor 8 L (.int y2 :: .int y1 :: .int y0 :: st) h = (Rr X d MRm_in 0 [.int y0, .int y1, .int y2] [] h).bind fun q => Rr X (d + 1) MRm_isFloor 11 L (psh q.1 st) q.2 := R_is (av := [.int y2, .int y1, .int y0]) d_MRm_isFloor_8 (Or.inl fc_10_107) (ckS_le hc) rfl (Nat.le_of_ble_eq_true rfl) (Nat.le_of_ble_eq_true rfl)
theorem r_MRm_isFloor_11 {x : Int32} : Rr X d MRm_isFloor 11 L [.int x] h = if x = 0 ∨ x = 1 then some (some (.int x), h) else none := R_zr d_MRm_isFloor_11 rfl
theorem d_MRm_floor_0 : decode MRm_floor.2.2.1 0 = .ok (.aload_n 0, 1) := by decide +kernel
theorem d_MRm_floor_1 : decode MRm_floor.2.2.1 1 = .ok (.getfield 250, 3) := by decide +kernel
theorem d_MRm_floor_4 : decode MRm_floor.2.2.1 4 = .ok (.iconst 4, 1) := by decide +kernel
theorem d_MRm_floor_5 : decode MRm_floor.2.2.1 5 = .ok (.if_icmp .ne 6, 3) := by decide +kernel
theorem d_MRm_floor_8 : decode MRm_floor.2.2.1 8 = .ok (.bipush (-3), 2) := by decide +kernel
theorem d_MRm_floor_10 : decode MRm_floor.2.2.1 10 = .ok (.ireturn, 1) := by decide +kernel
theorem d_MRm_floor_11 : decode MRm_floor.2.2.1 11 = .ok (.aload_n 0, 1) := by decide +kernel
theorem d_MRm_floor_12 : decode MRm_floor.2.2.1 12 = .ok (.aload_n 0, 1) := by decide +kernel
theorem d_MRm_floor_13 : decode MRm_floor.2.2.1 13 = .ok (.getfield 250, 3) := by decide +kernel
theorem d_MRm_floor_16 : decode MRm_floor.2.2.1 16 = .ok (.invokevirtual 253, 3) := by decide +kernel
theorem d_MRm_floor_19 : decode MRm_floor.2.2.1 19 = .ok (.istore_n 1, 1) := by decide +kernel
theorem d_MRm_floor_20 : decode MRm_floor.2.2.1 20 = .ok (.iload_n 1, 1) := by decide +kernel
theorem d_MRm_floor_21 : decode MRm_floor.2.2.1 21 = .ok (.ifCond .lt 8, 3) := by decide +kernel
theorem d_MRm_floor_24 : decode MRm_floor.2.2.1 24 = .ok (.bipush (-100), 2) := by decide +kernel
theorem d_MRm_floor_26 : decode MRm_floor.2.2.1 26 = .ok (.iload_n 1, 1) := by decide +kernel
theorem d_MRm_floor_27 : decode MRm_floor.2.2.1 27 = .ok (.isub, 1) := by decide +kernel
theorem d_MRm_floor_28 : decode MRm_floor.2.2.1 28 = .ok (.ireturn, 1) := by decide +kernel
theorem d_MRm_floor_29 : decode MRm_floor.2.2.1 29 = .ok (.aload_n 0, 1) := by decide +kernel
theorem d_MRm_floor_30 : decode MRm_floor.2.2.1 30 = .ok (.dup, 1) := by decide +kernel
theorem d_MRm_floor_31 : decode MRm_floor.2.2.1 31 = .ok (.getfield 250, 3) := by decide +kernel
theorem d_MRm_floor_34 : decode MRm_floor.2.2.1 34 = .ok (.iconst 1, 1) := by decide +kernel
theorem d_MRm_floor_35 : decode MRm_floor.2.2.1 35 = .ok (.iadd, 1) := by decide +kernel
theorem d_MRm_floor_36 : decode MRm_floor.2.2.1 36 = .ok (.putfield 250, 3) := by decide +kernel
theorem d_MRm_floor_39 : decode MRm_floor.2.2.1 39 = .ok (.aload_n 0, 1) := by decide +kernel
theorem d_MRm_floor_40 : decode MRm_floor.2.2.1 40 = .ok (.getfield 250, 3) := by decide +kernel
theorem d_MRm_floor_43 : decode MRm_floor.2.2.1 43 = .ok (.iconst 1, 1) := by decide +kernel
theorem d_MRm_floor_44 : decode MRm_floor.2.2.1 44 = .ok (.isub, 1) := by decide +kernel
theorem d_MRm_floor_45 : decode MRm_floor.2.2.1 45 = .ok (.ireturn, 1) := by decide +kernel
theorem r_MRm_floor_0 {l1 : Value} {x : Nat} : Rr X d MRm_floor 0 [.ref x, l1] st h = Rr X d MRm_floor 1 [.ref x, l1] (.ref x :: st) h := Rr_nx d_MRm_floor_0 rfl
theorem r_MRm_floor_1 {a : Nat} (hq : qI a 10 29 = true) : Rr X d MRm_floor 1 L (.ref a :: st) (Wd mu la ro et) = Rr X d MRm_floor 4 L (.int (mu a 29) :: st) (Wd mu la ro et) := R_gfI d_MRm_floor_1 ff_10_250 hq
theorem r_MRm_floor_4 : Rr X d MRm_floor 4 L st h = Rr X d MRm_floor 5 L (.int (4) :: st) h := Rr_nx d_MRm_floor_4 rfl
theorem r_MRm_floor_5 {x y : Int32} : Rr X d MRm_floor 5 L (.int y :: .int x :: st) h = if ¬ x = y then Rr X d MRm_floor 11 L st h else Rr X d MRm_floor 8 L st h := R_ic_ne d_MRm_floor_5 (by decide)
theorem r_MRm_floor_8 : Rr X d MRm_floor 8 L st h = Rr X d MRm_floor 10 L (.int (-3) :: st) h := Rr_nx d_MRm_floor_8 rfl
theorem r_MRm_floor_10 {x : Int32} : Rr X d MRm_floor 10 L [.int x] h = some (some (.int x), h) := R_ir d_MRm_floor_10 rfl
theorem r_MRm_floor_11 {l1 : Value} {x : Nat} : Rr X d MRm_floor 11 [.ref x, l1] st h = Rr X d MRm_floor 12 [.ref x, l1] (.ref x :: st) h := Rr_nx d_MRm_floor_11 rfl
theorem r_MRm_floor_12 {l1 : Value} {x : Nat} : Rr X d MRm_floor 12 [.ref x, l1] st h = Rr X d MRm_floor 13 [.ref x, l1] (.ref x :: st) h := Rr_nx d_MRm_floor_12 rfl
theorem r_MRm_floor_13 {a : Nat} (hq : qI a 10 29 = true) : Rr X d MRm_floor 13 L (.ref a :: st) (Wd mu la ro et) = Rr X d MRm_floor 16 L (.int (mu a 29) :: st) (Wd mu la ro et) := R_gfI d_MRm_floor_13 ff_10_250 hq
theorem fc_10_253 : fC 10 253 = some (0, 10, 1, MRm_readText) := rfl
theorem r_MRm_floor_16 {y0 : Int32} {a : Nat} (hO : qO a 10 = true) (hc : ckS st = true) : Rr X (d + 1) MRm_floor 16 L (.int y0 :: .ref a :: st) (Wd mu la ro et) = (Rr X d MRm_readText 0 [.ref a, .int y0, mkU] [] (Wd mu la ro et)).bind fun q => Rr X (d + 1) MRm_floor 19 L (psh q.1 st) q.2 := R_iv (av := [.int y0]) d_MRm_floor_16 fc_10_253 hO (ckS_le hc) rfl (Nat.le_of_ble_eq_true rfl) (Nat.le_of_ble_eq_true rfl)
theorem r_MRm_floor_19 {l0 l1 : Value} {x : Int32} : Rr X d MRm_floor 19 [l0, l1] (.int x :: st) h = Rr X d MRm_floor 20 (sL [l0, l1] 1 (.int x)) st h := Rr_nx d_MRm_floor_19 rfl
theorem r_MRm_floor_20 {l0 : Value} {x : Int32} : Rr X d MRm_floor 20 [l0, .int x] st h = Rr X d MRm_floor 21 [l0, .int x] (.int x :: st) h := Rr_nx d_MRm_floor_20 rfl
theorem r_MRm_floor_21 {x : Int32} : Rr X d MRm_floor 21 L (.int x :: st) h = if x < 0 then Rr X d MRm_floor 29 L st h else Rr X d MRm_floor 24 L st h := R_if_lt d_MRm_floor_21 (by decide)
theorem r_MRm_floor_24 : Rr X d MRm_floor 24 L st h = Rr X d MRm_floor 26 L (.int (-100) :: st) h := Rr_nx d_MRm_floor_24 rfl
theorem r_MRm_floor_26 {l0 : Value} {x : Int32} : Rr X d MRm_floor 26 [l0, .int x] st h = Rr X d MRm_floor 27 [l0, .int x] (.int x :: st) h := Rr_nx d_MRm_floor_26 rfl
theorem r_MRm_floor_27 {x y : Int32} : Rr X d MRm_floor 27 L (.int y :: .int x :: st) h = Rr X d MRm_floor 28 L (.int (x - y) :: st) h := Rr_nx d_MRm_floor_27 rfl
theorem r_MRm_floor_28 {x : Int32} : Rr X d MRm_floor 28 L [.int x] h = some (some (.int x), h) := R_ir d_MRm_floor_28 rfl
theorem r_MRm_floor_29 {l1 : Value} {x : Nat} : Rr X d MRm_floor 29 [.ref x, l1] st h = Rr X d MRm_floor 30 [.ref x, l1] (.ref x :: st) h := Rr_nx d_MRm_floor_29 rfl
theorem r_MRm_floor_30 {x : Nat} : Rr X d MRm_floor 30 L (.ref x :: st) h = Rr X d MRm_floor 31 L (.ref x :: .ref x :: st) h := Rr_nx d_MRm_floor_30 rfl
theorem r_MRm_floor_30i {x : Int32} : Rr X d MRm_floor 30 L (.int x :: st) h = Rr X d MRm_floor 31 L (.int x :: .int x :: st) h := Rr_nx d_MRm_floor_30 rfl
theorem r_MRm_floor_31 {a : Nat} (hq : qI a 10 29 = true) : Rr X d MRm_floor 31 L (.ref a :: st) (Wd mu la ro et) = Rr X d MRm_floor 34 L (.int (mu a 29) :: st) (Wd mu la ro et) := R_gfI d_MRm_floor_31 ff_10_250 hq
theorem r_MRm_floor_34 : Rr X d MRm_floor 34 L st h = Rr X d MRm_floor 35 L (.int (1) :: st) h := Rr_nx d_MRm_floor_34 rfl
theorem r_MRm_floor_35 {x y : Int32} : Rr X d MRm_floor 35 L (.int y :: .int x :: st) h = Rr X d MRm_floor 36 L (.int (x + y) :: st) h := Rr_nx d_MRm_floor_35 rfl
theorem r_MRm_floor_36 {a : Nat} {x : Int32} (hq : qI a 10 29 = true) : Rr X d MRm_floor 36 L (.int x :: .ref a :: st) (Wd mu la ro et) = Rr X d MRm_floor 39 L st (Wd (up2 mu a 29 x) la ro et) := R_pfI d_MRm_floor_36 ff_10_250 hq
theorem r_MRm_floor_39 {l1 : Value} {x : Nat} : Rr X d MRm_floor 39 [.ref x, l1] st h = Rr X d MRm_floor 40 [.ref x, l1] (.ref x :: st) h := Rr_nx d_MRm_floor_39 rfl
theorem r_MRm_floor_40 {a : Nat} (hq : qI a 10 29 = true) : Rr X d MRm_floor 40 L (.ref a :: st) (Wd mu la ro et) = Rr X d MRm_floor 43 L (.int (mu a 29) :: st) (Wd mu la ro et) := R_gfI d_MRm_floor_40 ff_10_250 hq
theorem r_MRm_floor_43 : Rr X d MRm_floor 43 L st h = Rr X d MRm_floor 44 L (.int (1) :: st) h := Rr_nx d_MRm_floor_43 rfl
theorem r_MRm_floor_44 {x y : Int32} : Rr X d MRm_floor 44 L (.int y :: .int x :: st) h = Rr X d MRm_floor 45 L (.int (x - y) :: st) h := Rr_nx d_MRm_floor_44 rfl
theorem r_MRm_floor_45 {x : Int32} : Rr X d MRm_floor 45 L [.int x] h = some (some (.int x), h) := R_ir d_MRm_floor_45 rfl
theorem d_MRm_grows_0 : decode MRm_grows.2.2.1 0 = .ok (.aload_n 0, 1) := by decide +kernel
theorem d_MRm_grows_1 : decode MRm_grows.2.2.1 1 = .ok (.iload_n 1, 1) := by decide +kernel
theorem d_MRm_grows_2 : decode MRm_grows.2.2.1 2 = .ok (.invokevirtual 173, 3) := by decide +kernel
theorem d_MRm_grows_5 : decode MRm_grows.2.2.1 5 = .ok (.ifCond .eq 13, 3) := by decide +kernel
theorem d_MRm_grows_8 : decode MRm_grows.2.2.1 8 = .ok (.iload_n 2, 1) := by decide +kernel
theorem d_MRm_grows_9 : decode MRm_grows.2.2.1 9 = .ok (.iconst 1, 1) := by decide +kernel
theorem d_MRm_grows_10 : decode MRm_grows.2.2.1 10 = .ok (.if_icmp .eq 10, 3) := by decide +kernel
theorem d_MRm_grows_13 : decode MRm_grows.2.2.1 13 = .ok (.iload_n 2, 1) := by decide +kernel
theorem d_MRm_grows_14 : decode MRm_grows.2.2.1 14 = .ok (.iconst (-1), 1) := by decide +kernel
theorem d_MRm_grows_15 : decode MRm_grows.2.2.1 15 = .ok (.if_icmp .eq 5, 3) := by decide +kernel
theorem d_MRm_grows_18 : decode MRm_grows.2.2.1 18 = .ok (.iconst (-1), 1) := by decide +kernel
theorem d_MRm_grows_19 : decode MRm_grows.2.2.1 19 = .ok (.ireturn, 1) := by decide +kernel
theorem d_MRm_grows_20 : decode MRm_grows.2.2.1 20 = .ok (.aload_n 0, 1) := by decide +kernel
theorem d_MRm_grows_21 : decode MRm_grows.2.2.1 21 = .ok (.iload_n 1, 1) := by decide +kernel
theorem d_MRm_grows_22 : decode MRm_grows.2.2.1 22 = .ok (.invokevirtual 177, 3) := by decide +kernel
theorem d_MRm_grows_25 : decode MRm_grows.2.2.1 25 = .ok (.iload_n 2, 1) := by decide +kernel
theorem d_MRm_grows_26 : decode MRm_grows.2.2.1 26 = .ok (.imul, 1) := by decide +kernel
theorem d_MRm_grows_27 : decode MRm_grows.2.2.1 27 = .ok (.istore_n 3, 1) := by decide +kernel
theorem d_MRm_grows_28 : decode MRm_grows.2.2.1 28 = .ok (.iload_n 3, 1) := by decide +kernel
theorem d_MRm_grows_29 : decode MRm_grows.2.2.1 29 = .ok (.ifCond .le 7, 3) := by decide +kernel
theorem d_MRm_grows_32 : decode MRm_grows.2.2.1 32 = .ok (.iconst 1, 1) := by decide +kernel
theorem d_MRm_grows_33 : decode MRm_grows.2.2.1 33 = .ok (.goto 12, 3) := by decide +kernel
theorem d_MRm_grows_36 : decode MRm_grows.2.2.1 36 = .ok (.iload_n 3, 1) := by decide +kernel
theorem d_MRm_grows_37 : decode MRm_grows.2.2.1 37 = .ok (.ifCond .ge 7, 3) := by decide +kernel
theorem d_MRm_grows_40 : decode MRm_grows.2.2.1 40 = .ok (.iconst 2, 1) := by decide +kernel
theorem d_MRm_grows_41 : decode MRm_grows.2.2.1 41 = .ok (.goto 4, 3) := by decide +kernel
theorem d_MRm_grows_44 : decode MRm_grows.2.2.1 44 = .ok (.iconst 0, 1) := by decide +kernel
theorem d_MRm_grows_45 : decode MRm_grows.2.2.1 45 = .ok (.ireturn, 1) := by decide +kernel
theorem r_MRm_grows_0 {l1 l2 l3 : Value} {x : Nat} : Rr X d MRm_grows 0 [.ref x, l1, l2, l3] st h = Rr X d MRm_grows 1 [.ref x, l1, l2, l3] (.ref x :: st) h := Rr_nx d_MRm_grows_0 rfl
theorem r_MRm_grows_1 {l0 l2 l3 : Value} {x : Int32} : Rr X d MRm_grows 1 [l0, .int x, l2, l3] st h = Rr X d MRm_grows 2 [l0, .int x, l2, l3] (.int x :: st) h := Rr_nx d_MRm_grows_1 rfl
theorem r_MRm_grows_2 {y0 : Int32} {a : Nat} (hO : qO a 10 = true) (hc : ckS st = true) : Rr X (d + 1) MRm_grows 2 L (.int y0 :: .ref a :: st) (Wd mu la ro et) = (Rr X d MRm_isStone 0 [.ref a, .int y0] [] (Wd mu la ro et)).bind fun q => Rr X (d + 1) MRm_grows 5 L (psh q.1 st) q.2 := R_iv (av := [.int y0]) d_MRm_grows_2 fc_10_173 hO (ckS_le hc) rfl (Nat.le_of_ble_eq_true rfl) (Nat.le_of_ble_eq_true rfl)
theorem r_MRm_grows_5 {x : Int32} : Rr X d MRm_grows 5 L (.int x :: st) h = if x = 0 then Rr X d MRm_grows 18 L st h else Rr X d MRm_grows 8 L st h := R_if_eq d_MRm_grows_5 (by decide)
theorem r_MRm_grows_8 {l0 l1 l3 : Value} {x : Int32} : Rr X d MRm_grows 8 [l0, l1, .int x, l3] st h = Rr X d MRm_grows 9 [l0, l1, .int x, l3] (.int x :: st) h := Rr_nx d_MRm_grows_8 rfl
theorem r_MRm_grows_9 : Rr X d MRm_grows 9 L st h = Rr X d MRm_grows 10 L (.int (1) :: st) h := Rr_nx d_MRm_grows_9 rfl
theorem r_MRm_grows_10 {x y : Int32} : Rr X d MRm_grows 10 L (.int y :: .int x :: st) h = if x = y then Rr X d MRm_grows 20 L st h else Rr X d MRm_grows 13 L st h := R_ic_eq d_MRm_grows_10 (by decide)
theorem r_MRm_grows_13 {l0 l1 l3 : Value} {x : Int32} : Rr X d MRm_grows 13 [l0, l1, .int x, l3] st h = Rr X d MRm_grows 14 [l0, l1, .int x, l3] (.int x :: st) h := Rr_nx d_MRm_grows_13 rfl
theorem r_MRm_grows_14 : Rr X d MRm_grows 14 L st h = Rr X d MRm_grows 15 L (.int (-1) :: st) h := Rr_nx d_MRm_grows_14 rfl
theorem r_MRm_grows_15 {x y : Int32} : Rr X d MRm_grows 15 L (.int y :: .int x :: st) h = if x = y then Rr X d MRm_grows 20 L st h else Rr X d MRm_grows 18 L st h := R_ic_eq d_MRm_grows_15 (by decide)
theorem r_MRm_grows_18 : Rr X d MRm_grows 18 L st h = Rr X d MRm_grows 19 L (.int (-1) :: st) h := Rr_nx d_MRm_grows_18 rfl
theorem r_MRm_grows_19 {x : Int32} : Rr X d MRm_grows 19 L [.int x] h = some (some (.int x), h) := R_ir d_MRm_grows_19 rfl
theorem r_MRm_grows_20 {l1 l2 l3 : Value} {x : Nat} : Rr X d MRm_grows 20 [.ref x, l1, l2, l3] st h = Rr X d MRm_grows 21 [.ref x, l1, l2, l3] (.ref x :: st) h := Rr_nx d_MRm_grows_20 rfl
theorem r_MRm_grows_21 {l0 l2 l3 : Value} {x : Int32} : Rr X d MRm_grows 21 [l0, .int x, l2, l3] st h = Rr X d MRm_grows 22 [l0, .int x, l2, l3] (.int x :: st) h := Rr_nx d_MRm_grows_21 rfl
theorem r_MRm_grows_22 {y0 : Int32} {a : Nat} (hO : qO a 10 = true) (hc : ckS st = true) : Rr X (d + 1) MRm_grows 22 L (.int y0 :: .ref a :: st) (Wd mu la ro et) = (Rr X d MRm_keenOf 0 [.ref a, .int y0] [] (Wd mu la ro et)).bind fun q => Rr X (d + 1) MRm_grows 25 L (psh q.1 st) q.2 := R_iv (av := [.int y0]) d_MRm_grows_22 fc_10_177 hO (ckS_le hc) rfl (Nat.le_of_ble_eq_true rfl) (Nat.le_of_ble_eq_true rfl)
theorem r_MRm_grows_25 {l0 l1 l3 : Value} {x : Int32} : Rr X d MRm_grows 25 [l0, l1, .int x, l3] st h = Rr X d MRm_grows 26 [l0, l1, .int x, l3] (.int x :: st) h := Rr_nx d_MRm_grows_25 rfl
theorem r_MRm_grows_26 {x y : Int32} : Rr X d MRm_grows 26 L (.int y :: .int x :: st) h = Rr X d MRm_grows 27 L (.int (x * y) :: st) h := Rr_nx d_MRm_grows_26 rfl
theorem r_MRm_grows_27 {l0 l1 l2 l3 : Value} {x : Int32} : Rr X d MRm_grows 27 [l0, l1, l2, l3] (.int x :: st) h = Rr X d MRm_grows 28 (sL [l0, l1, l2, l3] 3 (.int x)) st h := Rr_nx d_MRm_grows_27 rfl
theorem r_MRm_grows_28 {l0 l1 l2 : Value} {x : Int32} : Rr X d MRm_grows 28 [l0, l1, l2, .int x] st h = Rr X d MRm_grows 29 [l0, l1, l2, .int x] (.int x :: st) h := Rr_nx d_MRm_grows_28 rfl
theorem r_MRm_grows_29 {x : Int32} : Rr X d MRm_grows 29 L (.int x :: st) h = if x ≤ 0 then Rr X d MRm_grows 36 L st h else Rr X d MRm_grows 32 L st h := R_if_le d_MRm_grows_29 (by decide)
theorem r_MRm_grows_32 : Rr X d MRm_grows 32 L st h = Rr X d MRm_grows 33 L (.int (1) :: st) h := Rr_nx d_MRm_grows_32 rfl
theorem r_MRm_grows_33 : Rr X d MRm_grows 33 L st h = Rr X d MRm_grows 45 L st h := R_goto d_MRm_grows_33 (by decide)
theorem r_MRm_grows_36 {l0 l1 l2 : Value} {x : Int32} : Rr X d MRm_grows 36 [l0, l1, l2, .int x] st h = Rr X d MRm_grows 37 [l0, l1, l2, .int x] (.int x :: st) h := Rr_nx d_MRm_grows_36 rfl
theorem r_MRm_grows_37 {x : Int32} : Rr X d MRm_grows 37 L (.int x :: st) h = if 0 ≤ x then Rr X d MRm_grows 44 L st h else Rr X d MRm_grows 40 L st h := R_if_ge d_MRm_grows_37 (by decide)
theorem r_MRm_grows_40 : Rr X d MRm_grows 40 L st h = Rr X d MRm_grows 41 L (.int (2) :: st) h := Rr_nx d_MRm_grows_40 rfl
theorem r_MRm_grows_41 : Rr X d MRm_grows 41 L st h = Rr X d MRm_grows 45 L st h := R_goto d_MRm_grows_41 (by decide)
theorem r_MRm_grows_44 : Rr X d MRm_grows 44 L st h = Rr X d MRm_grows 45 L (.int (0) :: st) h := Rr_nx d_MRm_grows_44 rfl
theorem r_MRm_grows_45 {x : Int32} : Rr X d MRm_grows 45 L [.int x] h = some (some (.int x), h) := R_ir d_MRm_grows_45 rfl
theorem d_MRm_isStart_0 : decode MRm_isStart.2.2.1 0 = .ok (.iload_n 0, 1) := by decide +kernel
theorem d_MRm_isStart_1 : decode MRm_isStart.2.2.1 1 = .ok (.sipush (-999), 3) := by decide +kernel
theorem d_MRm_isStart_4 : decode MRm_isStart.2.2.1 4 = .ok (.sipush 999, 3) := by decide +kernel
theorem d_MRm_isStart_7 : decode MRm_isStart.2.2.1 7 = .ok (.invokestatic 107, 3) := by decide +kernel
theorem d_MRm_isStart_10 : decode MRm_isStart.2.2.1 10 = .ok (.ifCond .eq 18, 3) := by decide +kernel
theorem d_MRm_isStart_13 : decode MRm_isStart.2.2.1 13 = .ok (.iload_n 1, 1) := by decide +kernel
theorem d_MRm_isStart_14 : decode MRm_isStart.2.2.1 14 = .ok (.iconst 0, 1) := by decide +kernel
theorem d_MRm_isStart_15 : decode MRm_isStart.2.2.1 15 = .ok (.ldc_w 256, 3) := by decide +kernel
theorem d_MRm_isStart_18 : decode MRm_isStart.2.2.1 18 = .ok (.invokestatic 107, 3) := by decide +kernel
theorem d_MRm_isStart_21 : decode MRm_isStart.2.2.1 21 = .ok (.ifCond .eq 7, 3) := by decide +kernel
theorem d_MRm_isStart_24 : decode MRm_isStart.2.2.1 24 = .ok (.iconst 1, 1) := by decide +kernel
theorem d_MRm_isStart_25 : decode MRm_isStart.2.2.1 25 = .ok (.goto 4, 3) := by decide +kernel
theorem d_MRm_isStart_28 : decode MRm_isStart.2.2.1 28 = .ok (.iconst 0, 1) := by decide +kernel
theorem d_MRm_isStart_29 : decode MRm_isStart.2.2.1 29 = .ok (.ireturn, 1) := by decide +kernel
theorem r_MRm_isStart_0 {l1 : Value} {x : Int32} : Rr X d MRm_isStart 0 [.int x, l1] st h = Rr X d MRm_isStart 1 [.int x, l1] (.int x :: st) h := Rr_nx d_MRm_isStart_0 rfl
theorem r_MRm_isStart_1 : Rr X d MRm_isStart 1 L st h = Rr X d MRm_isStart 4 L (.int (-999) :: st) h := Rr_nx d_MRm_isStart_1 rfl
theorem r_MRm_isStart_4 : Rr X d MRm_isStart 4 L st h = Rr X d MRm_isStart 7 L (.int (999) :: st) h := Rr_nx d_MRm_isStart_4 rfl
theorem r_MRm_isStart_7 {y0 : Int32} {y1 : Int32} {y2 : Int32} (hc : ckS st = true) : Rr X (d + 1) MRm_isStart 7 L (.int y2 :: .int y1 :: .int y0 :: st) h = (Rr X d MRm_in 0 [.int y0, .int y1, .int y2] [] h).bind fun q => Rr X (d + 1) MRm_isStart 10 L (psh q.1 st) q.2 := R_is (av := [.int y2, .int y1, .int y0]) d_MRm_isStart_7 (Or.inl fc_10_107) (ckS_le hc) rfl (Nat.le_of_ble_eq_true rfl) (Nat.le_of_ble_eq_true rfl)
theorem r_MRm_isStart_10 {x : Int32} : Rr X d MRm_isStart 10 L (.int x :: st) h = if x = 0 then Rr X d MRm_isStart 28 L st h else Rr X d MRm_isStart 13 L st h := R_if_eq d_MRm_isStart_10 (by decide)
theorem r_MRm_isStart_13 {l0 : Value} {x : Int32} : Rr X d MRm_isStart 13 [l0, .int x] st h = Rr X d MRm_isStart 14 [l0, .int x] (.int x :: st) h := Rr_nx d_MRm_isStart_13 rfl
theorem r_MRm_isStart_14 : Rr X d MRm_isStart 14 L st h = Rr X d MRm_isStart 15 L (.int (0) :: st) h := Rr_nx d_MRm_isStart_14 rfl
theorem r_MRm_isStart_15 : Rr X d MRm_isStart 15 L st h = Rr X d MRm_isStart 18 L (.int (999999) :: st) h := Rr_nx d_MRm_isStart_15 rfl
theorem r_MRm_isStart_18 {y0 : Int32} {y1 : Int32} {y2 : Int32} (hc : ckS st = true) : Rr X (d + 1) MRm_isStart 18 L (.int y2 :: .int y1 :: .int y0 :: st) h = (Rr X d MRm_in 0 [.int y0, .int y1, .int y2] [] h).bind fun q => Rr X (d + 1) MRm_isStart 21 L (psh q.1 st) q.2 := R_is (av := [.int y2, .int y1, .int y0]) d_MRm_isStart_18 (Or.inl fc_10_107) (ckS_le hc) rfl (Nat.le_of_ble_eq_true rfl) (Nat.le_of_ble_eq_true rfl)
theorem r_MRm_isStart_21 {x : Int32} : Rr X d MRm_isStart 21 L (.int x :: st) h = if x = 0 then Rr X d MRm_isStart 28 L st h else Rr X d MRm_isStart 24 L st h := R_if_eq d_MRm_isStart_21 (by decide)
theorem r_MRm_isStart_24 : Rr X d MRm_isStart 24 L st h = Rr X d MRm_isStart 25 L (.int (1) :: st) h := Rr_nx d_MRm_isStart_24 rfl
theorem r_MRm_isStart_25 : Rr X d MRm_isStart 25 L st h = Rr X d MRm_isStart 29 L st h := R_goto d_MRm_isStart_25 (by decide)
theorem r_MRm_isStart_28 : Rr X d MRm_isStart 28 L st h = Rr X d MRm_isStart 29 L (.int (0) :: st) h := Rr_nx d_MRm_isStart_28 rfl
theorem r_MRm_isStart_29 {x : Int32} : Rr X d MRm_isStart 29 L [.int x] h = if x = 0 ∨ x = 1 then some (some (.int x), h) else none := R_zr d_MRm_isStart_29 rfl
theorem d_MRm_isGoing_0 : decode MRm_isGoing.2.2.1 0 = .ok (.iload_n 1, 1) := by decide +kernel
theorem d_MRm_isGoing_1 : decode MRm_isGoing.2.2.1 1 = .ok (.ifCond .lt 38, 3) := by decide +kernel
theorem d_MRm_isGoing_4 : decode MRm_isGoing.2.2.1 4 = .ok (.aload_n 0, 1) := by decide +kernel
theorem d_MRm_isGoing_5 : decode MRm_isGoing.2.2.1 5 = .ok (.iload_n 1, 1) := by decide +kernel
theorem d_MRm_isGoing_6 : decode MRm_isGoing.2.2.1 6 = .ok (.bipush 10, 2) := by decide +kernel
theorem d_MRm_isGoing_8 : decode MRm_isGoing.2.2.1 8 = .ok (.idiv, 1) := by decide +kernel
theorem d_MRm_isGoing_9 : decode MRm_isGoing.2.2.1 9 = .ok (.invokevirtual 173, 3) := by decide +kernel
theorem d_MRm_isGoing_12 : decode MRm_isGoing.2.2.1 12 = .ok (.ifCond .eq 27, 3) := by decide +kernel
theorem d_MRm_isGoing_15 : decode MRm_isGoing.2.2.1 15 = .ok (.iload_n 1, 1) := by decide +kernel
theorem d_MRm_isGoing_16 : decode MRm_isGoing.2.2.1 16 = .ok (.bipush 10, 2) := by decide +kernel
theorem d_MRm_isGoing_18 : decode MRm_isGoing.2.2.1 18 = .ok (.irem, 1) := by decide +kernel
theorem d_MRm_isGoing_19 : decode MRm_isGoing.2.2.1 19 = .ok (.bipush 9, 2) := by decide +kernel
theorem d_MRm_isGoing_21 : decode MRm_isGoing.2.2.1 21 = .ok (.if_icmp .eq 14, 3) := by decide +kernel
theorem d_MRm_isGoing_24 : decode MRm_isGoing.2.2.1 24 = .ok (.aload_n 0, 1) := by decide +kernel
theorem d_MRm_isGoing_25 : decode MRm_isGoing.2.2.1 25 = .ok (.iload_n 1, 1) := by decide +kernel
theorem d_MRm_isGoing_26 : decode MRm_isGoing.2.2.1 26 = .ok (.bipush 10, 2) := by decide +kernel
theorem d_MRm_isGoing_28 : decode MRm_isGoing.2.2.1 28 = .ok (.irem, 1) := by decide +kernel
theorem d_MRm_isGoing_29 : decode MRm_isGoing.2.2.1 29 = .ok (.invokevirtual 257, 3) := by decide +kernel
theorem d_MRm_isGoing_32 : decode MRm_isGoing.2.2.1 32 = .ok (.ifCond .eq 7, 3) := by decide +kernel
theorem d_MRm_isGoing_35 : decode MRm_isGoing.2.2.1 35 = .ok (.iconst 1, 1) := by decide +kernel
theorem d_MRm_isGoing_36 : decode MRm_isGoing.2.2.1 36 = .ok (.goto 4, 3) := by decide +kernel
theorem d_MRm_isGoing_39 : decode MRm_isGoing.2.2.1 39 = .ok (.iconst 0, 1) := by decide +kernel
theorem d_MRm_isGoing_40 : decode MRm_isGoing.2.2.1 40 = .ok (.ireturn, 1) := by decide +kernel
theorem r_MRm_isGoing_0 {l0 : Value} {x : Int32} : Rr X d MRm_isGoing 0 [l0, .int x] st h = Rr X d MRm_isGoing 1 [l0, .int x] (.int x :: st) h := Rr_nx d_MRm_isGoing_0 rfl
theorem r_MRm_isGoing_1 {x : Int32} : Rr X d MRm_isGoing 1 L (.int x :: st) h = if x < 0 then Rr X d MRm_isGoing 39 L st h else Rr X d MRm_isGoing 4 L st h := R_if_lt d_MRm_isGoing_1 (by decide)
theorem r_MRm_isGoing_4 {l1 : Value} {x : Nat} : Rr X d MRm_isGoing 4 [.ref x, l1] st h = Rr X d MRm_isGoing 5 [.ref x, l1] (.ref x :: st) h := Rr_nx d_MRm_isGoing_4 rfl
theorem r_MRm_isGoing_5 {l0 : Value} {x : Int32} : Rr X d MRm_isGoing 5 [l0, .int x] st h = Rr X d MRm_isGoing 6 [l0, .int x] (.int x :: st) h := Rr_nx d_MRm_isGoing_5 rfl
theorem r_MRm_isGoing_6 : Rr X d MRm_isGoing 6 L st h = Rr X d MRm_isGoing 8 L (.int (10) :: st) h := Rr_nx d_MRm_isGoing_6 rfl
theorem r_MRm_isGoing_8 {x y : Int32} : Rr X d MRm_isGoing 8 L (.int y :: .int x :: st) h = if y = 0 then none else Rr X d MRm_isGoing 9 L (.int (x / y) :: st) h := R_dv d_MRm_isGoing_8
theorem r_MRm_isGoing_9 {y0 : Int32} {a : Nat} (hO : qO a 10 = true) (hc : ckS st = true) : Rr X (d + 1) MRm_isGoing 9 L (.int y0 :: .ref a :: st) (Wd mu la ro et) = (Rr X d MRm_isStone 0 [.ref a, .int y0] [] (Wd mu la ro et)).bind fun q => Rr X (d + 1) MRm_isGoing 12 L (psh q.1 st) q.2 := R_iv (av := [.int y0]) d_MRm_isGoing_9 fc_10_173 hO (ckS_le hc) rfl (Nat.le_of_ble_eq_true rfl) (Nat.le_of_ble_eq_true rfl)
theorem r_MRm_isGoing_12 {x : Int32} : Rr X d MRm_isGoing 12 L (.int x :: st) h = if x = 0 then Rr X d MRm_isGoing 39 L st h else Rr X d MRm_isGoing 15 L st h := R_if_eq d_MRm_isGoing_12 (by decide)
theorem r_MRm_isGoing_15 {l0 : Value} {x : Int32} : Rr X d MRm_isGoing 15 [l0, .int x] st h = Rr X d MRm_isGoing 16 [l0, .int x] (.int x :: st) h := Rr_nx d_MRm_isGoing_15 rfl
theorem r_MRm_isGoing_16 : Rr X d MRm_isGoing 16 L st h = Rr X d MRm_isGoing 18 L (.int (10) :: st) h := Rr_nx d_MRm_isGoing_16 rfl
theorem r_MRm_isGoing_18 {x y : Int32} : Rr X d MRm_isGoing 18 L (.int y :: .int x :: st) h = if y = 0 then none else Rr X d MRm_isGoing 19 L (.int (x - x / y * y) :: st) h := R_rm d_MRm_isGoing_18
theorem r_MRm_isGoing_19 : Rr X d MRm_isGoing 19 L st h = Rr X d MRm_isGoing 21 L (.int (9) :: st) h := Rr_nx d_MRm_isGoing_19 rfl
theorem r_MRm_isGoing_21 {x y : Int32} : Rr X d MRm_isGoing 21 L (.int y :: .int x :: st) h = if x = y then Rr X d MRm_isGoing 35 L st h else Rr X d MRm_isGoing 24 L st h := R_ic_eq d_MRm_isGoing_21 (by decide)
theorem r_MRm_isGoing_24 {l1 : Value} {x : Nat} : Rr X d MRm_isGoing 24 [.ref x, l1] st h = Rr X d MRm_isGoing 25 [.ref x, l1] (.ref x :: st) h := Rr_nx d_MRm_isGoing_24 rfl
theorem r_MRm_isGoing_25 {l0 : Value} {x : Int32} : Rr X d MRm_isGoing 25 [l0, .int x] st h = Rr X d MRm_isGoing 26 [l0, .int x] (.int x :: st) h := Rr_nx d_MRm_isGoing_25 rfl
theorem r_MRm_isGoing_26 : Rr X d MRm_isGoing 26 L st h = Rr X d MRm_isGoing 28 L (.int (10) :: st) h := Rr_nx d_MRm_isGoing_26 rfl
theorem r_MRm_isGoing_28 {x y : Int32} : Rr X d MRm_isGoing 28 L (.int y :: .int x :: st) h = if y = 0 then none else Rr X d MRm_isGoing 29 L (.int (x - x / y * y) :: st) h := R_rm d_MRm_isGoing_28
theorem fc_10_257 : fC 10 257 = some (0, 10, 1, MRm_isFloor) := rfl
theorem r_MRm_isGoing_29 {y0 : Int32} {a : Nat} (hO : qO a 10 = true) (hc : ckS st = true) : Rr X (d + 1) MRm_isGoing 29 L (.int y0 :: .ref a :: st) (Wd mu la ro et) = (Rr X d MRm_isFloor 0 [.ref a, .int y0] [] (Wd mu la ro et)).bind fun q => Rr X (d + 1) MRm_isGoing 32 L (psh q.1 st) q.2 := R_iv (av := [.int y0]) d_MRm_isGoing_29 fc_10_257 hO (ckS_le hc) rfl (Nat.le_of_ble_eq_true rfl) (Nat.le_of_ble_eq_true rfl)
theorem r_MRm_isGoing_32 {x : Int32} : Rr X d MRm_isGoing 32 L (.int x :: st) h = if x = 0 then Rr X d MRm_isGoing 39 L st h else Rr X d MRm_isGoing 35 L st h := R_if_eq d_MRm_isGoing_32 (by decide)
theorem r_MRm_isGoing_35 : Rr X d MRm_isGoing 35 L st h = Rr X d MRm_isGoing 36 L (.int (1) :: st) h := Rr_nx d_MRm_isGoing_35 rfl
theorem r_MRm_isGoing_36 : Rr X d MRm_isGoing 36 L st h = Rr X d MRm_isGoing 40 L st h := R_goto d_MRm_isGoing_36 (by decide)
theorem r_MRm_isGoing_39 : Rr X d MRm_isGoing 39 L st h = Rr X d MRm_isGoing 40 L (.int (0) :: st) h := Rr_nx d_MRm_isGoing_39 rfl
theorem r_MRm_isGoing_40 {x : Int32} : Rr X d MRm_isGoing 40 L [.int x] h = if x = 0 ∨ x = 1 then some (some (.int x), h) else none := R_zr d_MRm_isGoing_40 rfl
theorem d_MRm_roll_0 : decode MRm_roll.2.2.1 0 = .ok (.aload_n 0, 1) := by decide +kernel
theorem d_MRm_roll_1 : decode MRm_roll.2.2.1 1 = .ok (.iload_n 1, 1) := by decide +kernel
theorem d_MRm_roll_2 : decode MRm_roll.2.2.1 2 = .ok (.invokevirtual 287, 3) := by decide +kernel
theorem d_MRm_roll_5 : decode MRm_roll.2.2.1 5 = .ok (.ifCond .eq 23, 3) := by decide +kernel
theorem d_MRm_roll_8 : decode MRm_roll.2.2.1 8 = .ok (.iload_n 2, 1) := by decide +kernel
theorem d_MRm_roll_9 : decode MRm_roll.2.2.1 9 = .ok (.iload_n 3, 1) := by decide +kernel
theorem d_MRm_roll_10 : decode MRm_roll.2.2.1 10 = .ok (.invokestatic 290, 3) := by decide +kernel
theorem d_MRm_roll_13 : decode MRm_roll.2.2.1 13 = .ok (.ifCond .eq 15, 3) := by decide +kernel
theorem d_MRm_roll_16 : decode MRm_roll.2.2.1 16 = .ok (.iload 4, 2) := by decide +kernel
theorem d_MRm_roll_18 : decode MRm_roll.2.2.1 18 = .ok (.iconst 0, 1) := by decide +kernel
theorem d_MRm_roll_19 : decode MRm_roll.2.2.1 19 = .ok (.sipush 400, 3) := by decide +kernel
theorem d_MRm_roll_22 : decode MRm_roll.2.2.1 22 = .ok (.invokestatic 107, 3) := by decide +kernel
theorem d_MRm_roll_25 : decode MRm_roll.2.2.1 25 = .ok (.ifCond .ne 6, 3) := by decide +kernel
theorem d_MRm_roll_28 : decode MRm_roll.2.2.1 28 = .ok (.ldc 176, 2) := by decide +kernel
theorem d_MRm_roll_30 : decode MRm_roll.2.2.1 30 = .ok (.ireturn, 1) := by decide +kernel
theorem d_MRm_roll_31 : decode MRm_roll.2.2.1 31 = .ok (.aload_n 0, 1) := by decide +kernel
theorem d_MRm_roll_32 : decode MRm_roll.2.2.1 32 = .ok (.iload_n 1, 1) := by decide +kernel
theorem d_MRm_roll_33 : decode MRm_roll.2.2.1 33 = .ok (.bipush 10, 2) := by decide +kernel
theorem d_MRm_roll_35 : decode MRm_roll.2.2.1 35 = .ok (.idiv, 1) := by decide +kernel
theorem d_MRm_roll_36 : decode MRm_roll.2.2.1 36 = .ok (.invokevirtual 177, 3) := by decide +kernel
theorem d_MRm_roll_39 : decode MRm_roll.2.2.1 39 = .ok (.istore 5, 2) := by decide +kernel
theorem d_MRm_roll_41 : decode MRm_roll.2.2.1 41 = .ok (.aload_n 0, 1) := by decide +kernel
theorem d_MRm_roll_42 : decode MRm_roll.2.2.1 42 = .ok (.iload_n 2, 1) := by decide +kernel
theorem d_MRm_roll_43 : decode MRm_roll.2.2.1 43 = .ok (.iload_n 3, 1) := by decide +kernel
theorem d_MRm_roll_44 : decode MRm_roll.2.2.1 44 = .ok (.invokevirtual 294, 3) := by decide +kernel
theorem d_MRm_roll_47 : decode MRm_roll.2.2.1 47 = .ok (.aload_n 0, 1) := by decide +kernel
theorem d_MRm_roll_48 : decode MRm_roll.2.2.1 48 = .ok (.iconst 0, 1) := by decide +kernel
theorem d_MRm_roll_49 : decode MRm_roll.2.2.1 49 = .ok (.invokevirtual 297, 3) := by decide +kernel
theorem d_MRm_roll_52 : decode MRm_roll.2.2.1 52 = .ok (.iconst 1, 1) := by decide +kernel
theorem d_MRm_roll_53 : decode MRm_roll.2.2.1 53 = .ok (.istore 6, 2) := by decide +kernel
theorem d_MRm_roll_55 : decode MRm_roll.2.2.1 55 = .ok (.iload 6, 2) := by decide +kernel
theorem d_MRm_roll_57 : decode MRm_roll.2.2.1 57 = .ok (.iload 4, 2) := by decide +kernel
theorem d_MRm_roll_59 : decode MRm_roll.2.2.1 59 = .ok (.if_icmp .gt 31, 3) := by decide +kernel
theorem d_MRm_roll_62 : decode MRm_roll.2.2.1 62 = .ok (.aload_n 0, 1) := by decide +kernel
theorem d_MRm_roll_63 : decode MRm_roll.2.2.1 63 = .ok (.iload_n 1, 1) := by decide +kernel
theorem d_MRm_roll_64 : decode MRm_roll.2.2.1 64 = .ok (.bipush 10, 2) := by decide +kernel
theorem d_MRm_roll_66 : decode MRm_roll.2.2.1 66 = .ok (.idiv, 1) := by decide +kernel
theorem d_MRm_roll_67 : decode MRm_roll.2.2.1 67 = .ok (.iload 5, 2) := by decide +kernel
theorem d_MRm_roll_69 : decode MRm_roll.2.2.1 69 = .ok (.iload_n 1, 1) := by decide +kernel
theorem d_MRm_roll_70 : decode MRm_roll.2.2.1 70 = .ok (.bipush 10, 2) := by decide +kernel
theorem d_MRm_roll_72 : decode MRm_roll.2.2.1 72 = .ok (.irem, 1) := by decide +kernel
theorem d_MRm_roll_73 : decode MRm_roll.2.2.1 73 = .ok (.iload 6, 2) := by decide +kernel
theorem d_MRm_roll_75 : decode MRm_roll.2.2.1 75 = .ok (.invokevirtual 300, 3) := by decide +kernel
theorem d_MRm_roll_78 : decode MRm_roll.2.2.1 78 = .ok (.aload_n 0, 1) := by decide +kernel
theorem d_MRm_roll_79 : decode MRm_roll.2.2.1 79 = .ok (.iload 6, 2) := by decide +kernel
theorem d_MRm_roll_81 : decode MRm_roll.2.2.1 81 = .ok (.invokevirtual 297, 3) := by decide +kernel
theorem d_MRm_roll_84 : decode MRm_roll.2.2.1 84 = .ok (.iinc 6 1, 3) := by decide +kernel
theorem d_MRm_roll_87 : decode MRm_roll.2.2.1 87 = .ok (.goto (-32), 3) := by decide +kernel
theorem d_MRm_roll_90 : decode MRm_roll.2.2.1 90 = .ok (.aload_n 0, 1) := by decide +kernel
theorem d_MRm_roll_91 : decode MRm_roll.2.2.1 91 = .ok (.iload 4, 2) := by decide +kernel
theorem d_MRm_roll_93 : decode MRm_roll.2.2.1 93 = .ok (.putfield 72, 3) := by decide +kernel
theorem d_MRm_roll_96 : decode MRm_roll.2.2.1 96 = .ok (.aload_n 0, 1) := by decide +kernel
theorem d_MRm_roll_97 : decode MRm_roll.2.2.1 97 = .ok (.aload_n 0, 1) := by decide +kernel
theorem d_MRm_roll_98 : decode MRm_roll.2.2.1 98 = .ok (.getfield 269, 3) := by decide +kernel
theorem d_MRm_roll_101 : decode MRm_roll.2.2.1 101 = .ok (.putfield 304, 3) := by decide +kernel
theorem d_MRm_roll_104 : decode MRm_roll.2.2.1 104 = .ok (.aload_n 0, 1) := by decide +kernel
theorem d_MRm_roll_105 : decode MRm_roll.2.2.1 105 = .ok (.aload_n 0, 1) := by decide +kernel
theorem d_MRm_roll_106 : decode MRm_roll.2.2.1 106 = .ok (.getfield 272, 3) := by decide +kernel
theorem d_MRm_roll_109 : decode MRm_roll.2.2.1 109 = .ok (.putfield 307, 3) := by decide +kernel
theorem d_MRm_roll_112 : decode MRm_roll.2.2.1 112 = .ok (.aload_n 0, 1) := by decide +kernel
theorem d_MRm_roll_113 : decode MRm_roll.2.2.1 113 = .ok (.aload_n 0, 1) := by decide +kernel
theorem d_MRm_roll_114 : decode MRm_roll.2.2.1 114 = .ok (.getfield 275, 3) := by decide +kernel
theorem d_MRm_roll_117 : decode MRm_roll.2.2.1 117 = .ok (.putfield 310, 3) := by decide +kernel
theorem d_MRm_roll_120 : decode MRm_roll.2.2.1 120 = .ok (.aload_n 0, 1) := by decide +kernel
theorem d_MRm_roll_121 : decode MRm_roll.2.2.1 121 = .ok (.getfield 260, 3) := by decide +kernel
theorem d_MRm_roll_124 : decode MRm_roll.2.2.1 124 = .ok (.ireturn, 1) := by decide +kernel
theorem r_MRm_roll_0 {l1 l2 l3 l4 l5 l6 : Value} {x : Nat} : Rr X d MRm_roll 0 [.ref x, l1, l2, l3, l4, l5, l6] st h = Rr X d MRm_roll 1 [.ref x, l1, l2, l3, l4, l5, l6] (.ref x :: st) h := Rr_nx d_MRm_roll_0 rfl
theorem r_MRm_roll_1 {l0 l2 l3 l4 l5 l6 : Value} {x : Int32} : Rr X d MRm_roll 1 [l0, .int x, l2, l3, l4, l5, l6] st h = Rr X d MRm_roll 2 [l0, .int x, l2, l3, l4, l5, l6] (.int x :: st) h := Rr_nx d_MRm_roll_1 rfl
theorem fc_10_287 : fC 10 287 = some (0, 10, 1, MRm_isGoing) := rfl
theorem r_MRm_roll_2 {y0 : Int32} {a : Nat} (hO : qO a 10 = true) (hc : ckS st = true) : Rr X (d + 1) MRm_roll 2 L (.int y0 :: .ref a :: st) (Wd mu la ro et) = (Rr X d MRm_isGoing 0 [.ref a, .int y0] [] (Wd mu la ro et)).bind fun q => Rr X (d + 1) MRm_roll 5 L (psh q.1 st) q.2 := R_iv (av := [.int y0]) d_MRm_roll_2 fc_10_287 hO (ckS_le hc) rfl (Nat.le_of_ble_eq_true rfl) (Nat.le_of_ble_eq_true rfl)
theorem r_MRm_roll_5 {x : Int32} : Rr X d MRm_roll 5 L (.int x :: st) h = if x = 0 then Rr X d MRm_roll 28 L st h else Rr X d MRm_roll 8 L st h := R_if_eq d_MRm_roll_5 (by decide)
theorem r_MRm_roll_8 {l0 l1 l3 l4 l5 l6 : Value} {x : Int32} : Rr X d MRm_roll 8 [l0, l1, .int x, l3, l4, l5, l6] st h = Rr X d MRm_roll 9 [l0, l1, .int x, l3, l4, l5, l6] (.int x :: st) h := Rr_nx d_MRm_roll_8 rfl
theorem r_MRm_roll_9 {l0 l1 l2 l4 l5 l6 : Value} {x : Int32} : Rr X d MRm_roll 9 [l0, l1, l2, .int x, l4, l5, l6] st h = Rr X d MRm_roll 10 [l0, l1, l2, .int x, l4, l5, l6] (.int x :: st) h := Rr_nx d_MRm_roll_9 rfl
theorem fc_10_290 : fC 10 290 = some (1, 0, 2, MRm_isStart) := rfl
theorem r_MRm_roll_10 {y0 : Int32} {y1 : Int32} (hc : ckS st = true) : Rr X (d + 1) MRm_roll 10 L (.int y1 :: .int y0 :: st) h = (Rr X d MRm_isStart 0 [.int y0, .int y1] [] h).bind fun q => Rr X (d + 1) MRm_roll 13 L (psh q.1 st) q.2 := R_is (av := [.int y1, .int y0]) d_MRm_roll_10 (Or.inl fc_10_290) (ckS_le hc) rfl (Nat.le_of_ble_eq_true rfl) (Nat.le_of_ble_eq_true rfl)
theorem r_MRm_roll_13 {x : Int32} : Rr X d MRm_roll 13 L (.int x :: st) h = if x = 0 then Rr X d MRm_roll 28 L st h else Rr X d MRm_roll 16 L st h := R_if_eq d_MRm_roll_13 (by decide)
theorem r_MRm_roll_16 {l0 l1 l2 l3 l5 l6 : Value} {x : Int32} : Rr X d MRm_roll 16 [l0, l1, l2, l3, .int x, l5, l6] st h = Rr X d MRm_roll 18 [l0, l1, l2, l3, .int x, l5, l6] (.int x :: st) h := Rr_nx d_MRm_roll_16 rfl
theorem r_MRm_roll_18 : Rr X d MRm_roll 18 L st h = Rr X d MRm_roll 19 L (.int (0) :: st) h := Rr_nx d_MRm_roll_18 rfl
theorem r_MRm_roll_19 : Rr X d MRm_roll 19 L st h = Rr X d MRm_roll 22 L (.int (400) :: st) h := Rr_nx d_MRm_roll_19 rfl
theorem r_MRm_roll_22 {y0 : Int32} {y1 : Int32} {y2 : Int32} (hc : ckS st = true) : Rr X (d + 1) MRm_roll 22 L (.int y2 :: .int y1 :: .int y0 :: st) h = (Rr X d MRm_in 0 [.int y0, .int y1, .int y2] [] h).bind fun q => Rr X (d + 1) MRm_roll 25 L (psh q.1 st) q.2 := R_is (av := [.int y2, .int y1, .int y0]) d_MRm_roll_22 (Or.inl fc_10_107) (ckS_le hc) rfl (Nat.le_of_ble_eq_true rfl) (Nat.le_of_ble_eq_true rfl)
theorem r_MRm_roll_25 {x : Int32} : Rr X d MRm_roll 25 L (.int x :: st) h = if ¬ x = 0 then Rr X d MRm_roll 31 L st h else Rr X d MRm_roll 28 L st h := R_if_ne d_MRm_roll_25 (by decide)
theorem r_MRm_roll_28 : Rr X d MRm_roll 28 L st h = Rr X d MRm_roll 30 L (.int (-2000000000) :: st) h := Rr_nx d_MRm_roll_28 rfl
theorem r_MRm_roll_30 {x : Int32} : Rr X d MRm_roll 30 L [.int x] h = some (some (.int x), h) := R_ir d_MRm_roll_30 rfl
theorem r_MRm_roll_31 {l1 l2 l3 l4 l5 l6 : Value} {x : Nat} : Rr X d MRm_roll 31 [.ref x, l1, l2, l3, l4, l5, l6] st h = Rr X d MRm_roll 32 [.ref x, l1, l2, l3, l4, l5, l6] (.ref x :: st) h := Rr_nx d_MRm_roll_31 rfl
theorem r_MRm_roll_32 {l0 l2 l3 l4 l5 l6 : Value} {x : Int32} : Rr X d MRm_roll 32 [l0, .int x, l2, l3, l4, l5, l6] st h = Rr X d MRm_roll 33 [l0, .int x, l2, l3, l4, l5, l6] (.int x :: st) h := Rr_nx d_MRm_roll_32 rfl
theorem r_MRm_roll_33 : Rr X d MRm_roll 33 L st h = Rr X d MRm_roll 35 L (.int (10) :: st) h := Rr_nx d_MRm_roll_33 rfl
theorem r_MRm_roll_35 {x y : Int32} : Rr X d MRm_roll 35 L (.int y :: .int x :: st) h = if y = 0 then none else Rr X d MRm_roll 36 L (.int (x / y) :: st) h := R_dv d_MRm_roll_35
theorem r_MRm_roll_36 {y0 : Int32} {a : Nat} (hO : qO a 10 = true) (hc : ckS st = true) : Rr X (d + 1) MRm_roll 36 L (.int y0 :: .ref a :: st) (Wd mu la ro et) = (Rr X d MRm_keenOf 0 [.ref a, .int y0] [] (Wd mu la ro et)).bind fun q => Rr X (d + 1) MRm_roll 39 L (psh q.1 st) q.2 := R_iv (av := [.int y0]) d_MRm_roll_36 fc_10_177 hO (ckS_le hc) rfl (Nat.le_of_ble_eq_true rfl) (Nat.le_of_ble_eq_true rfl)
theorem r_MRm_roll_39 {l0 l1 l2 l3 l4 l5 l6 : Value} {x : Int32} : Rr X d MRm_roll 39 [l0, l1, l2, l3, l4, l5, l6] (.int x :: st) h = Rr X d MRm_roll 41 (sL [l0, l1, l2, l3, l4, l5, l6] 5 (.int x)) st h := Rr_nx d_MRm_roll_39 rfl
theorem r_MRm_roll_41 {l1 l2 l3 l4 l5 l6 : Value} {x : Nat} : Rr X d MRm_roll 41 [.ref x, l1, l2, l3, l4, l5, l6] st h = Rr X d MRm_roll 42 [.ref x, l1, l2, l3, l4, l5, l6] (.ref x :: st) h := Rr_nx d_MRm_roll_41 rfl
theorem r_MRm_roll_42 {l0 l1 l3 l4 l5 l6 : Value} {x : Int32} : Rr X d MRm_roll 42 [l0, l1, .int x, l3, l4, l5, l6] st h = Rr X d MRm_roll 43 [l0, l1, .int x, l3, l4, l5, l6] (.int x :: st) h := Rr_nx d_MRm_roll_42 rfl
theorem r_MRm_roll_43 {l0 l1 l2 l4 l5 l6 : Value} {x : Int32} : Rr X d MRm_roll 43 [l0, l1, l2, .int x, l4, l5, l6] st h = Rr X d MRm_roll 44 [l0, l1, l2, .int x, l4, l5, l6] (.int x :: st) h := Rr_nx d_MRm_roll_43 rfl
theorem fc_10_294 : fC 10 294 = some (0, 10, 2, MRm_begin) := rfl
theorem r_MRm_roll_44 {y0 : Int32} {y1 : Int32} {a : Nat} (hO : qO a 10 = true) (hc : ckS st = true) : Rr X (d + 1) MRm_roll 44 L (.int y1 :: .int y0 :: .ref a :: st) (Wd mu la ro et) = (Rr X d MRm_begin 0 [.ref a, .int y0, .int y1] [] (Wd mu la ro et)).bind fun q => Rr X (d + 1) MRm_roll 47 L (psh q.1 st) q.2 := R_iv (av := [.int y1, .int y0]) d_MRm_roll_44 fc_10_294 hO (ckS_le hc) rfl (Nat.le_of_ble_eq_true rfl) (Nat.le_of_ble_eq_true rfl)
theorem r_MRm_roll_47 {l1 l2 l3 l4 l5 l6 : Value} {x : Nat} : Rr X d MRm_roll 47 [.ref x, l1, l2, l3, l4, l5, l6] st h = Rr X d MRm_roll 48 [.ref x, l1, l2, l3, l4, l5, l6] (.ref x :: st) h := Rr_nx d_MRm_roll_47 rfl
theorem r_MRm_roll_48 : Rr X d MRm_roll 48 L st h = Rr X d MRm_roll 49 L (.int (0) :: st) h := Rr_nx d_MRm_roll_48 rfl
theorem fc_10_297 : fC 10 297 = some (0, 10, 1, MRm_note) := rfl
theorem r_MRm_roll_49 {y0 : Int32} {a : Nat} (hO : qO a 10 = true) (hc : ckS st = true) : Rr X (d + 1) MRm_roll 49 L (.int y0 :: .ref a :: st) (Wd mu la ro et) = (Rr X d MRm_note 0 [.ref a, .int y0] [] (Wd mu la ro et)).bind fun q => Rr X (d + 1) MRm_roll 52 L (psh q.1 st) q.2 := R_iv (av := [.int y0]) d_MRm_roll_49 fc_10_297 hO (ckS_le hc) rfl (Nat.le_of_ble_eq_true rfl) (Nat.le_of_ble_eq_true rfl)
theorem r_MRm_roll_52 : Rr X d MRm_roll 52 L st h = Rr X d MRm_roll 53 L (.int (1) :: st) h := Rr_nx d_MRm_roll_52 rfl
theorem r_MRm_roll_53 {l0 l1 l2 l3 l4 l5 l6 : Value} {x : Int32} : Rr X d MRm_roll 53 [l0, l1, l2, l3, l4, l5, l6] (.int x :: st) h = Rr X d MRm_roll 55 (sL [l0, l1, l2, l3, l4, l5, l6] 6 (.int x)) st h := Rr_nx d_MRm_roll_53 rfl
theorem r_MRm_roll_55 {l0 l1 l2 l3 l4 l5 : Value} {x : Int32} : Rr X d MRm_roll 55 [l0, l1, l2, l3, l4, l5, .int x] st h = Rr X d MRm_roll 57 [l0, l1, l2, l3, l4, l5, .int x] (.int x :: st) h := Rr_nx d_MRm_roll_55 rfl
theorem r_MRm_roll_57 {l0 l1 l2 l3 l5 l6 : Value} {x : Int32} : Rr X d MRm_roll 57 [l0, l1, l2, l3, .int x, l5, l6] st h = Rr X d MRm_roll 59 [l0, l1, l2, l3, .int x, l5, l6] (.int x :: st) h := Rr_nx d_MRm_roll_57 rfl
theorem r_MRm_roll_59 {x y : Int32} : Rr X d MRm_roll 59 L (.int y :: .int x :: st) h = if y < x then Rr X d MRm_roll 90 L st h else Rr X d MRm_roll 62 L st h := R_ic_gt d_MRm_roll_59 (by decide)
theorem r_MRm_roll_62 {l1 l2 l3 l4 l5 l6 : Value} {x : Nat} : Rr X d MRm_roll 62 [.ref x, l1, l2, l3, l4, l5, l6] st h = Rr X d MRm_roll 63 [.ref x, l1, l2, l3, l4, l5, l6] (.ref x :: st) h := Rr_nx d_MRm_roll_62 rfl
theorem r_MRm_roll_63 {l0 l2 l3 l4 l5 l6 : Value} {x : Int32} : Rr X d MRm_roll 63 [l0, .int x, l2, l3, l4, l5, l6] st h = Rr X d MRm_roll 64 [l0, .int x, l2, l3, l4, l5, l6] (.int x :: st) h := Rr_nx d_MRm_roll_63 rfl
theorem r_MRm_roll_64 : Rr X d MRm_roll 64 L st h = Rr X d MRm_roll 66 L (.int (10) :: st) h := Rr_nx d_MRm_roll_64 rfl
theorem r_MRm_roll_66 {x y : Int32} : Rr X d MRm_roll 66 L (.int y :: .int x :: st) h = if y = 0 then none else Rr X d MRm_roll 67 L (.int (x / y) :: st) h := R_dv d_MRm_roll_66
theorem r_MRm_roll_67 {l0 l1 l2 l3 l4 l6 : Value} {x : Int32} : Rr X d MRm_roll 67 [l0, l1, l2, l3, l4, .int x, l6] st h = Rr X d MRm_roll 69 [l0, l1, l2, l3, l4, .int x, l6] (.int x :: st) h := Rr_nx d_MRm_roll_67 rfl
theorem r_MRm_roll_69 {l0 l2 l3 l4 l5 l6 : Value} {x : Int32} : Rr X d MRm_roll 69 [l0, .int x, l2, l3, l4, l5, l6] st h = Rr X d MRm_roll 70 [l0, .int x, l2, l3, l4, l5, l6] (.int x :: st) h := Rr_nx d_MRm_roll_69 rfl
theorem r_MRm_roll_70 : Rr X d MRm_roll 70 L st h = Rr X d MRm_roll 72 L (.int (10) :: st) h := Rr_nx d_MRm_roll_70 rfl
theorem r_MRm_roll_72 {x y : Int32} : Rr X d MRm_roll 72 L (.int y :: .int x :: st) h = if y = 0 then none else Rr X d MRm_roll 73 L (.int (x - x / y * y) :: st) h := R_rm d_MRm_roll_72
theorem r_MRm_roll_73 {l0 l1 l2 l3 l4 l5 : Value} {x : Int32} : Rr X d MRm_roll 73 [l0, l1, l2, l3, l4, l5, .int x] st h = Rr X d MRm_roll 75 [l0, l1, l2, l3, l4, l5, .int x] (.int x :: st) h := Rr_nx d_MRm_roll_73 rfl
theorem fc_10_300 : fC 10 300 = some (0, 10, 4, MRm_go) := rfl
theorem r_MRm_roll_75 {y0 : Int32} {y1 : Int32} {y2 : Int32} {y3 : Int32} {a : Nat} (hO : qO a 10 = true) (hc : ckS st = true) : Rr X (d + 1) MRm_roll 75 L (.int y3 :: .int y2 :: .int y1 :: .int y0 :: .ref a :: st) (Wd mu la ro et) = (Rr X d MRm_go 0 [.ref a, .int y0, .int y1, .int y2, .int y3, mkU, mkU, mkU, mkU, mkU] [] (Wd mu la ro et)).bind fun q => Rr X (d + 1) MRm_roll 78 L (psh q.1 st) q.2 := R_iv (av := [.int y3, .int y2, .int y1, .int y0]) d_MRm_roll_75 fc_10_300 hO (ckS_le hc) rfl (Nat.le_of_ble_eq_true rfl) (Nat.le_of_ble_eq_true rfl)
theorem r_MRm_roll_78 {l1 l2 l3 l4 l5 l6 : Value} {x : Nat} : Rr X d MRm_roll 78 [.ref x, l1, l2, l3, l4, l5, l6] st h = Rr X d MRm_roll 79 [.ref x, l1, l2, l3, l4, l5, l6] (.ref x :: st) h := Rr_nx d_MRm_roll_78 rfl
theorem r_MRm_roll_79 {l0 l1 l2 l3 l4 l5 : Value} {x : Int32} : Rr X d MRm_roll 79 [l0, l1, l2, l3, l4, l5, .int x] st h = Rr X d MRm_roll 81 [l0, l1, l2, l3, l4, l5, .int x] (.int x :: st) h := Rr_nx d_MRm_roll_79 rfl
theorem r_MRm_roll_81 {y0 : Int32} {a : Nat} (hO : qO a 10 = true) (hc : ckS st = true) : Rr X (d + 1) MRm_roll 81 L (.int y0 :: .ref a :: st) (Wd mu la ro et) = (Rr X d MRm_note 0 [.ref a, .int y0] [] (Wd mu la ro et)).bind fun q => Rr X (d + 1) MRm_roll 84 L (psh q.1 st) q.2 := R_iv (av := [.int y0]) d_MRm_roll_81 fc_10_297 hO (ckS_le hc) rfl (Nat.le_of_ble_eq_true rfl) (Nat.le_of_ble_eq_true rfl)
theorem r_MRm_roll_84 {l0 l1 l2 l3 l4 l5 : Value} {x : Int32} : Rr X d MRm_roll 84 [l0, l1, l2, l3, l4, l5, .int x] st h = Rr X d MRm_roll 87 (sL [l0, l1, l2, l3, l4, l5, .int x] 6 (.int (x + (1)))) st h := Rr_nx d_MRm_roll_84 rfl
theorem r_MRm_roll_87 : Rr X d MRm_roll 87 L st h = Rr X d MRm_roll 55 L st h := R_goto d_MRm_roll_87 (by decide)
theorem r_MRm_roll_90 {l1 l2 l3 l4 l5 l6 : Value} {x : Nat} : Rr X d MRm_roll 90 [.ref x, l1, l2, l3, l4, l5, l6] st h = Rr X d MRm_roll 91 [.ref x, l1, l2, l3, l4, l5, l6] (.ref x :: st) h := Rr_nx d_MRm_roll_90 rfl
theorem r_MRm_roll_91 {l0 l1 l2 l3 l5 l6 : Value} {x : Int32} : Rr X d MRm_roll 91 [l0, l1, l2, l3, .int x, l5, l6] st h = Rr X d MRm_roll 93 [l0, l1, l2, l3, .int x, l5, l6] (.int x :: st) h := Rr_nx d_MRm_roll_91 rfl
theorem ff_10_72 : fF 10 72 = some (10, 39, 0, 0) := rfl
theorem r_MRm_roll_93 {a : Nat} {x : Int32} (hq : qI a 10 39 = true) : Rr X d MRm_roll 93 L (.int x :: .ref a :: st) (Wd mu la ro et) = Rr X d MRm_roll 96 L st (Wd (up2 mu a 39 x) la ro et) := R_pfI d_MRm_roll_93 ff_10_72 hq
theorem r_MRm_roll_96 {l1 l2 l3 l4 l5 l6 : Value} {x : Nat} : Rr X d MRm_roll 96 [.ref x, l1, l2, l3, l4, l5, l6] st h = Rr X d MRm_roll 97 [.ref x, l1, l2, l3, l4, l5, l6] (.ref x :: st) h := Rr_nx d_MRm_roll_96 rfl
theorem r_MRm_roll_97 {l1 l2 l3 l4 l5 l6 : Value} {x : Nat} : Rr X d MRm_roll 97 [.ref x, l1, l2, l3, l4, l5, l6] st h = Rr X d MRm_roll 98 [.ref x, l1, l2, l3, l4, l5, l6] (.ref x :: st) h := Rr_nx d_MRm_roll_97 rfl
theorem ff_10_269 : fF 10 269 = some (10, 33, 0, 0) := rfl
theorem r_MRm_roll_98 {a : Nat} (hq : qI a 10 33 = true) : Rr X d MRm_roll 98 L (.ref a :: st) (Wd mu la ro et) = Rr X d MRm_roll 101 L (.int (mu a 33) :: st) (Wd mu la ro et) := R_gfI d_MRm_roll_98 ff_10_269 hq
theorem ff_10_304 : fF 10 304 = some (10, 40, 0, 0) := rfl
theorem r_MRm_roll_101 {a : Nat} {x : Int32} (hq : qI a 10 40 = true) : Rr X d MRm_roll 101 L (.int x :: .ref a :: st) (Wd mu la ro et) = Rr X d MRm_roll 104 L st (Wd (up2 mu a 40 x) la ro et) := R_pfI d_MRm_roll_101 ff_10_304 hq
theorem r_MRm_roll_104 {l1 l2 l3 l4 l5 l6 : Value} {x : Nat} : Rr X d MRm_roll 104 [.ref x, l1, l2, l3, l4, l5, l6] st h = Rr X d MRm_roll 105 [.ref x, l1, l2, l3, l4, l5, l6] (.ref x :: st) h := Rr_nx d_MRm_roll_104 rfl
theorem r_MRm_roll_105 {l1 l2 l3 l4 l5 l6 : Value} {x : Nat} : Rr X d MRm_roll 105 [.ref x, l1, l2, l3, l4, l5, l6] st h = Rr X d MRm_roll 106 [.ref x, l1, l2, l3, l4, l5, l6] (.ref x :: st) h := Rr_nx d_MRm_roll_105 rfl
theorem ff_10_272 : fF 10 272 = some (10, 34, 0, 0) := rfl
theorem r_MRm_roll_106 {a : Nat} (hq : qI a 10 34 = true) : Rr X d MRm_roll 106 L (.ref a :: st) (Wd mu la ro et) = Rr X d MRm_roll 109 L (.int (mu a 34) :: st) (Wd mu la ro et) := R_gfI d_MRm_roll_106 ff_10_272 hq
theorem ff_10_307 : fF 10 307 = some (10, 41, 0, 0) := rfl
theorem r_MRm_roll_109 {a : Nat} {x : Int32} (hq : qI a 10 41 = true) : Rr X d MRm_roll 109 L (.int x :: .ref a :: st) (Wd mu la ro et) = Rr X d MRm_roll 112 L st (Wd (up2 mu a 41 x) la ro et) := R_pfI d_MRm_roll_109 ff_10_307 hq
theorem r_MRm_roll_112 {l1 l2 l3 l4 l5 l6 : Value} {x : Nat} : Rr X d MRm_roll 112 [.ref x, l1, l2, l3, l4, l5, l6] st h = Rr X d MRm_roll 113 [.ref x, l1, l2, l3, l4, l5, l6] (.ref x :: st) h := Rr_nx d_MRm_roll_112 rfl
theorem r_MRm_roll_113 {l1 l2 l3 l4 l5 l6 : Value} {x : Nat} : Rr X d MRm_roll 113 [.ref x, l1, l2, l3, l4, l5, l6] st h = Rr X d MRm_roll 114 [.ref x, l1, l2, l3, l4, l5, l6] (.ref x :: st) h := Rr_nx d_MRm_roll_113 rfl
theorem ff_10_275 : fF 10 275 = some (10, 35, 0, 0) := rfl
theorem r_MRm_roll_114 {a : Nat} (hq : qI a 10 35 = true) : Rr X d MRm_roll 114 L (.ref a :: st) (Wd mu la ro et) = Rr X d MRm_roll 117 L (.int (mu a 35) :: st) (Wd mu la ro et) := R_gfI d_MRm_roll_114 ff_10_275 hq
theorem ff_10_310 : fF 10 310 = some (10, 42, 0, 0) := rfl
theorem r_MRm_roll_117 {a : Nat} {x : Int32} (hq : qI a 10 42 = true) : Rr X d MRm_roll 117 L (.int x :: .ref a :: st) (Wd mu la ro et) = Rr X d MRm_roll 120 L st (Wd (up2 mu a 42 x) la ro et) := R_pfI d_MRm_roll_117 ff_10_310 hq
theorem r_MRm_roll_120 {l1 l2 l3 l4 l5 l6 : Value} {x : Nat} : Rr X d MRm_roll 120 [.ref x, l1, l2, l3, l4, l5, l6] st h = Rr X d MRm_roll 121 [.ref x, l1, l2, l3, l4, l5, l6] (.ref x :: st) h := Rr_nx d_MRm_roll_120 rfl
theorem ff_10_260 : fF 10 260 = some (10, 30, 0, 0) := rfl
theorem r_MRm_roll_121 {a : Nat} (hq : qI a 10 30 = true) : Rr X d MRm_roll 121 L (.ref a :: st) (Wd mu la ro et) = Rr X d MRm_roll 124 L (.int (mu a 30) :: st) (Wd mu la ro et) := R_gfI d_MRm_roll_121 ff_10_260 hq
theorem r_MRm_roll_124 {x : Int32} : Rr X d MRm_roll 124 L [.int x] h = some (some (.int x), h) := R_ir d_MRm_roll_124 rfl
theorem d_MRm_going_0 : decode MRm_going.2.2.1 0 = .ok (.aload_n 0, 1) := by decide +kernel
theorem d_MRm_going_1 : decode MRm_going.2.2.1 1 = .ok (.getfield 72, 3) := by decide +kernel
theorem d_MRm_going_4 : decode MRm_going.2.2.1 4 = .ok (.ifCond .lt 24, 3) := by decide +kernel
theorem d_MRm_going_7 : decode MRm_going.2.2.1 7 = .ok (.iload_n 2, 1) := by decide +kernel
theorem d_MRm_going_8 : decode MRm_going.2.2.1 8 = .ok (.iconst 0, 1) := by decide +kernel
theorem d_MRm_going_9 : decode MRm_going.2.2.1 9 = .ok (.iconst 2, 1) := by decide +kernel
theorem d_MRm_going_10 : decode MRm_going.2.2.1 10 = .ok (.invokestatic 107, 3) := by decide +kernel
theorem d_MRm_going_13 : decode MRm_going.2.2.1 13 = .ok (.ifCond .eq 15, 3) := by decide +kernel
theorem d_MRm_going_16 : decode MRm_going.2.2.1 16 = .ok (.iload_n 1, 1) := by decide +kernel
theorem d_MRm_going_17 : decode MRm_going.2.2.1 17 = .ok (.iconst (-1), 1) := by decide +kernel
theorem d_MRm_going_18 : decode MRm_going.2.2.1 18 = .ok (.aload_n 0, 1) := by decide +kernel
theorem d_MRm_going_19 : decode MRm_going.2.2.1 19 = .ok (.getfield 72, 3) := by decide +kernel
theorem d_MRm_going_22 : decode MRm_going.2.2.1 22 = .ok (.invokestatic 107, 3) := by decide +kernel
theorem d_MRm_going_25 : decode MRm_going.2.2.1 25 = .ok (.ifCond .ne 6, 3) := by decide +kernel
theorem d_MRm_going_28 : decode MRm_going.2.2.1 28 = .ok (.ldc 176, 2) := by decide +kernel
theorem d_MRm_going_30 : decode MRm_going.2.2.1 30 = .ok (.ireturn, 1) := by decide +kernel
theorem d_MRm_going_31 : decode MRm_going.2.2.1 31 = .ok (.iload_n 1, 1) := by decide +kernel
theorem d_MRm_going_32 : decode MRm_going.2.2.1 32 = .ok (.ifCond .ge 17, 3) := by decide +kernel
theorem d_MRm_going_35 : decode MRm_going.2.2.1 35 = .ok (.iload_n 2, 1) := by decide +kernel
theorem d_MRm_going_36 : decode MRm_going.2.2.1 36 = .ok (.ifCond .ne 10, 3) := by decide +kernel
theorem d_MRm_going_39 : decode MRm_going.2.2.1 39 = .ok (.aload_n 0, 1) := by decide +kernel
theorem d_MRm_going_40 : decode MRm_going.2.2.1 40 = .ok (.getfield 72, 3) := by decide +kernel
theorem d_MRm_going_43 : decode MRm_going.2.2.1 43 = .ok (.goto 5, 3) := by decide +kernel
theorem d_MRm_going_46 : decode MRm_going.2.2.1 46 = .ok (.ldc 176, 2) := by decide +kernel
theorem d_MRm_going_48 : decode MRm_going.2.2.1 48 = .ok (.ireturn, 1) := by decide +kernel
theorem d_MRm_going_49 : decode MRm_going.2.2.1 49 = .ok (.iload_n 2, 1) := by decide +kernel
theorem d_MRm_going_50 : decode MRm_going.2.2.1 50 = .ok (.ifCond .ne 12, 3) := by decide +kernel
theorem d_MRm_going_53 : decode MRm_going.2.2.1 53 = .ok (.aload_n 0, 1) := by decide +kernel
theorem d_MRm_going_54 : decode MRm_going.2.2.1 54 = .ok (.getfield 63, 3) := by decide +kernel
theorem d_MRm_going_57 : decode MRm_going.2.2.1 57 = .ok (.iload_n 1, 1) := by decide +kernel
theorem d_MRm_going_58 : decode MRm_going.2.2.1 58 = .ok (.iaload, 1) := by decide +kernel
theorem d_MRm_going_59 : decode MRm_going.2.2.1 59 = .ok (.goto 23, 3) := by decide +kernel
theorem d_MRm_going_62 : decode MRm_going.2.2.1 62 = .ok (.iload_n 2, 1) := by decide +kernel
theorem d_MRm_going_63 : decode MRm_going.2.2.1 63 = .ok (.iconst 1, 1) := by decide +kernel
theorem d_MRm_going_64 : decode MRm_going.2.2.1 64 = .ok (.if_icmp .ne 12, 3) := by decide +kernel
theorem d_MRm_going_67 : decode MRm_going.2.2.1 67 = .ok (.aload_n 0, 1) := by decide +kernel
theorem d_MRm_going_68 : decode MRm_going.2.2.1 68 = .ok (.getfield 66, 3) := by decide +kernel
theorem d_MRm_going_71 : decode MRm_going.2.2.1 71 = .ok (.iload_n 1, 1) := by decide +kernel
theorem d_MRm_going_72 : decode MRm_going.2.2.1 72 = .ok (.iaload, 1) := by decide +kernel
theorem d_MRm_going_73 : decode MRm_going.2.2.1 73 = .ok (.goto 9, 3) := by decide +kernel
theorem d_MRm_going_76 : decode MRm_going.2.2.1 76 = .ok (.aload_n 0, 1) := by decide +kernel
theorem d_MRm_going_77 : decode MRm_going.2.2.1 77 = .ok (.getfield 69, 3) := by decide +kernel
theorem d_MRm_going_80 : decode MRm_going.2.2.1 80 = .ok (.iload_n 1, 1) := by decide +kernel
theorem d_MRm_going_81 : decode MRm_going.2.2.1 81 = .ok (.iaload, 1) := by decide +kernel
theorem d_MRm_going_82 : decode MRm_going.2.2.1 82 = .ok (.ireturn, 1) := by decide +kernel
theorem r_MRm_going_0 {l1 l2 : Value} {x : Nat} : Rr X d MRm_going 0 [.ref x, l1, l2] st h = Rr X d MRm_going 1 [.ref x, l1, l2] (.ref x :: st) h := Rr_nx d_MRm_going_0 rfl
theorem r_MRm_going_1 {a : Nat} (hq : qI a 10 39 = true) : Rr X d MRm_going 1 L (.ref a :: st) (Wd mu la ro et) = Rr X d MRm_going 4 L (.int (mu a 39) :: st) (Wd mu la ro et) := R_gfI d_MRm_going_1 ff_10_72 hq
theorem r_MRm_going_4 {x : Int32} : Rr X d MRm_going 4 L (.int x :: st) h = if x < 0 then Rr X d MRm_going 28 L st h else Rr X d MRm_going 7 L st h := R_if_lt d_MRm_going_4 (by decide)
theorem r_MRm_going_7 {l0 l1 : Value} {x : Int32} : Rr X d MRm_going 7 [l0, l1, .int x] st h = Rr X d MRm_going 8 [l0, l1, .int x] (.int x :: st) h := Rr_nx d_MRm_going_7 rfl
theorem r_MRm_going_8 : Rr X d MRm_going 8 L st h = Rr X d MRm_going 9 L (.int (0) :: st) h := Rr_nx d_MRm_going_8 rfl
theorem r_MRm_going_9 : Rr X d MRm_going 9 L st h = Rr X d MRm_going 10 L (.int (2) :: st) h := Rr_nx d_MRm_going_9 rfl
theorem r_MRm_going_10 {y0 : Int32} {y1 : Int32} {y2 : Int32} (hc : ckS st = true) : Rr X (d + 1) MRm_going 10 L (.int y2 :: .int y1 :: .int y0 :: st) h = (Rr X d MRm_in 0 [.int y0, .int y1, .int y2] [] h).bind fun q => Rr X (d + 1) MRm_going 13 L (psh q.1 st) q.2 := R_is (av := [.int y2, .int y1, .int y0]) d_MRm_going_10 (Or.inl fc_10_107) (ckS_le hc) rfl (Nat.le_of_ble_eq_true rfl) (Nat.le_of_ble_eq_true rfl)
theorem r_MRm_going_13 {x : Int32} : Rr X d MRm_going 13 L (.int x :: st) h = if x = 0 then Rr X d MRm_going 28 L st h else Rr X d MRm_going 16 L st h := R_if_eq d_MRm_going_13 (by decide)
theorem r_MRm_going_16 {l0 l2 : Value} {x : Int32} : Rr X d MRm_going 16 [l0, .int x, l2] st h = Rr X d MRm_going 17 [l0, .int x, l2] (.int x :: st) h := Rr_nx d_MRm_going_16 rfl
theorem r_MRm_going_17 : Rr X d MRm_going 17 L st h = Rr X d MRm_going 18 L (.int (-1) :: st) h := Rr_nx d_MRm_going_17 rfl
theorem r_MRm_going_18 {l1 l2 : Value} {x : Nat} : Rr X d MRm_going 18 [.ref x, l1, l2] st h = Rr X d MRm_going 19 [.ref x, l1, l2] (.ref x :: st) h := Rr_nx d_MRm_going_18 rfl
theorem r_MRm_going_19 {a : Nat} (hq : qI a 10 39 = true) : Rr X d MRm_going 19 L (.ref a :: st) (Wd mu la ro et) = Rr X d MRm_going 22 L (.int (mu a 39) :: st) (Wd mu la ro et) := R_gfI d_MRm_going_19 ff_10_72 hq
theorem r_MRm_going_22 {y0 : Int32} {y1 : Int32} {y2 : Int32} (hc : ckS st = true) : Rr X (d + 1) MRm_going 22 L (.int y2 :: .int y1 :: .int y0 :: st) h = (Rr X d MRm_in 0 [.int y0, .int y1, .int y2] [] h).bind fun q => Rr X (d + 1) MRm_going 25 L (psh q.1 st) q.2 := R_is (av := [.int y2, .int y1, .int y0]) d_MRm_going_22 (Or.inl fc_10_107) (ckS_le hc) rfl (Nat.le_of_ble_eq_true rfl) (Nat.le_of_ble_eq_true rfl)
theorem r_MRm_going_25 {x : Int32} : Rr X d MRm_going 25 L (.int x :: st) h = if ¬ x = 0 then Rr X d MRm_going 31 L st h else Rr X d MRm_going 28 L st h := R_if_ne d_MRm_going_25 (by decide)
theorem r_MRm_going_28 : Rr X d MRm_going 28 L st h = Rr X d MRm_going 30 L (.int (-2000000000) :: st) h := Rr_nx d_MRm_going_28 rfl
theorem r_MRm_going_30 {x : Int32} : Rr X d MRm_going 30 L [.int x] h = some (some (.int x), h) := R_ir d_MRm_going_30 rfl
theorem r_MRm_going_31 {l0 l2 : Value} {x : Int32} : Rr X d MRm_going 31 [l0, .int x, l2] st h = Rr X d MRm_going 32 [l0, .int x, l2] (.int x :: st) h := Rr_nx d_MRm_going_31 rfl
theorem r_MRm_going_32 {x : Int32} : Rr X d MRm_going 32 L (.int x :: st) h = if 0 ≤ x then Rr X d MRm_going 49 L st h else Rr X d MRm_going 35 L st h := R_if_ge d_MRm_going_32 (by decide)
theorem r_MRm_going_35 {l0 l1 : Value} {x : Int32} : Rr X d MRm_going 35 [l0, l1, .int x] st h = Rr X d MRm_going 36 [l0, l1, .int x] (.int x :: st) h := Rr_nx d_MRm_going_35 rfl
theorem r_MRm_going_36 {x : Int32} : Rr X d MRm_going 36 L (.int x :: st) h = if ¬ x = 0 then Rr X d MRm_going 46 L st h else Rr X d MRm_going 39 L st h := R_if_ne d_MRm_going_36 (by decide)
theorem r_MRm_going_39 {l1 l2 : Value} {x : Nat} : Rr X d MRm_going 39 [.ref x, l1, l2] st h = Rr X d MRm_going 40 [.ref x, l1, l2] (.ref x :: st) h := Rr_nx d_MRm_going_39 rfl
theorem r_MRm_going_40 {a : Nat} (hq : qI a 10 39 = true) : Rr X d MRm_going 40 L (.ref a :: st) (Wd mu la ro et) = Rr X d MRm_going 43 L (.int (mu a 39) :: st) (Wd mu la ro et) := R_gfI d_MRm_going_40 ff_10_72 hq
theorem r_MRm_going_43 : Rr X d MRm_going 43 L st h = Rr X d MRm_going 48 L st h := R_goto d_MRm_going_43 (by decide)
theorem r_MRm_going_46 : Rr X d MRm_going 46 L st h = Rr X d MRm_going 48 L (.int (-2000000000) :: st) h := Rr_nx d_MRm_going_46 rfl
theorem r_MRm_going_48 {x : Int32} : Rr X d MRm_going 48 L [.int x] h = some (some (.int x), h) := R_ir d_MRm_going_48 rfl
theorem r_MRm_going_49 {l0 l1 : Value} {x : Int32} : Rr X d MRm_going 49 [l0, l1, .int x] st h = Rr X d MRm_going 50 [l0, l1, .int x] (.int x :: st) h := Rr_nx d_MRm_going_49 rfl
theorem r_MRm_going_50 {x : Int32} : Rr X d MRm_going 50 L (.int x :: st) h = if ¬ x = 0 then Rr X d MRm_going 62 L st h else Rr X d MRm_going 53 L st h := R_if_ne d_MRm_going_50 (by decide)
theorem r_MRm_going_53 {l1 l2 : Value} {x : Nat} : Rr X d MRm_going 53 [.ref x, l1, l2] st h = Rr X d MRm_going 54 [.ref x, l1, l2] (.ref x :: st) h := Rr_nx d_MRm_going_53 rfl
theorem ff_10_63 : fF 10 63 = some (10, 36, 1, 1) := rfl
theorem r_MRm_going_54 {a : Nat} (hq : (qR a 10 36).isSome = true) : Rr X d MRm_going 54 L (.ref a :: st) (Wd mu la ro et) = Rr X d MRm_going 57 L (.ref (qRd a 10 36) :: st) (Wd mu la ro et) := R_gfR d_MRm_going_54 ff_10_63 hq
theorem r_MRm_going_57 {l0 l2 : Value} {x : Int32} : Rr X d MRm_going 57 [l0, .int x, l2] st h = Rr X d MRm_going 58 [l0, .int x, l2] (.int x :: st) h := Rr_nx d_MRm_going_57 rfl
theorem r_MRm_going_58 {a : Nat} {j : Int32} (hq : (qA a 0).isSome = true) : Rr X d MRm_going 58 L (.int j :: .ref a :: st) (Wd mu la ro et) = if j < 0 ∨ qAd a 0 ≤ j.toNatClampNeg then none else Rr X d MRm_going 59 L (.int (mu a j.toNatClampNeg) :: st) (Wd mu la ro et) := R_ialW d_MRm_going_58 hq
theorem r_MRm_going_59 : Rr X d MRm_going 59 L st h = Rr X d MRm_going 82 L st h := R_goto d_MRm_going_59 (by decide)
theorem r_MRm_going_62 {l0 l1 : Value} {x : Int32} : Rr X d MRm_going 62 [l0, l1, .int x] st h = Rr X d MRm_going 63 [l0, l1, .int x] (.int x :: st) h := Rr_nx d_MRm_going_62 rfl
theorem r_MRm_going_63 : Rr X d MRm_going 63 L st h = Rr X d MRm_going 64 L (.int (1) :: st) h := Rr_nx d_MRm_going_63 rfl
theorem r_MRm_going_64 {x y : Int32} : Rr X d MRm_going 64 L (.int y :: .int x :: st) h = if ¬ x = y then Rr X d MRm_going 76 L st h else Rr X d MRm_going 67 L st h := R_ic_ne d_MRm_going_64 (by decide)
theorem r_MRm_going_67 {l1 l2 : Value} {x : Nat} : Rr X d MRm_going 67 [.ref x, l1, l2] st h = Rr X d MRm_going 68 [.ref x, l1, l2] (.ref x :: st) h := Rr_nx d_MRm_going_67 rfl
theorem ff_10_66 : fF 10 66 = some (10, 37, 1, 1) := rfl
theorem r_MRm_going_68 {a : Nat} (hq : (qR a 10 37).isSome = true) : Rr X d MRm_going 68 L (.ref a :: st) (Wd mu la ro et) = Rr X d MRm_going 71 L (.ref (qRd a 10 37) :: st) (Wd mu la ro et) := R_gfR d_MRm_going_68 ff_10_66 hq
theorem r_MRm_going_71 {l0 l2 : Value} {x : Int32} : Rr X d MRm_going 71 [l0, .int x, l2] st h = Rr X d MRm_going 72 [l0, .int x, l2] (.int x :: st) h := Rr_nx d_MRm_going_71 rfl
theorem r_MRm_going_72 {a : Nat} {j : Int32} (hq : (qA a 0).isSome = true) : Rr X d MRm_going 72 L (.int j :: .ref a :: st) (Wd mu la ro et) = if j < 0 ∨ qAd a 0 ≤ j.toNatClampNeg then none else Rr X d MRm_going 73 L (.int (mu a j.toNatClampNeg) :: st) (Wd mu la ro et) := R_ialW d_MRm_going_72 hq
theorem r_MRm_going_73 : Rr X d MRm_going 73 L st h = Rr X d MRm_going 82 L st h := R_goto d_MRm_going_73 (by decide)
theorem r_MRm_going_76 {l1 l2 : Value} {x : Nat} : Rr X d MRm_going 76 [.ref x, l1, l2] st h = Rr X d MRm_going 77 [.ref x, l1, l2] (.ref x :: st) h := Rr_nx d_MRm_going_76 rfl
theorem ff_10_69 : fF 10 69 = some (10, 38, 1, 1) := rfl
theorem r_MRm_going_77 {a : Nat} (hq : (qR a 10 38).isSome = true) : Rr X d MRm_going 77 L (.ref a :: st) (Wd mu la ro et) = Rr X d MRm_going 80 L (.ref (qRd a 10 38) :: st) (Wd mu la ro et) := R_gfR d_MRm_going_77 ff_10_69 hq
theorem r_MRm_going_80 {l0 l2 : Value} {x : Int32} : Rr X d MRm_going 80 [l0, .int x, l2] st h = Rr X d MRm_going 81 [l0, .int x, l2] (.int x :: st) h := Rr_nx d_MRm_going_80 rfl
theorem r_MRm_going_81 {a : Nat} {j : Int32} (hq : (qA a 0).isSome = true) : Rr X d MRm_going 81 L (.int j :: .ref a :: st) (Wd mu la ro et) = if j < 0 ∨ qAd a 0 ≤ j.toNatClampNeg then none else Rr X d MRm_going 82 L (.int (mu a j.toNatClampNeg) :: st) (Wd mu la ro et) := R_ialW d_MRm_going_81 hq
theorem r_MRm_going_82 {x : Int32} : Rr X d MRm_going 82 L [.int x] h = some (some (.int x), h) := R_ir d_MRm_going_82 rfl
theorem d_MRm_back_0 : decode MRm_back.2.2.1 0 = .ok (.iload_n 1, 1) := by decide +kernel
theorem d_MRm_back_1 : decode MRm_back.2.2.1 1 = .ok (.iconst (-1), 1) := by decide +kernel
theorem d_MRm_back_2 : decode MRm_back.2.2.1 2 = .ok (.if_icmp .ge 5, 3) := by decide +kernel
theorem d_MRm_back_5 : decode MRm_back.2.2.1 5 = .ok (.iconst (-1), 1) := by decide +kernel
theorem d_MRm_back_6 : decode MRm_back.2.2.1 6 = .ok (.ireturn, 1) := by decide +kernel
theorem d_MRm_back_7 : decode MRm_back.2.2.1 7 = .ok (.aload_n 0, 1) := by decide +kernel
theorem d_MRm_back_8 : decode MRm_back.2.2.1 8 = .ok (.getfield 72, 3) := by decide +kernel
theorem d_MRm_back_11 : decode MRm_back.2.2.1 11 = .ok (.ifCond .ge 6, 3) := by decide +kernel
theorem d_MRm_back_14 : decode MRm_back.2.2.1 14 = .ok (.bipush (-5), 2) := by decide +kernel
theorem d_MRm_back_16 : decode MRm_back.2.2.1 16 = .ok (.ireturn, 1) := by decide +kernel
theorem d_MRm_back_17 : decode MRm_back.2.2.1 17 = .ok (.iconst 0, 1) := by decide +kernel
theorem d_MRm_back_18 : decode MRm_back.2.2.1 18 = .ok (.istore_n 2, 1) := by decide +kernel
theorem d_MRm_back_19 : decode MRm_back.2.2.1 19 = .ok (.iconst 0, 1) := by decide +kernel
theorem d_MRm_back_20 : decode MRm_back.2.2.1 20 = .ok (.istore_n 3, 1) := by decide +kernel
theorem d_MRm_back_21 : decode MRm_back.2.2.1 21 = .ok (.iconst 0, 1) := by decide +kernel
theorem d_MRm_back_22 : decode MRm_back.2.2.1 22 = .ok (.istore 4, 2) := by decide +kernel
theorem d_MRm_back_24 : decode MRm_back.2.2.1 24 = .ok (.iload 4, 2) := by decide +kernel
theorem d_MRm_back_26 : decode MRm_back.2.2.1 26 = .ok (.aload_n 0, 1) := by decide +kernel
theorem d_MRm_back_27 : decode MRm_back.2.2.1 27 = .ok (.getfield 72, 3) := by decide +kernel
theorem d_MRm_back_30 : decode MRm_back.2.2.1 30 = .ok (.if_icmp .gt 60, 3) := by decide +kernel
theorem d_MRm_back_33 : decode MRm_back.2.2.1 33 = .ok (.aload_n 0, 1) := by decide +kernel
theorem d_MRm_back_34 : decode MRm_back.2.2.1 34 = .ok (.getfield 63, 3) := by decide +kernel
theorem d_MRm_back_37 : decode MRm_back.2.2.1 37 = .ok (.iload 4, 2) := by decide +kernel
theorem d_MRm_back_39 : decode MRm_back.2.2.1 39 = .ok (.iaload, 1) := by decide +kernel
theorem d_MRm_back_40 : decode MRm_back.2.2.1 40 = .ok (.ifCond .ne 6, 3) := by decide +kernel
theorem d_MRm_back_43 : decode MRm_back.2.2.1 43 = .ok (.goto 41, 3) := by decide +kernel
theorem d_MRm_back_46 : decode MRm_back.2.2.1 46 = .ok (.aload_n 0, 1) := by decide +kernel
theorem d_MRm_back_47 : decode MRm_back.2.2.1 47 = .ok (.getfield 63, 3) := by decide +kernel
theorem d_MRm_back_50 : decode MRm_back.2.2.1 50 = .ok (.iload 4, 2) := by decide +kernel
theorem d_MRm_back_52 : decode MRm_back.2.2.1 52 = .ok (.iaload, 1) := by decide +kernel
theorem d_MRm_back_53 : decode MRm_back.2.2.1 53 = .ok (.ifCond .le 7, 3) := by decide +kernel
theorem d_MRm_back_56 : decode MRm_back.2.2.1 56 = .ok (.iconst 1, 1) := by decide +kernel
theorem d_MRm_back_57 : decode MRm_back.2.2.1 57 = .ok (.goto 4, 3) := by decide +kernel
theorem d_MRm_back_60 : decode MRm_back.2.2.1 60 = .ok (.iconst (-1), 1) := by decide +kernel
theorem d_MRm_back_61 : decode MRm_back.2.2.1 61 = .ok (.istore 5, 2) := by decide +kernel
theorem d_MRm_back_63 : decode MRm_back.2.2.1 63 = .ok (.iload 5, 2) := by decide +kernel
theorem d_MRm_back_65 : decode MRm_back.2.2.1 65 = .ok (.iload_n 3, 1) := by decide +kernel
theorem d_MRm_back_66 : decode MRm_back.2.2.1 66 = .ok (.ineg, 1) := by decide +kernel
theorem d_MRm_back_67 : decode MRm_back.2.2.1 67 = .ok (.if_icmp .ne 14, 3) := by decide +kernel
theorem d_MRm_back_70 : decode MRm_back.2.2.1 70 = .ok (.iload_n 2, 1) := by decide +kernel
theorem d_MRm_back_71 : decode MRm_back.2.2.1 71 = .ok (.iload_n 1, 1) := by decide +kernel
theorem d_MRm_back_72 : decode MRm_back.2.2.1 72 = .ok (.if_icmp .ne 6, 3) := by decide +kernel
theorem d_MRm_back_75 : decode MRm_back.2.2.1 75 = .ok (.iload 4, 2) := by decide +kernel
theorem d_MRm_back_77 : decode MRm_back.2.2.1 77 = .ok (.ireturn, 1) := by decide +kernel
theorem d_MRm_back_78 : decode MRm_back.2.2.1 78 = .ok (.iinc 2 1, 3) := by decide +kernel
theorem d_MRm_back_81 : decode MRm_back.2.2.1 81 = .ok (.iload 5, 2) := by decide +kernel
theorem d_MRm_back_83 : decode MRm_back.2.2.1 83 = .ok (.istore_n 3, 1) := by decide +kernel
theorem d_MRm_back_84 : decode MRm_back.2.2.1 84 = .ok (.iinc 4 1, 3) := by decide +kernel
theorem d_MRm_back_87 : decode MRm_back.2.2.1 87 = .ok (.goto (-63), 3) := by decide +kernel
theorem d_MRm_back_90 : decode MRm_back.2.2.1 90 = .ok (.iload_n 1, 1) := by decide +kernel
theorem d_MRm_back_91 : decode MRm_back.2.2.1 91 = .ok (.ifCond .ge 7, 3) := by decide +kernel
theorem d_MRm_back_94 : decode MRm_back.2.2.1 94 = .ok (.iload_n 2, 1) := by decide +kernel
theorem d_MRm_back_95 : decode MRm_back.2.2.1 95 = .ok (.goto 4, 3) := by decide +kernel
theorem d_MRm_back_98 : decode MRm_back.2.2.1 98 = .ok (.iconst (-1), 1) := by decide +kernel
theorem d_MRm_back_99 : decode MRm_back.2.2.1 99 = .ok (.ireturn, 1) := by decide +kernel
theorem r_MRm_back_0 {l0 l2 l3 l4 l5 : Value} {x : Int32} : Rr X d MRm_back 0 [l0, .int x, l2, l3, l4, l5] st h = Rr X d MRm_back 1 [l0, .int x, l2, l3, l4, l5] (.int x :: st) h := Rr_nx d_MRm_back_0 rfl
theorem r_MRm_back_1 : Rr X d MRm_back 1 L st h = Rr X d MRm_back 2 L (.int (-1) :: st) h := Rr_nx d_MRm_back_1 rfl
theorem r_MRm_back_2 {x y : Int32} : Rr X d MRm_back 2 L (.int y :: .int x :: st) h = if y ≤ x then Rr X d MRm_back 7 L st h else Rr X d MRm_back 5 L st h := R_ic_ge d_MRm_back_2 (by decide)
theorem r_MRm_back_5 : Rr X d MRm_back 5 L st h = Rr X d MRm_back 6 L (.int (-1) :: st) h := Rr_nx d_MRm_back_5 rfl
theorem r_MRm_back_6 {x : Int32} : Rr X d MRm_back 6 L [.int x] h = some (some (.int x), h) := R_ir d_MRm_back_6 rfl
theorem r_MRm_back_7 {l1 l2 l3 l4 l5 : Value} {x : Nat} : Rr X d MRm_back 7 [.ref x, l1, l2, l3, l4, l5] st h = Rr X d MRm_back 8 [.ref x, l1, l2, l3, l4, l5] (.ref x :: st) h := Rr_nx d_MRm_back_7 rfl
theorem r_MRm_back_8 {a : Nat} (hq : qI a 10 39 = true) : Rr X d MRm_back 8 L (.ref a :: st) (Wd mu la ro et) = Rr X d MRm_back 11 L (.int (mu a 39) :: st) (Wd mu la ro et) := R_gfI d_MRm_back_8 ff_10_72 hq
theorem r_MRm_back_11 {x : Int32} : Rr X d MRm_back 11 L (.int x :: st) h = if 0 ≤ x then Rr X d MRm_back 17 L st h else Rr X d MRm_back 14 L st h := R_if_ge d_MRm_back_11 (by decide)
theorem r_MRm_back_14 : Rr X d MRm_back 14 L st h = Rr X d MRm_back 16 L (.int (-5) :: st) h := Rr_nx d_MRm_back_14 rfl
theorem r_MRm_back_16 {x : Int32} : Rr X d MRm_back 16 L [.int x] h = some (some (.int x), h) := R_ir d_MRm_back_16 rfl
theorem r_MRm_back_17 : Rr X d MRm_back 17 L st h = Rr X d MRm_back 18 L (.int (0) :: st) h := Rr_nx d_MRm_back_17 rfl
theorem r_MRm_back_18 {l0 l1 l2 l3 l4 l5 : Value} {x : Int32} : Rr X d MRm_back 18 [l0, l1, l2, l3, l4, l5] (.int x :: st) h = Rr X d MRm_back 19 (sL [l0, l1, l2, l3, l4, l5] 2 (.int x)) st h := Rr_nx d_MRm_back_18 rfl
theorem r_MRm_back_19 : Rr X d MRm_back 19 L st h = Rr X d MRm_back 20 L (.int (0) :: st) h := Rr_nx d_MRm_back_19 rfl
theorem r_MRm_back_20 {l0 l1 l2 l3 l4 l5 : Value} {x : Int32} : Rr X d MRm_back 20 [l0, l1, l2, l3, l4, l5] (.int x :: st) h = Rr X d MRm_back 21 (sL [l0, l1, l2, l3, l4, l5] 3 (.int x)) st h := Rr_nx d_MRm_back_20 rfl
theorem r_MRm_back_21 : Rr X d MRm_back 21 L st h = Rr X d MRm_back 22 L (.int (0) :: st) h := Rr_nx d_MRm_back_21 rfl
theorem r_MRm_back_22 {l0 l1 l2 l3 l4 l5 : Value} {x : Int32} : Rr X d MRm_back 22 [l0, l1, l2, l3, l4, l5] (.int x :: st) h = Rr X d MRm_back 24 (sL [l0, l1, l2, l3, l4, l5] 4 (.int x)) st h := Rr_nx d_MRm_back_22 rfl
theorem r_MRm_back_24 {l0 l1 l2 l3 l5 : Value} {x : Int32} : Rr X d MRm_back 24 [l0, l1, l2, l3, .int x, l5] st h = Rr X d MRm_back 26 [l0, l1, l2, l3, .int x, l5] (.int x :: st) h := Rr_nx d_MRm_back_24 rfl
theorem r_MRm_back_26 {l1 l2 l3 l4 l5 : Value} {x : Nat} : Rr X d MRm_back 26 [.ref x, l1, l2, l3, l4, l5] st h = Rr X d MRm_back 27 [.ref x, l1, l2, l3, l4, l5] (.ref x :: st) h := Rr_nx d_MRm_back_26 rfl
theorem r_MRm_back_27 {a : Nat} (hq : qI a 10 39 = true) : Rr X d MRm_back 27 L (.ref a :: st) (Wd mu la ro et) = Rr X d MRm_back 30 L (.int (mu a 39) :: st) (Wd mu la ro et) := R_gfI d_MRm_back_27 ff_10_72 hq
theorem r_MRm_back_30 {x y : Int32} : Rr X d MRm_back 30 L (.int y :: .int x :: st) h = if y < x then Rr X d MRm_back 90 L st h else Rr X d MRm_back 33 L st h := R_ic_gt d_MRm_back_30 (by decide)
theorem r_MRm_back_33 {l1 l2 l3 l4 l5 : Value} {x : Nat} : Rr X d MRm_back 33 [.ref x, l1, l2, l3, l4, l5] st h = Rr X d MRm_back 34 [.ref x, l1, l2, l3, l4, l5] (.ref x :: st) h := Rr_nx d_MRm_back_33 rfl
theorem r_MRm_back_34 {a : Nat} (hq : (qR a 10 36).isSome = true) : Rr X d MRm_back 34 L (.ref a :: st) (Wd mu la ro et) = Rr X d MRm_back 37 L (.ref (qRd a 10 36) :: st) (Wd mu la ro et) := R_gfR d_MRm_back_34 ff_10_63 hq
theorem r_MRm_back_37 {l0 l1 l2 l3 l5 : Value} {x : Int32} : Rr X d MRm_back 37 [l0, l1, l2, l3, .int x, l5] st h = Rr X d MRm_back 39 [l0, l1, l2, l3, .int x, l5] (.int x :: st) h := Rr_nx d_MRm_back_37 rfl
theorem r_MRm_back_39 {a : Nat} {j : Int32} (hq : (qA a 0).isSome = true) : Rr X d MRm_back 39 L (.int j :: .ref a :: st) (Wd mu la ro et) = if j < 0 ∨ qAd a 0 ≤ j.toNatClampNeg then none else Rr X d MRm_back 40 L (.int (mu a j.toNatClampNeg) :: st) (Wd mu la ro et) := R_ialW d_MRm_back_39 hq
theorem r_MRm_back_40 {x : Int32} : Rr X d MRm_back 40 L (.int x :: st) h = if ¬ x = 0 then Rr X d MRm_back 46 L st h else Rr X d MRm_back 43 L st h := R_if_ne d_MRm_back_40 (by decide)
theorem r_MRm_back_43 : Rr X d MRm_back 43 L st h = Rr X d MRm_back 84 L st h := R_goto d_MRm_back_43 (by decide)
theorem r_MRm_back_46 {l1 l2 l3 l4 l5 : Value} {x : Nat} : Rr X d MRm_back 46 [.ref x, l1, l2, l3, l4, l5] st h = Rr X d MRm_back 47 [.ref x, l1, l2, l3, l4, l5] (.ref x :: st) h := Rr_nx d_MRm_back_46 rfl
theorem r_MRm_back_47 {a : Nat} (hq : (qR a 10 36).isSome = true) : Rr X d MRm_back 47 L (.ref a :: st) (Wd mu la ro et) = Rr X d MRm_back 50 L (.ref (qRd a 10 36) :: st) (Wd mu la ro et) := R_gfR d_MRm_back_47 ff_10_63 hq
theorem r_MRm_back_50 {l0 l1 l2 l3 l5 : Value} {x : Int32} : Rr X d MRm_back 50 [l0, l1, l2, l3, .int x, l5] st h = Rr X d MRm_back 52 [l0, l1, l2, l3, .int x, l5] (.int x :: st) h := Rr_nx d_MRm_back_50 rfl
theorem r_MRm_back_52 {a : Nat} {j : Int32} (hq : (qA a 0).isSome = true) : Rr X d MRm_back 52 L (.int j :: .ref a :: st) (Wd mu la ro et) = if j < 0 ∨ qAd a 0 ≤ j.toNatClampNeg then none else Rr X d MRm_back 53 L (.int (mu a j.toNatClampNeg) :: st) (Wd mu la ro et) := R_ialW d_MRm_back_52 hq
theorem r_MRm_back_53 {x : Int32} : Rr X d MRm_back 53 L (.int x :: st) h = if x ≤ 0 then Rr X d MRm_back 60 L st h else Rr X d MRm_back 56 L st h := R_if_le d_MRm_back_53 (by decide)
theorem r_MRm_back_56 : Rr X d MRm_back 56 L st h = Rr X d MRm_back 57 L (.int (1) :: st) h := Rr_nx d_MRm_back_56 rfl
theorem r_MRm_back_57 : Rr X d MRm_back 57 L st h = Rr X d MRm_back 61 L st h := R_goto d_MRm_back_57 (by decide)
theorem r_MRm_back_60 : Rr X d MRm_back 60 L st h = Rr X d MRm_back 61 L (.int (-1) :: st) h := Rr_nx d_MRm_back_60 rfl
theorem r_MRm_back_61 {l0 l1 l2 l3 l4 l5 : Value} {x : Int32} : Rr X d MRm_back 61 [l0, l1, l2, l3, l4, l5] (.int x :: st) h = Rr X d MRm_back 63 (sL [l0, l1, l2, l3, l4, l5] 5 (.int x)) st h := Rr_nx d_MRm_back_61 rfl
theorem r_MRm_back_63 {l0 l1 l2 l3 l4 : Value} {x : Int32} : Rr X d MRm_back 63 [l0, l1, l2, l3, l4, .int x] st h = Rr X d MRm_back 65 [l0, l1, l2, l3, l4, .int x] (.int x :: st) h := Rr_nx d_MRm_back_63 rfl
theorem r_MRm_back_65 {l0 l1 l2 l4 l5 : Value} {x : Int32} : Rr X d MRm_back 65 [l0, l1, l2, .int x, l4, l5] st h = Rr X d MRm_back 66 [l0, l1, l2, .int x, l4, l5] (.int x :: st) h := Rr_nx d_MRm_back_65 rfl
theorem r_MRm_back_66 {x : Int32} : Rr X d MRm_back 66 L (.int x :: st) h = Rr X d MRm_back 67 L (.int (-x) :: st) h := Rr_nx d_MRm_back_66 rfl
theorem r_MRm_back_67 {x y : Int32} : Rr X d MRm_back 67 L (.int y :: .int x :: st) h = if ¬ x = y then Rr X d MRm_back 81 L st h else Rr X d MRm_back 70 L st h := R_ic_ne d_MRm_back_67 (by decide)
theorem r_MRm_back_70 {l0 l1 l3 l4 l5 : Value} {x : Int32} : Rr X d MRm_back 70 [l0, l1, .int x, l3, l4, l5] st h = Rr X d MRm_back 71 [l0, l1, .int x, l3, l4, l5] (.int x :: st) h := Rr_nx d_MRm_back_70 rfl
theorem r_MRm_back_71 {l0 l2 l3 l4 l5 : Value} {x : Int32} : Rr X d MRm_back 71 [l0, .int x, l2, l3, l4, l5] st h = Rr X d MRm_back 72 [l0, .int x, l2, l3, l4, l5] (.int x :: st) h := Rr_nx d_MRm_back_71 rfl
theorem r_MRm_back_72 {x y : Int32} : Rr X d MRm_back 72 L (.int y :: .int x :: st) h = if ¬ x = y then Rr X d MRm_back 78 L st h else Rr X d MRm_back 75 L st h := R_ic_ne d_MRm_back_72 (by decide)
theorem r_MRm_back_75 {l0 l1 l2 l3 l5 : Value} {x : Int32} : Rr X d MRm_back 75 [l0, l1, l2, l3, .int x, l5] st h = Rr X d MRm_back 77 [l0, l1, l2, l3, .int x, l5] (.int x :: st) h := Rr_nx d_MRm_back_75 rfl
theorem r_MRm_back_77 {x : Int32} : Rr X d MRm_back 77 L [.int x] h = some (some (.int x), h) := R_ir d_MRm_back_77 rfl
theorem r_MRm_back_78 {l0 l1 l3 l4 l5 : Value} {x : Int32} : Rr X d MRm_back 78 [l0, l1, .int x, l3, l4, l5] st h = Rr X d MRm_back 81 (sL [l0, l1, .int x, l3, l4, l5] 2 (.int (x + (1)))) st h := Rr_nx d_MRm_back_78 rfl
theorem r_MRm_back_81 {l0 l1 l2 l3 l4 : Value} {x : Int32} : Rr X d MRm_back 81 [l0, l1, l2, l3, l4, .int x] st h = Rr X d MRm_back 83 [l0, l1, l2, l3, l4, .int x] (.int x :: st) h := Rr_nx d_MRm_back_81 rfl
theorem r_MRm_back_83 {l0 l1 l2 l3 l4 l5 : Value} {x : Int32} : Rr X d MRm_back 83 [l0, l1, l2, l3, l4, l5] (.int x :: st) h = Rr X d MRm_back 84 (sL [l0, l1, l2, l3, l4, l5] 3 (.int x)) st h := Rr_nx d_MRm_back_83 rfl
theorem r_MRm_back_84 {l0 l1 l2 l3 l5 : Value} {x : Int32} : Rr X d MRm_back 84 [l0, l1, l2, l3, .int x, l5] st h = Rr X d MRm_back 87 (sL [l0, l1, l2, l3, .int x, l5] 4 (.int (x + (1)))) st h := Rr_nx d_MRm_back_84 rfl
theorem r_MRm_back_87 : Rr X d MRm_back 87 L st h = Rr X d MRm_back 24 L st h := R_goto d_MRm_back_87 (by decide)
theorem r_MRm_back_90 {l0 l2 l3 l4 l5 : Value} {x : Int32} : Rr X d MRm_back 90 [l0, .int x, l2, l3, l4, l5] st h = Rr X d MRm_back 91 [l0, .int x, l2, l3, l4, l5] (.int x :: st) h := Rr_nx d_MRm_back_90 rfl
theorem r_MRm_back_91 {x : Int32} : Rr X d MRm_back 91 L (.int x :: st) h = if 0 ≤ x then Rr X d MRm_back 98 L st h else Rr X d MRm_back 94 L st h := R_if_ge d_MRm_back_91 (by decide)
theorem r_MRm_back_94 {l0 l1 l3 l4 l5 : Value} {x : Int32} : Rr X d MRm_back 94 [l0, l1, .int x, l3, l4, l5] st h = Rr X d MRm_back 95 [l0, l1, .int x, l3, l4, l5] (.int x :: st) h := Rr_nx d_MRm_back_94 rfl
theorem r_MRm_back_95 : Rr X d MRm_back 95 L st h = Rr X d MRm_back 99 L st h := R_goto d_MRm_back_95 (by decide)
theorem r_MRm_back_98 : Rr X d MRm_back 98 L st h = Rr X d MRm_back 99 L (.int (-1) :: st) h := Rr_nx d_MRm_back_98 rfl
theorem r_MRm_back_99 {x : Int32} : Rr X d MRm_back 99 L [.int x] h = some (some (.int x), h) := R_ir d_MRm_back_99 rfl
theorem d_MRm_told_0 : decode MRm_told.2.2.1 0 = .ok (.iload_n 1, 1) := by decide +kernel
theorem d_MRm_told_1 : decode MRm_told.2.2.1 1 = .ok (.iconst 0, 1) := by decide +kernel
theorem d_MRm_told_2 : decode MRm_told.2.2.1 2 = .ok (.iconst 4, 1) := by decide +kernel
theorem d_MRm_told_3 : decode MRm_told.2.2.1 3 = .ok (.invokestatic 107, 3) := by decide +kernel
theorem d_MRm_told_6 : decode MRm_told.2.2.1 6 = .ok (.ifCond .eq 10, 3) := by decide +kernel
theorem d_MRm_told_9 : decode MRm_told.2.2.1 9 = .ok (.aload_n 0, 1) := by decide +kernel
theorem d_MRm_told_10 : decode MRm_told.2.2.1 10 = .ok (.getfield 72, 3) := by decide +kernel
theorem d_MRm_told_13 : decode MRm_told.2.2.1 13 = .ok (.ifCond .ge 6, 3) := by decide +kernel
theorem d_MRm_told_16 : decode MRm_told.2.2.1 16 = .ok (.ldc 176, 2) := by decide +kernel
theorem d_MRm_told_18 : decode MRm_told.2.2.1 18 = .ok (.ireturn, 1) := by decide +kernel
theorem d_MRm_told_19 : decode MRm_told.2.2.1 19 = .ok (.iload_n 1, 1) := by decide +kernel
theorem d_MRm_told_20 : decode MRm_told.2.2.1 20 = .ok (.ifCond .ne 51, 3) := by decide +kernel
theorem d_MRm_told_23 : decode MRm_told.2.2.1 23 = .ok (.iconst 0, 1) := by decide +kernel
theorem d_MRm_told_24 : decode MRm_told.2.2.1 24 = .ok (.istore_n 2, 1) := by decide +kernel
theorem d_MRm_told_25 : decode MRm_told.2.2.1 25 = .ok (.iload_n 2, 1) := by decide +kernel
theorem d_MRm_told_26 : decode MRm_told.2.2.1 26 = .ok (.aload_n 0, 1) := by decide +kernel
theorem d_MRm_told_27 : decode MRm_told.2.2.1 27 = .ok (.getfield 72, 3) := by decide +kernel
theorem d_MRm_told_30 : decode MRm_told.2.2.1 30 = .ok (.if_icmp .gt 38, 3) := by decide +kernel
theorem d_MRm_told_33 : decode MRm_told.2.2.1 33 = .ok (.aload_n 0, 1) := by decide +kernel
theorem d_MRm_told_34 : decode MRm_told.2.2.1 34 = .ok (.getfield 63, 3) := by decide +kernel
theorem d_MRm_told_37 : decode MRm_told.2.2.1 37 = .ok (.iload_n 2, 1) := by decide +kernel
theorem d_MRm_told_38 : decode MRm_told.2.2.1 38 = .ok (.iaload, 1) := by decide +kernel
theorem d_MRm_told_39 : decode MRm_told.2.2.1 39 = .ok (.ifCond .ne 23, 3) := by decide +kernel
theorem d_MRm_told_42 : decode MRm_told.2.2.1 42 = .ok (.aload_n 0, 1) := by decide +kernel
theorem d_MRm_told_43 : decode MRm_told.2.2.1 43 = .ok (.getfield 66, 3) := by decide +kernel
theorem d_MRm_told_46 : decode MRm_told.2.2.1 46 = .ok (.iload_n 2, 1) := by decide +kernel
theorem d_MRm_told_47 : decode MRm_told.2.2.1 47 = .ok (.iaload, 1) := by decide +kernel
theorem d_MRm_told_48 : decode MRm_told.2.2.1 48 = .ok (.ifCond .ne 14, 3) := by decide +kernel
theorem d_MRm_told_51 : decode MRm_told.2.2.1 51 = .ok (.aload_n 0, 1) := by decide +kernel
theorem d_MRm_told_52 : decode MRm_told.2.2.1 52 = .ok (.getfield 69, 3) := by decide +kernel
theorem d_MRm_told_55 : decode MRm_told.2.2.1 55 = .ok (.iload_n 2, 1) := by decide +kernel
theorem d_MRm_told_56 : decode MRm_told.2.2.1 56 = .ok (.iaload, 1) := by decide +kernel
theorem d_MRm_told_57 : decode MRm_told.2.2.1 57 = .ok (.ifCond .ne 5, 3) := by decide +kernel
theorem d_MRm_told_60 : decode MRm_told.2.2.1 60 = .ok (.iload_n 2, 1) := by decide +kernel
theorem d_MRm_told_61 : decode MRm_told.2.2.1 61 = .ok (.ireturn, 1) := by decide +kernel
theorem d_MRm_told_62 : decode MRm_told.2.2.1 62 = .ok (.iinc 2 1, 3) := by decide +kernel
theorem d_MRm_told_65 : decode MRm_told.2.2.1 65 = .ok (.goto (-40), 3) := by decide +kernel
theorem d_MRm_told_68 : decode MRm_told.2.2.1 68 = .ok (.bipush (-2), 2) := by decide +kernel
theorem d_MRm_told_70 : decode MRm_told.2.2.1 70 = .ok (.ireturn, 1) := by decide +kernel
theorem d_MRm_told_71 : decode MRm_told.2.2.1 71 = .ok (.iload_n 1, 1) := by decide +kernel
theorem d_MRm_told_72 : decode MRm_told.2.2.1 72 = .ok (.iconst 1, 1) := by decide +kernel
theorem d_MRm_told_73 : decode MRm_told.2.2.1 73 = .ok (.if_icmp .le 32, 3) := by decide +kernel
theorem d_MRm_told_76 : decode MRm_told.2.2.1 76 = .ok (.iload_n 1, 1) := by decide +kernel
theorem d_MRm_told_77 : decode MRm_told.2.2.1 77 = .ok (.iconst 2, 1) := by decide +kernel
theorem d_MRm_told_78 : decode MRm_told.2.2.1 78 = .ok (.if_icmp .ne 10, 3) := by decide +kernel
theorem d_MRm_told_81 : decode MRm_told.2.2.1 81 = .ok (.aload_n 0, 1) := by decide +kernel
theorem d_MRm_told_82 : decode MRm_told.2.2.1 82 = .ok (.getfield 304, 3) := by decide +kernel
theorem d_MRm_told_85 : decode MRm_told.2.2.1 85 = .ok (.goto 19, 3) := by decide +kernel
theorem d_MRm_told_88 : decode MRm_told.2.2.1 88 = .ok (.iload_n 1, 1) := by decide +kernel
theorem d_MRm_told_89 : decode MRm_told.2.2.1 89 = .ok (.iconst 3, 1) := by decide +kernel
theorem d_MRm_told_90 : decode MRm_told.2.2.1 90 = .ok (.if_icmp .ne 10, 3) := by decide +kernel
theorem d_MRm_told_93 : decode MRm_told.2.2.1 93 = .ok (.aload_n 0, 1) := by decide +kernel
theorem d_MRm_told_94 : decode MRm_told.2.2.1 94 = .ok (.getfield 307, 3) := by decide +kernel
theorem d_MRm_told_97 : decode MRm_told.2.2.1 97 = .ok (.goto 7, 3) := by decide +kernel
theorem d_MRm_told_100 : decode MRm_told.2.2.1 100 = .ok (.aload_n 0, 1) := by decide +kernel
theorem d_MRm_told_101 : decode MRm_told.2.2.1 101 = .ok (.getfield 310, 3) := by decide +kernel
theorem d_MRm_told_104 : decode MRm_told.2.2.1 104 = .ok (.ireturn, 1) := by decide +kernel
theorem d_MRm_told_105 : decode MRm_told.2.2.1 105 = .ok (.iconst 0, 1) := by decide +kernel
theorem d_MRm_told_106 : decode MRm_told.2.2.1 106 = .ok (.istore_n 2, 1) := by decide +kernel
theorem d_MRm_told_107 : decode MRm_told.2.2.1 107 = .ok (.iconst 1, 1) := by decide +kernel
theorem d_MRm_told_108 : decode MRm_told.2.2.1 108 = .ok (.istore_n 3, 1) := by decide +kernel
theorem d_MRm_told_109 : decode MRm_told.2.2.1 109 = .ok (.iload_n 3, 1) := by decide +kernel
theorem d_MRm_told_110 : decode MRm_told.2.2.1 110 = .ok (.aload_n 0, 1) := by decide +kernel
theorem d_MRm_told_111 : decode MRm_told.2.2.1 111 = .ok (.getfield 72, 3) := by decide +kernel
theorem d_MRm_told_114 : decode MRm_told.2.2.1 114 = .ok (.if_icmp .gt 18, 3) := by decide +kernel
theorem d_MRm_told_117 : decode MRm_told.2.2.1 117 = .ok (.iload_n 2, 1) := by decide +kernel
theorem d_MRm_told_118 : decode MRm_told.2.2.1 118 = .ok (.aload_n 0, 1) := by decide +kernel
theorem d_MRm_told_119 : decode MRm_told.2.2.1 119 = .ok (.getfield 63, 3) := by decide +kernel
theorem d_MRm_told_122 : decode MRm_told.2.2.1 122 = .ok (.iload_n 3, 1) := by decide +kernel
theorem d_MRm_told_123 : decode MRm_told.2.2.1 123 = .ok (.iaload, 1) := by decide +kernel
theorem d_MRm_told_124 : decode MRm_told.2.2.1 124 = .ok (.iadd, 1) := by decide +kernel
theorem d_MRm_told_125 : decode MRm_told.2.2.1 125 = .ok (.istore_n 2, 1) := by decide +kernel
theorem d_MRm_told_126 : decode MRm_told.2.2.1 126 = .ok (.iinc 3 1, 3) := by decide +kernel
theorem d_MRm_told_129 : decode MRm_told.2.2.1 129 = .ok (.goto (-20), 3) := by decide +kernel
theorem d_MRm_told_132 : decode MRm_told.2.2.1 132 = .ok (.iload_n 2, 1) := by decide +kernel
theorem d_MRm_told_133 : decode MRm_told.2.2.1 133 = .ok (.ireturn, 1) := by decide +kernel
theorem r_MRm_told_0 {l0 l2 l3 : Value} {x : Int32} : Rr X d MRm_told 0 [l0, .int x, l2, l3] st h = Rr X d MRm_told 1 [l0, .int x, l2, l3] (.int x :: st) h := Rr_nx d_MRm_told_0 rfl
theorem r_MRm_told_1 : Rr X d MRm_told 1 L st h = Rr X d MRm_told 2 L (.int (0) :: st) h := Rr_nx d_MRm_told_1 rfl
theorem r_MRm_told_2 : Rr X d MRm_told 2 L st h = Rr X d MRm_told 3 L (.int (4) :: st) h := Rr_nx d_MRm_told_2 rfl
theorem r_MRm_told_3 {y0 : Int32} {y1 : Int32} {y2 : Int32} (hc : ckS st = true) : Rr X (d + 1) MRm_told 3 L (.int y2 :: .int y1 :: .int y0 :: st) h = (Rr X d MRm_in 0 [.int y0, .int y1, .int y2] [] h).bind fun q => Rr X (d + 1) MRm_told 6 L (psh q.1 st) q.2 := R_is (av := [.int y2, .int y1, .int y0]) d_MRm_told_3 (Or.inl fc_10_107) (ckS_le hc) rfl (Nat.le_of_ble_eq_true rfl) (Nat.le_of_ble_eq_true rfl)
theorem r_MRm_told_6 {x : Int32} : Rr X d MRm_told 6 L (.int x :: st) h = if x = 0 then Rr X d MRm_told 16 L st h else Rr X d MRm_told 9 L st h := R_if_eq d_MRm_told_6 (by decide)
theorem r_MRm_told_9 {l1 l2 l3 : Value} {x : Nat} : Rr X d MRm_told 9 [.ref x, l1, l2, l3] st h = Rr X d MRm_told 10 [.ref x, l1, l2, l3] (.ref x :: st) h := Rr_nx d_MRm_told_9 rfl
theorem r_MRm_told_10 {a : Nat} (hq : qI a 10 39 = true) : Rr X d MRm_told 10 L (.ref a :: st) (Wd mu la ro et) = Rr X d MRm_told 13 L (.int (mu a 39) :: st) (Wd mu la ro et) := R_gfI d_MRm_told_10 ff_10_72 hq
theorem r_MRm_told_13 {x : Int32} : Rr X d MRm_told 13 L (.int x :: st) h = if 0 ≤ x then Rr X d MRm_told 19 L st h else Rr X d MRm_told 16 L st h := R_if_ge d_MRm_told_13 (by decide)
theorem r_MRm_told_16 : Rr X d MRm_told 16 L st h = Rr X d MRm_told 18 L (.int (-2000000000) :: st) h := Rr_nx d_MRm_told_16 rfl
theorem r_MRm_told_18 {x : Int32} : Rr X d MRm_told 18 L [.int x] h = some (some (.int x), h) := R_ir d_MRm_told_18 rfl
theorem r_MRm_told_19 {l0 l2 l3 : Value} {x : Int32} : Rr X d MRm_told 19 [l0, .int x, l2, l3] st h = Rr X d MRm_told 20 [l0, .int x, l2, l3] (.int x :: st) h := Rr_nx d_MRm_told_19 rfl
theorem r_MRm_told_20 {x : Int32} : Rr X d MRm_told 20 L (.int x :: st) h = if ¬ x = 0 then Rr X d MRm_told 71 L st h else Rr X d MRm_told 23 L st h := R_if_ne d_MRm_told_20 (by decide)
theorem r_MRm_told_23 : Rr X d MRm_told 23 L st h = Rr X d MRm_told 24 L (.int (0) :: st) h := Rr_nx d_MRm_told_23 rfl
theorem r_MRm_told_24 {l0 l1 l2 l3 : Value} {x : Int32} : Rr X d MRm_told 24 [l0, l1, l2, l3] (.int x :: st) h = Rr X d MRm_told 25 (sL [l0, l1, l2, l3] 2 (.int x)) st h := Rr_nx d_MRm_told_24 rfl
theorem r_MRm_told_25 {l0 l1 l3 : Value} {x : Int32} : Rr X d MRm_told 25 [l0, l1, .int x, l3] st h = Rr X d MRm_told 26 [l0, l1, .int x, l3] (.int x :: st) h := Rr_nx d_MRm_told_25 rfl
theorem r_MRm_told_26 {l1 l2 l3 : Value} {x : Nat} : Rr X d MRm_told 26 [.ref x, l1, l2, l3] st h = Rr X d MRm_told 27 [.ref x, l1, l2, l3] (.ref x :: st) h := Rr_nx d_MRm_told_26 rfl
theorem r_MRm_told_27 {a : Nat} (hq : qI a 10 39 = true) : Rr X d MRm_told 27 L (.ref a :: st) (Wd mu la ro et) = Rr X d MRm_told 30 L (.int (mu a 39) :: st) (Wd mu la ro et) := R_gfI d_MRm_told_27 ff_10_72 hq
theorem r_MRm_told_30 {x y : Int32} : Rr X d MRm_told 30 L (.int y :: .int x :: st) h = if y < x then Rr X d MRm_told 68 L st h else Rr X d MRm_told 33 L st h := R_ic_gt d_MRm_told_30 (by decide)
theorem r_MRm_told_33 {l1 l2 l3 : Value} {x : Nat} : Rr X d MRm_told 33 [.ref x, l1, l2, l3] st h = Rr X d MRm_told 34 [.ref x, l1, l2, l3] (.ref x :: st) h := Rr_nx d_MRm_told_33 rfl
theorem r_MRm_told_34 {a : Nat} (hq : (qR a 10 36).isSome = true) : Rr X d MRm_told 34 L (.ref a :: st) (Wd mu la ro et) = Rr X d MRm_told 37 L (.ref (qRd a 10 36) :: st) (Wd mu la ro et) := R_gfR d_MRm_told_34 ff_10_63 hq
theorem r_MRm_told_37 {l0 l1 l3 : Value} {x : Int32} : Rr X d MRm_told 37 [l0, l1, .int x, l3] st h = Rr X d MRm_told 38 [l0, l1, .int x, l3] (.int x :: st) h := Rr_nx d_MRm_told_37 rfl
theorem r_MRm_told_38 {a : Nat} {j : Int32} (hq : (qA a 0).isSome = true) : Rr X d MRm_told 38 L (.int j :: .ref a :: st) (Wd mu la ro et) = if j < 0 ∨ qAd a 0 ≤ j.toNatClampNeg then none else Rr X d MRm_told 39 L (.int (mu a j.toNatClampNeg) :: st) (Wd mu la ro et) := R_ialW d_MRm_told_38 hq
theorem r_MRm_told_39 {x : Int32} : Rr X d MRm_told 39 L (.int x :: st) h = if ¬ x = 0 then Rr X d MRm_told 62 L st h else Rr X d MRm_told 42 L st h := R_if_ne d_MRm_told_39 (by decide)
theorem r_MRm_told_42 {l1 l2 l3 : Value} {x : Nat} : Rr X d MRm_told 42 [.ref x, l1, l2, l3] st h = Rr X d MRm_told 43 [.ref x, l1, l2, l3] (.ref x :: st) h := Rr_nx d_MRm_told_42 rfl
theorem r_MRm_told_43 {a : Nat} (hq : (qR a 10 37).isSome = true) : Rr X d MRm_told 43 L (.ref a :: st) (Wd mu la ro et) = Rr X d MRm_told 46 L (.ref (qRd a 10 37) :: st) (Wd mu la ro et) := R_gfR d_MRm_told_43 ff_10_66 hq
theorem r_MRm_told_46 {l0 l1 l3 : Value} {x : Int32} : Rr X d MRm_told 46 [l0, l1, .int x, l3] st h = Rr X d MRm_told 47 [l0, l1, .int x, l3] (.int x :: st) h := Rr_nx d_MRm_told_46 rfl
theorem r_MRm_told_47 {a : Nat} {j : Int32} (hq : (qA a 0).isSome = true) : Rr X d MRm_told 47 L (.int j :: .ref a :: st) (Wd mu la ro et) = if j < 0 ∨ qAd a 0 ≤ j.toNatClampNeg then none else Rr X d MRm_told 48 L (.int (mu a j.toNatClampNeg) :: st) (Wd mu la ro et) := R_ialW d_MRm_told_47 hq
theorem r_MRm_told_48 {x : Int32} : Rr X d MRm_told 48 L (.int x :: st) h = if ¬ x = 0 then Rr X d MRm_told 62 L st h else Rr X d MRm_told 51 L st h := R_if_ne d_MRm_told_48 (by decide)
theorem r_MRm_told_51 {l1 l2 l3 : Value} {x : Nat} : Rr X d MRm_told 51 [.ref x, l1, l2, l3] st h = Rr X d MRm_told 52 [.ref x, l1, l2, l3] (.ref x :: st) h := Rr_nx d_MRm_told_51 rfl
theorem r_MRm_told_52 {a : Nat} (hq : (qR a 10 38).isSome = true) : Rr X d MRm_told 52 L (.ref a :: st) (Wd mu la ro et) = Rr X d MRm_told 55 L (.ref (qRd a 10 38) :: st) (Wd mu la ro et) := R_gfR d_MRm_told_52 ff_10_69 hq
theorem r_MRm_told_55 {l0 l1 l3 : Value} {x : Int32} : Rr X d MRm_told 55 [l0, l1, .int x, l3] st h = Rr X d MRm_told 56 [l0, l1, .int x, l3] (.int x :: st) h := Rr_nx d_MRm_told_55 rfl
theorem r_MRm_told_56 {a : Nat} {j : Int32} (hq : (qA a 0).isSome = true) : Rr X d MRm_told 56 L (.int j :: .ref a :: st) (Wd mu la ro et) = if j < 0 ∨ qAd a 0 ≤ j.toNatClampNeg then none else Rr X d MRm_told 57 L (.int (mu a j.toNatClampNeg) :: st) (Wd mu la ro et) := R_ialW d_MRm_told_56 hq
theorem r_MRm_told_57 {x : Int32} : Rr X d MRm_told 57 L (.int x :: st) h = if ¬ x = 0 then Rr X d MRm_told 62 L st h else Rr X d MRm_told 60 L st h := R_if_ne d_MRm_told_57 (by decide)
theorem r_MRm_told_60 {l0 l1 l3 : Value} {x : Int32} : Rr X d MRm_told 60 [l0, l1, .int x, l3] st h = Rr X d MRm_told 61 [l0, l1, .int x, l3] (.int x :: st) h := Rr_nx d_MRm_told_60 rfl
theorem r_MRm_told_61 {x : Int32} : Rr X d MRm_told 61 L [.int x] h = some (some (.int x), h) := R_ir d_MRm_told_61 rfl
theorem r_MRm_told_62 {l0 l1 l3 : Value} {x : Int32} : Rr X d MRm_told 62 [l0, l1, .int x, l3] st h = Rr X d MRm_told 65 (sL [l0, l1, .int x, l3] 2 (.int (x + (1)))) st h := Rr_nx d_MRm_told_62 rfl
theorem r_MRm_told_65 : Rr X d MRm_told 65 L st h = Rr X d MRm_told 25 L st h := R_goto d_MRm_told_65 (by decide)
theorem r_MRm_told_68 : Rr X d MRm_told 68 L st h = Rr X d MRm_told 70 L (.int (-2) :: st) h := Rr_nx d_MRm_told_68 rfl
theorem r_MRm_told_70 {x : Int32} : Rr X d MRm_told 70 L [.int x] h = some (some (.int x), h) := R_ir d_MRm_told_70 rfl
theorem r_MRm_told_71 {l0 l2 l3 : Value} {x : Int32} : Rr X d MRm_told 71 [l0, .int x, l2, l3] st h = Rr X d MRm_told 72 [l0, .int x, l2, l3] (.int x :: st) h := Rr_nx d_MRm_told_71 rfl
theorem r_MRm_told_72 : Rr X d MRm_told 72 L st h = Rr X d MRm_told 73 L (.int (1) :: st) h := Rr_nx d_MRm_told_72 rfl
theorem r_MRm_told_73 {x y : Int32} : Rr X d MRm_told 73 L (.int y :: .int x :: st) h = if x ≤ y then Rr X d MRm_told 105 L st h else Rr X d MRm_told 76 L st h := R_ic_le d_MRm_told_73 (by decide)
theorem r_MRm_told_76 {l0 l2 l3 : Value} {x : Int32} : Rr X d MRm_told 76 [l0, .int x, l2, l3] st h = Rr X d MRm_told 77 [l0, .int x, l2, l3] (.int x :: st) h := Rr_nx d_MRm_told_76 rfl
theorem r_MRm_told_77 : Rr X d MRm_told 77 L st h = Rr X d MRm_told 78 L (.int (2) :: st) h := Rr_nx d_MRm_told_77 rfl
theorem r_MRm_told_78 {x y : Int32} : Rr X d MRm_told 78 L (.int y :: .int x :: st) h = if ¬ x = y then Rr X d MRm_told 88 L st h else Rr X d MRm_told 81 L st h := R_ic_ne d_MRm_told_78 (by decide)
theorem r_MRm_told_81 {l1 l2 l3 : Value} {x : Nat} : Rr X d MRm_told 81 [.ref x, l1, l2, l3] st h = Rr X d MRm_told 82 [.ref x, l1, l2, l3] (.ref x :: st) h := Rr_nx d_MRm_told_81 rfl
theorem r_MRm_told_82 {a : Nat} (hq : qI a 10 40 = true) : Rr X d MRm_told 82 L (.ref a :: st) (Wd mu la ro et) = Rr X d MRm_told 85 L (.int (mu a 40) :: st) (Wd mu la ro et) := R_gfI d_MRm_told_82 ff_10_304 hq
theorem r_MRm_told_85 : Rr X d MRm_told 85 L st h = Rr X d MRm_told 104 L st h := R_goto d_MRm_told_85 (by decide)
theorem r_MRm_told_88 {l0 l2 l3 : Value} {x : Int32} : Rr X d MRm_told 88 [l0, .int x, l2, l3] st h = Rr X d MRm_told 89 [l0, .int x, l2, l3] (.int x :: st) h := Rr_nx d_MRm_told_88 rfl
theorem r_MRm_told_89 : Rr X d MRm_told 89 L st h = Rr X d MRm_told 90 L (.int (3) :: st) h := Rr_nx d_MRm_told_89 rfl
theorem r_MRm_told_90 {x y : Int32} : Rr X d MRm_told 90 L (.int y :: .int x :: st) h = if ¬ x = y then Rr X d MRm_told 100 L st h else Rr X d MRm_told 93 L st h := R_ic_ne d_MRm_told_90 (by decide)
theorem r_MRm_told_93 {l1 l2 l3 : Value} {x : Nat} : Rr X d MRm_told 93 [.ref x, l1, l2, l3] st h = Rr X d MRm_told 94 [.ref x, l1, l2, l3] (.ref x :: st) h := Rr_nx d_MRm_told_93 rfl
theorem r_MRm_told_94 {a : Nat} (hq : qI a 10 41 = true) : Rr X d MRm_told 94 L (.ref a :: st) (Wd mu la ro et) = Rr X d MRm_told 97 L (.int (mu a 41) :: st) (Wd mu la ro et) := R_gfI d_MRm_told_94 ff_10_307 hq
theorem r_MRm_told_97 : Rr X d MRm_told 97 L st h = Rr X d MRm_told 104 L st h := R_goto d_MRm_told_97 (by decide)
theorem r_MRm_told_100 {l1 l2 l3 : Value} {x : Nat} : Rr X d MRm_told 100 [.ref x, l1, l2, l3] st h = Rr X d MRm_told 101 [.ref x, l1, l2, l3] (.ref x :: st) h := Rr_nx d_MRm_told_100 rfl
theorem r_MRm_told_101 {a : Nat} (hq : qI a 10 42 = true) : Rr X d MRm_told 101 L (.ref a :: st) (Wd mu la ro et) = Rr X d MRm_told 104 L (.int (mu a 42) :: st) (Wd mu la ro et) := R_gfI d_MRm_told_101 ff_10_310 hq
theorem r_MRm_told_104 {x : Int32} : Rr X d MRm_told 104 L [.int x] h = some (some (.int x), h) := R_ir d_MRm_told_104 rfl
theorem r_MRm_told_105 : Rr X d MRm_told 105 L st h = Rr X d MRm_told 106 L (.int (0) :: st) h := Rr_nx d_MRm_told_105 rfl
theorem r_MRm_told_106 {l0 l1 l2 l3 : Value} {x : Int32} : Rr X d MRm_told 106 [l0, l1, l2, l3] (.int x :: st) h = Rr X d MRm_told 107 (sL [l0, l1, l2, l3] 2 (.int x)) st h := Rr_nx d_MRm_told_106 rfl
theorem r_MRm_told_107 : Rr X d MRm_told 107 L st h = Rr X d MRm_told 108 L (.int (1) :: st) h := Rr_nx d_MRm_told_107 rfl
theorem r_MRm_told_108 {l0 l1 l2 l3 : Value} {x : Int32} : Rr X d MRm_told 108 [l0, l1, l2, l3] (.int x :: st) h = Rr X d MRm_told 109 (sL [l0, l1, l2, l3] 3 (.int x)) st h := Rr_nx d_MRm_told_108 rfl
theorem r_MRm_told_109 {l0 l1 l2 : Value} {x : Int32} : Rr X d MRm_told 109 [l0, l1, l2, .int x] st h = Rr X d MRm_told 110 [l0, l1, l2, .int x] (.int x :: st) h := Rr_nx d_MRm_told_109 rfl
theorem r_MRm_told_110 {l1 l2 l3 : Value} {x : Nat} : Rr X d MRm_told 110 [.ref x, l1, l2, l3] st h = Rr X d MRm_told 111 [.ref x, l1, l2, l3] (.ref x :: st) h := Rr_nx d_MRm_told_110 rfl
theorem r_MRm_told_111 {a : Nat} (hq : qI a 10 39 = true) : Rr X d MRm_told 111 L (.ref a :: st) (Wd mu la ro et) = Rr X d MRm_told 114 L (.int (mu a 39) :: st) (Wd mu la ro et) := R_gfI d_MRm_told_111 ff_10_72 hq
theorem r_MRm_told_114 {x y : Int32} : Rr X d MRm_told 114 L (.int y :: .int x :: st) h = if y < x then Rr X d MRm_told 132 L st h else Rr X d MRm_told 117 L st h := R_ic_gt d_MRm_told_114 (by decide)
theorem r_MRm_told_117 {l0 l1 l3 : Value} {x : Int32} : Rr X d MRm_told 117 [l0, l1, .int x, l3] st h = Rr X d MRm_told 118 [l0, l1, .int x, l3] (.int x :: st) h := Rr_nx d_MRm_told_117 rfl
theorem r_MRm_told_118 {l1 l2 l3 : Value} {x : Nat} : Rr X d MRm_told 118 [.ref x, l1, l2, l3] st h = Rr X d MRm_told 119 [.ref x, l1, l2, l3] (.ref x :: st) h := Rr_nx d_MRm_told_118 rfl
theorem r_MRm_told_119 {a : Nat} (hq : (qR a 10 36).isSome = true) : Rr X d MRm_told 119 L (.ref a :: st) (Wd mu la ro et) = Rr X d MRm_told 122 L (.ref (qRd a 10 36) :: st) (Wd mu la ro et) := R_gfR d_MRm_told_119 ff_10_63 hq
theorem r_MRm_told_122 {l0 l1 l2 : Value} {x : Int32} : Rr X d MRm_told 122 [l0, l1, l2, .int x] st h = Rr X d MRm_told 123 [l0, l1, l2, .int x] (.int x :: st) h := Rr_nx d_MRm_told_122 rfl
theorem r_MRm_told_123 {a : Nat} {j : Int32} (hq : (qA a 0).isSome = true) : Rr X d MRm_told 123 L (.int j :: .ref a :: st) (Wd mu la ro et) = if j < 0 ∨ qAd a 0 ≤ j.toNatClampNeg then none else Rr X d MRm_told 124 L (.int (mu a j.toNatClampNeg) :: st) (Wd mu la ro et) := R_ialW d_MRm_told_123 hq
theorem r_MRm_told_124 {x y : Int32} : Rr X d MRm_told 124 L (.int y :: .int x :: st) h = Rr X d MRm_told 125 L (.int (x + y) :: st) h := Rr_nx d_MRm_told_124 rfl
theorem r_MRm_told_125 {l0 l1 l2 l3 : Value} {x : Int32} : Rr X d MRm_told 125 [l0, l1, l2, l3] (.int x :: st) h = Rr X d MRm_told 126 (sL [l0, l1, l2, l3] 2 (.int x)) st h := Rr_nx d_MRm_told_125 rfl
theorem r_MRm_told_126 {l0 l1 l2 : Value} {x : Int32} : Rr X d MRm_told 126 [l0, l1, l2, .int x] st h = Rr X d MRm_told 129 (sL [l0, l1, l2, .int x] 3 (.int (x + (1)))) st h := Rr_nx d_MRm_told_126 rfl
theorem r_MRm_told_129 : Rr X d MRm_told 129 L st h = Rr X d MRm_told 109 L st h := R_goto d_MRm_told_129 (by decide)
theorem r_MRm_told_132 {l0 l1 l3 : Value} {x : Int32} : Rr X d MRm_told 132 [l0, l1, .int x, l3] st h = Rr X d MRm_told 133 [l0, l1, .int x, l3] (.int x :: st) h := Rr_nx d_MRm_told_132 rfl
theorem r_MRm_told_133 {x : Int32} : Rr X d MRm_told 133 L [.int x] h = some (some (.int x), h) := R_ir d_MRm_told_133 rfl
theorem d_MRm_even_0 : decode MRm_even.2.2.1 0 = .ok (.aload_n 0, 1) := by decide +kernel
theorem d_MRm_even_1 : decode MRm_even.2.2.1 1 = .ok (.iload_n 1, 1) := by decide +kernel
theorem d_MRm_even_2 : decode MRm_even.2.2.1 2 = .ok (.invokevirtual 173, 3) := by decide +kernel
theorem d_MRm_even_5 : decode MRm_even.2.2.1 5 = .ok (.ifCond .eq 22, 3) := by decide +kernel
theorem d_MRm_even_8 : decode MRm_even.2.2.1 8 = .ok (.iload_n 2, 1) := by decide +kernel
theorem d_MRm_even_9 : decode MRm_even.2.2.1 9 = .ok (.iload_n 3, 1) := by decide +kernel
theorem d_MRm_even_10 : decode MRm_even.2.2.1 10 = .ok (.invokestatic 290, 3) := by decide +kernel
theorem d_MRm_even_13 : decode MRm_even.2.2.1 13 = .ok (.ifCond .eq 14, 3) := by decide +kernel
theorem d_MRm_even_16 : decode MRm_even.2.2.1 16 = .ok (.iload 4, 2) := by decide +kernel
theorem d_MRm_even_18 : decode MRm_even.2.2.1 18 = .ok (.iconst 0, 1) := by decide +kernel
theorem d_MRm_even_19 : decode MRm_even.2.2.1 19 = .ok (.bipush 99, 2) := by decide +kernel
theorem d_MRm_even_21 : decode MRm_even.2.2.1 21 = .ok (.invokestatic 107, 3) := by decide +kernel
theorem d_MRm_even_24 : decode MRm_even.2.2.1 24 = .ok (.ifCond .ne 5, 3) := by decide +kernel
theorem d_MRm_even_27 : decode MRm_even.2.2.1 27 = .ok (.iconst (-1), 1) := by decide +kernel
theorem d_MRm_even_28 : decode MRm_even.2.2.1 28 = .ok (.ireturn, 1) := by decide +kernel
theorem d_MRm_even_29 : decode MRm_even.2.2.1 29 = .ok (.aload_n 0, 1) := by decide +kernel
theorem d_MRm_even_30 : decode MRm_even.2.2.1 30 = .ok (.iload_n 1, 1) := by decide +kernel
theorem d_MRm_even_31 : decode MRm_even.2.2.1 31 = .ok (.aload_n 0, 1) := by decide +kernel
theorem d_MRm_even_32 : decode MRm_even.2.2.1 32 = .ok (.iload_n 1, 1) := by decide +kernel
theorem d_MRm_even_33 : decode MRm_even.2.2.1 33 = .ok (.invokevirtual 177, 3) := by decide +kernel
theorem d_MRm_even_36 : decode MRm_even.2.2.1 36 = .ok (.iconst (-1), 1) := by decide +kernel
theorem d_MRm_even_37 : decode MRm_even.2.2.1 37 = .ok (.iload 4, 2) := by decide +kernel
theorem d_MRm_even_39 : decode MRm_even.2.2.1 39 = .ok (.isub, 1) := by decide +kernel
theorem d_MRm_even_40 : decode MRm_even.2.2.1 40 = .ok (.iload_n 2, 1) := by decide +kernel
theorem d_MRm_even_41 : decode MRm_even.2.2.1 41 = .ok (.iload_n 3, 1) := by decide +kernel
theorem d_MRm_even_42 : decode MRm_even.2.2.1 42 = .ok (.invokevirtual 325, 3) := by decide +kernel
theorem d_MRm_even_45 : decode MRm_even.2.2.1 45 = .ok (.aload_n 0, 1) := by decide +kernel
theorem d_MRm_even_46 : decode MRm_even.2.2.1 46 = .ok (.getfield 316, 3) := by decide +kernel
theorem d_MRm_even_49 : decode MRm_even.2.2.1 49 = .ok (.ireturn, 1) := by decide +kernel
theorem r_MRm_even_0 {l1 l2 l3 l4 : Value} {x : Nat} : Rr X d MRm_even 0 [.ref x, l1, l2, l3, l4] st h = Rr X d MRm_even 1 [.ref x, l1, l2, l3, l4] (.ref x :: st) h := Rr_nx d_MRm_even_0 rfl
theorem r_MRm_even_1 {l0 l2 l3 l4 : Value} {x : Int32} : Rr X d MRm_even 1 [l0, .int x, l2, l3, l4] st h = Rr X d MRm_even 2 [l0, .int x, l2, l3, l4] (.int x :: st) h := Rr_nx d_MRm_even_1 rfl
theorem r_MRm_even_2 {y0 : Int32} {a : Nat} (hO : qO a 10 = true) (hc : ckS st = true) : Rr X (d + 1) MRm_even 2 L (.int y0 :: .ref a :: st) (Wd mu la ro et) = (Rr X d MRm_isStone 0 [.ref a, .int y0] [] (Wd mu la ro et)).bind fun q => Rr X (d + 1) MRm_even 5 L (psh q.1 st) q.2 := R_iv (av := [.int y0]) d_MRm_even_2 fc_10_173 hO (ckS_le hc) rfl (Nat.le_of_ble_eq_true rfl) (Nat.le_of_ble_eq_true rfl)
theorem r_MRm_even_5 {x : Int32} : Rr X d MRm_even 5 L (.int x :: st) h = if x = 0 then Rr X d MRm_even 27 L st h else Rr X d MRm_even 8 L st h := R_if_eq d_MRm_even_5 (by decide)
theorem r_MRm_even_8 {l0 l1 l3 l4 : Value} {x : Int32} : Rr X d MRm_even 8 [l0, l1, .int x, l3, l4] st h = Rr X d MRm_even 9 [l0, l1, .int x, l3, l4] (.int x :: st) h := Rr_nx d_MRm_even_8 rfl
theorem r_MRm_even_9 {l0 l1 l2 l4 : Value} {x : Int32} : Rr X d MRm_even 9 [l0, l1, l2, .int x, l4] st h = Rr X d MRm_even 10 [l0, l1, l2, .int x, l4] (.int x :: st) h := Rr_nx d_MRm_even_9 rfl
theorem r_MRm_even_10 {y0 : Int32} {y1 : Int32} (hc : ckS st = true) : Rr X (d + 1) MRm_even 10 L (.int y1 :: .int y0 :: st) h = (Rr X d MRm_isStart 0 [.int y0, .int y1] [] h).bind fun q => Rr X (d + 1) MRm_even 13 L (psh q.1 st) q.2 := R_is (av := [.int y1, .int y0]) d_MRm_even_10 (Or.inl fc_10_290) (ckS_le hc) rfl (Nat.le_of_ble_eq_true rfl) (Nat.le_of_ble_eq_true rfl)
theorem r_MRm_even_13 {x : Int32} : Rr X d MRm_even 13 L (.int x :: st) h = if x = 0 then Rr X d MRm_even 27 L st h else Rr X d MRm_even 16 L st h := R_if_eq d_MRm_even_13 (by decide)
theorem r_MRm_even_16 {l0 l1 l2 l3 : Value} {x : Int32} : Rr X d MRm_even 16 [l0, l1, l2, l3, .int x] st h = Rr X d MRm_even 18 [l0, l1, l2, l3, .int x] (.int x :: st) h := Rr_nx d_MRm_even_16 rfl
theorem r_MRm_even_18 : Rr X d MRm_even 18 L st h = Rr X d MRm_even 19 L (.int (0) :: st) h := Rr_nx d_MRm_even_18 rfl
theorem r_MRm_even_19 : Rr X d MRm_even 19 L st h = Rr X d MRm_even 21 L (.int (99) :: st) h := Rr_nx d_MRm_even_19 rfl
theorem r_MRm_even_21 {y0 : Int32} {y1 : Int32} {y2 : Int32} (hc : ckS st = true) : Rr X (d + 1) MRm_even 21 L (.int y2 :: .int y1 :: .int y0 :: st) h = (Rr X d MRm_in 0 [.int y0, .int y1, .int y2] [] h).bind fun q => Rr X (d + 1) MRm_even 24 L (psh q.1 st) q.2 := R_is (av := [.int y2, .int y1, .int y0]) d_MRm_even_21 (Or.inl fc_10_107) (ckS_le hc) rfl (Nat.le_of_ble_eq_true rfl) (Nat.le_of_ble_eq_true rfl)
theorem r_MRm_even_24 {x : Int32} : Rr X d MRm_even 24 L (.int x :: st) h = if ¬ x = 0 then Rr X d MRm_even 29 L st h else Rr X d MRm_even 27 L st h := R_if_ne d_MRm_even_24 (by decide)
theorem r_MRm_even_27 : Rr X d MRm_even 27 L st h = Rr X d MRm_even 28 L (.int (-1) :: st) h := Rr_nx d_MRm_even_27 rfl
theorem r_MRm_even_28 {x : Int32} : Rr X d MRm_even 28 L [.int x] h = some (some (.int x), h) := R_ir d_MRm_even_28 rfl
theorem r_MRm_even_29 {l1 l2 l3 l4 : Value} {x : Nat} : Rr X d MRm_even 29 [.ref x, l1, l2, l3, l4] st h = Rr X d MRm_even 30 [.ref x, l1, l2, l3, l4] (.ref x :: st) h := Rr_nx d_MRm_even_29 rfl
theorem r_MRm_even_30 {l0 l2 l3 l4 : Value} {x : Int32} : Rr X d MRm_even 30 [l0, .int x, l2, l3, l4] st h = Rr X d MRm_even 31 [l0, .int x, l2, l3, l4] (.int x :: st) h := Rr_nx d_MRm_even_30 rfl
theorem r_MRm_even_31 {l1 l2 l3 l4 : Value} {x : Nat} : Rr X d MRm_even 31 [.ref x, l1, l2, l3, l4] st h = Rr X d MRm_even 32 [.ref x, l1, l2, l3, l4] (.ref x :: st) h := Rr_nx d_MRm_even_31 rfl
theorem r_MRm_even_32 {l0 l2 l3 l4 : Value} {x : Int32} : Rr X d MRm_even 32 [l0, .int x, l2, l3, l4] st h = Rr X d MRm_even 33 [l0, .int x, l2, l3, l4] (.int x :: st) h := Rr_nx d_MRm_even_32 rfl
theorem r_MRm_even_33 {y0 : Int32} {a : Nat} (hO : qO a 10 = true) (hc : ckS st = true) : Rr X (d + 1) MRm_even 33 L (.int y0 :: .ref a :: st) (Wd mu la ro et) = (Rr X d MRm_keenOf 0 [.ref a, .int y0] [] (Wd mu la ro et)).bind fun q => Rr X (d + 1) MRm_even 36 L (psh q.1 st) q.2 := R_iv (av := [.int y0]) d_MRm_even_33 fc_10_177 hO (ckS_le hc) rfl (Nat.le_of_ble_eq_true rfl) (Nat.le_of_ble_eq_true rfl)
theorem r_MRm_even_36 : Rr X d MRm_even 36 L st h = Rr X d MRm_even 37 L (.int (-1) :: st) h := Rr_nx d_MRm_even_36 rfl
theorem r_MRm_even_37 {l0 l1 l2 l3 : Value} {x : Int32} : Rr X d MRm_even 37 [l0, l1, l2, l3, .int x] st h = Rr X d MRm_even 39 [l0, l1, l2, l3, .int x] (.int x :: st) h := Rr_nx d_MRm_even_37 rfl
theorem r_MRm_even_39 {x y : Int32} : Rr X d MRm_even 39 L (.int y :: .int x :: st) h = Rr X d MRm_even 40 L (.int (x - y) :: st) h := Rr_nx d_MRm_even_39 rfl
theorem r_MRm_even_40 {l0 l1 l3 l4 : Value} {x : Int32} : Rr X d MRm_even 40 [l0, l1, .int x, l3, l4] st h = Rr X d MRm_even 41 [l0, l1, .int x, l3, l4] (.int x :: st) h := Rr_nx d_MRm_even_40 rfl
theorem r_MRm_even_41 {l0 l1 l2 l4 : Value} {x : Int32} : Rr X d MRm_even 41 [l0, l1, l2, .int x, l4] st h = Rr X d MRm_even 42 [l0, l1, l2, .int x, l4] (.int x :: st) h := Rr_nx d_MRm_even_41 rfl
theorem fc_10_325 : fC 10 325 = some (0, 10, 5, MRm_goThrough) := rfl
theorem r_MRm_even_42 {y0 : Int32} {y1 : Int32} {y2 : Int32} {y3 : Int32} {y4 : Int32} {a : Nat} (hO : qO a 10 = true) (hc : ckS st = true) : Rr X (d + 1) MRm_even 42 L (.int y4 :: .int y3 :: .int y2 :: .int y1 :: .int y0 :: .ref a :: st) (Wd mu la ro et) = (Rr X d MRm_goThrough 0 [.ref a, .int y0, .int y1, .int y2, .int y3, .int y4, mkU] [] (Wd mu la ro et)).bind fun q => Rr X (d + 1) MRm_even 45 L (psh q.1 st) q.2 := R_iv (av := [.int y4, .int y3, .int y2, .int y1, .int y0]) d_MRm_even_42 fc_10_325 hO (ckS_le hc) rfl (Nat.le_of_ble_eq_true rfl) (Nat.le_of_ble_eq_true rfl)
theorem r_MRm_even_45 {l1 l2 l3 l4 : Value} {x : Nat} : Rr X d MRm_even 45 [.ref x, l1, l2, l3, l4] st h = Rr X d MRm_even 46 [.ref x, l1, l2, l3, l4] (.ref x :: st) h := Rr_nx d_MRm_even_45 rfl
theorem ff_10_316 : fF 10 316 = some (10, 44, 0, 0) := rfl
theorem r_MRm_even_46 {a : Nat} (hq : qI a 10 44 = true) : Rr X d MRm_even 46 L (.ref a :: st) (Wd mu la ro et) = Rr X d MRm_even 49 L (.int (mu a 44) :: st) (Wd mu la ro et) := R_gfI d_MRm_even_46 ff_10_316 hq
theorem r_MRm_even_49 {x : Int32} : Rr X d MRm_even 49 L [.int x] h = some (some (.int x), h) := R_ir d_MRm_even_49 rfl
theorem d_MRm_soonest_0 : decode MRm_soonest.2.2.1 0 = .ok (.iload_n 1, 1) := by decide +kernel
theorem d_MRm_soonest_1 : decode MRm_soonest.2.2.1 1 = .ok (.bipush 9, 2) := by decide +kernel
theorem d_MRm_soonest_3 : decode MRm_soonest.2.2.1 3 = .ok (.if_icmp .eq 11, 3) := by decide +kernel
theorem d_MRm_soonest_6 : decode MRm_soonest.2.2.1 6 = .ok (.aload_n 0, 1) := by decide +kernel
theorem d_MRm_soonest_7 : decode MRm_soonest.2.2.1 7 = .ok (.iload_n 1, 1) := by decide +kernel
theorem d_MRm_soonest_8 : decode MRm_soonest.2.2.1 8 = .ok (.invokevirtual 257, 3) := by decide +kernel
theorem d_MRm_soonest_11 : decode MRm_soonest.2.2.1 11 = .ok (.ifCond .eq 21, 3) := by decide +kernel
theorem d_MRm_soonest_14 : decode MRm_soonest.2.2.1 14 = .ok (.iload_n 2, 1) := by decide +kernel
theorem d_MRm_soonest_15 : decode MRm_soonest.2.2.1 15 = .ok (.iload_n 3, 1) := by decide +kernel
theorem d_MRm_soonest_16 : decode MRm_soonest.2.2.1 16 = .ok (.invokestatic 290, 3) := by decide +kernel
theorem d_MRm_soonest_19 : decode MRm_soonest.2.2.1 19 = .ok (.ifCond .eq 13, 3) := by decide +kernel
theorem d_MRm_soonest_22 : decode MRm_soonest.2.2.1 22 = .ok (.iload 4, 2) := by decide +kernel
theorem d_MRm_soonest_24 : decode MRm_soonest.2.2.1 24 = .ok (.iconst 0, 1) := by decide +kernel
theorem d_MRm_soonest_25 : decode MRm_soonest.2.2.1 25 = .ok (.iconst 1, 1) := by decide +kernel
theorem d_MRm_soonest_26 : decode MRm_soonest.2.2.1 26 = .ok (.invokestatic 107, 3) := by decide +kernel
theorem d_MRm_soonest_29 : decode MRm_soonest.2.2.1 29 = .ok (.ifCond .ne 5, 3) := by decide +kernel
theorem d_MRm_soonest_32 : decode MRm_soonest.2.2.1 32 = .ok (.iconst (-1), 1) := by decide +kernel
theorem d_MRm_soonest_33 : decode MRm_soonest.2.2.1 33 = .ok (.ireturn, 1) := by decide +kernel
theorem d_MRm_soonest_34 : decode MRm_soonest.2.2.1 34 = .ok (.bipush (-2), 2) := by decide +kernel
theorem d_MRm_soonest_36 : decode MRm_soonest.2.2.1 36 = .ok (.istore 5, 2) := by decide +kernel
theorem d_MRm_soonest_38 : decode MRm_soonest.2.2.1 38 = .ok (.iconst 0, 1) := by decide +kernel
theorem d_MRm_soonest_39 : decode MRm_soonest.2.2.1 39 = .ok (.istore 6, 2) := by decide +kernel
theorem d_MRm_soonest_41 : decode MRm_soonest.2.2.1 41 = .ok (.iconst 0, 1) := by decide +kernel
theorem d_MRm_soonest_42 : decode MRm_soonest.2.2.1 42 = .ok (.istore 7, 2) := by decide +kernel
theorem d_MRm_soonest_44 : decode MRm_soonest.2.2.1 44 = .ok (.iload 7, 2) := by decide +kernel
theorem d_MRm_soonest_46 : decode MRm_soonest.2.2.1 46 = .ok (.aload_n 0, 1) := by decide +kernel
theorem d_MRm_soonest_47 : decode MRm_soonest.2.2.1 47 = .ok (.getfield 114, 3) := by decide +kernel
theorem d_MRm_soonest_50 : decode MRm_soonest.2.2.1 50 = .ok (.if_icmp .ge 58, 3) := by decide +kernel
theorem d_MRm_soonest_53 : decode MRm_soonest.2.2.1 53 = .ok (.aload_n 0, 1) := by decide +kernel
theorem d_MRm_soonest_54 : decode MRm_soonest.2.2.1 54 = .ok (.iload 7, 2) := by decide +kernel
theorem d_MRm_soonest_56 : decode MRm_soonest.2.2.1 56 = .ok (.aload_n 0, 1) := by decide +kernel
theorem d_MRm_soonest_57 : decode MRm_soonest.2.2.1 57 = .ok (.iload 7, 2) := by decide +kernel
theorem d_MRm_soonest_59 : decode MRm_soonest.2.2.1 59 = .ok (.invokevirtual 177, 3) := by decide +kernel
theorem d_MRm_soonest_62 : decode MRm_soonest.2.2.1 62 = .ok (.iload_n 1, 1) := by decide +kernel
theorem d_MRm_soonest_63 : decode MRm_soonest.2.2.1 63 = .ok (.iload_n 2, 1) := by decide +kernel
theorem d_MRm_soonest_64 : decode MRm_soonest.2.2.1 64 = .ok (.iload_n 3, 1) := by decide +kernel
theorem d_MRm_soonest_65 : decode MRm_soonest.2.2.1 65 = .ok (.invokevirtual 325, 3) := by decide +kernel
theorem d_MRm_soonest_68 : decode MRm_soonest.2.2.1 68 = .ok (.aload_n 0, 1) := by decide +kernel
theorem d_MRm_soonest_69 : decode MRm_soonest.2.2.1 69 = .ok (.getfield 316, 3) := by decide +kernel
theorem d_MRm_soonest_72 : decode MRm_soonest.2.2.1 72 = .ok (.ifCond .eq 30, 3) := by decide +kernel
theorem d_MRm_soonest_75 : decode MRm_soonest.2.2.1 75 = .ok (.iload 5, 2) := by decide +kernel
theorem d_MRm_soonest_77 : decode MRm_soonest.2.2.1 77 = .ok (.ifCond .lt 15, 3) := by decide +kernel
theorem d_MRm_soonest_80 : decode MRm_soonest.2.2.1 80 = .ok (.aload_n 0, 1) := by decide +kernel
theorem d_MRm_soonest_81 : decode MRm_soonest.2.2.1 81 = .ok (.getfield 319, 3) := by decide +kernel
theorem d_MRm_soonest_84 : decode MRm_soonest.2.2.1 84 = .ok (.iload 6, 2) := by decide +kernel
theorem d_MRm_soonest_86 : decode MRm_soonest.2.2.1 86 = .ok (.if_icmp .lt 6, 3) := by decide +kernel
theorem d_MRm_soonest_89 : decode MRm_soonest.2.2.1 89 = .ok (.goto 13, 3) := by decide +kernel
theorem d_MRm_soonest_92 : decode MRm_soonest.2.2.1 92 = .ok (.iload 7, 2) := by decide +kernel
theorem d_MRm_soonest_94 : decode MRm_soonest.2.2.1 94 = .ok (.istore 5, 2) := by decide +kernel
theorem d_MRm_soonest_96 : decode MRm_soonest.2.2.1 96 = .ok (.aload_n 0, 1) := by decide +kernel
theorem d_MRm_soonest_97 : decode MRm_soonest.2.2.1 97 = .ok (.getfield 319, 3) := by decide +kernel
theorem d_MRm_soonest_100 : decode MRm_soonest.2.2.1 100 = .ok (.istore 6, 2) := by decide +kernel
theorem d_MRm_soonest_102 : decode MRm_soonest.2.2.1 102 = .ok (.iinc 7 1, 3) := by decide +kernel
theorem d_MRm_soonest_105 : decode MRm_soonest.2.2.1 105 = .ok (.goto (-61), 3) := by decide +kernel
theorem d_MRm_soonest_108 : decode MRm_soonest.2.2.1 108 = .ok (.iload 5, 2) := by decide +kernel
theorem d_MRm_soonest_110 : decode MRm_soonest.2.2.1 110 = .ok (.ifCond .lt 8, 3) := by decide +kernel
theorem d_MRm_soonest_113 : decode MRm_soonest.2.2.1 113 = .ok (.iload 4, 2) := by decide +kernel
theorem d_MRm_soonest_115 : decode MRm_soonest.2.2.1 115 = .ok (.ifCond .ne 8, 3) := by decide +kernel
theorem d_MRm_soonest_118 : decode MRm_soonest.2.2.1 118 = .ok (.iload 5, 2) := by decide +kernel
theorem d_MRm_soonest_120 : decode MRm_soonest.2.2.1 120 = .ok (.goto 5, 3) := by decide +kernel
theorem d_MRm_soonest_123 : decode MRm_soonest.2.2.1 123 = .ok (.iload 6, 2) := by decide +kernel
theorem d_MRm_soonest_125 : decode MRm_soonest.2.2.1 125 = .ok (.ireturn, 1) := by decide +kernel
theorem r_MRm_soonest_0 {l0 l2 l3 l4 l5 l6 l7 : Value} {x : Int32} : Rr X d MRm_soonest 0 [l0, .int x, l2, l3, l4, l5, l6, l7] st h = Rr X d MRm_soonest 1 [l0, .int x, l2, l3, l4, l5, l6, l7] (.int x :: st) h := Rr_nx d_MRm_soonest_0 rfl
theorem r_MRm_soonest_1 : Rr X d MRm_soonest 1 L st h = Rr X d MRm_soonest 3 L (.int (9) :: st) h := Rr_nx d_MRm_soonest_1 rfl
theorem r_MRm_soonest_3 {x y : Int32} : Rr X d MRm_soonest 3 L (.int y :: .int x :: st) h = if x = y then Rr X d MRm_soonest 14 L st h else Rr X d MRm_soonest 6 L st h := R_ic_eq d_MRm_soonest_3 (by decide)
theorem r_MRm_soonest_6 {l1 l2 l3 l4 l5 l6 l7 : Value} {x : Nat} : Rr X d MRm_soonest 6 [.ref x, l1, l2, l3, l4, l5, l6, l7] st h = Rr X d MRm_soonest 7 [.ref x, l1, l2, l3, l4, l5, l6, l7] (.ref x :: st) h := Rr_nx d_MRm_soonest_6 rfl
theorem r_MRm_soonest_7 {l0 l2 l3 l4 l5 l6 l7 : Value} {x : Int32} : Rr X d MRm_soonest 7 [l0, .int x, l2, l3, l4, l5, l6, l7] st h = Rr X d MRm_soonest 8 [l0, .int x, l2, l3, l4, l5, l6, l7] (.int x :: st) h := Rr_nx d_MRm_soonest_7 rfl
theorem r_MRm_soonest_8 {y0 : Int32} {a : Nat} (hO : qO a 10 = true) (hc : ckS st = true) : Rr X (d + 1) MRm_soonest 8 L (.int y0 :: .ref a :: st) (Wd mu la ro et) = (Rr X d MRm_isFloor 0 [.ref a, .int y0] [] (Wd mu la ro et)).bind fun q => Rr X (d + 1) MRm_soonest 11 L (psh q.1 st) q.2 := R_iv (av := [.int y0]) d_MRm_soonest_8 fc_10_257 hO (ckS_le hc) rfl (Nat.le_of_ble_eq_true rfl) (Nat.le_of_ble_eq_true rfl)
theorem r_MRm_soonest_11 {x : Int32} : Rr X d MRm_soonest 11 L (.int x :: st) h = if x = 0 then Rr X d MRm_soonest 32 L st h else Rr X d MRm_soonest 14 L st h := R_if_eq d_MRm_soonest_11 (by decide)
theorem r_MRm_soonest_14 {l0 l1 l3 l4 l5 l6 l7 : Value} {x : Int32} : Rr X d MRm_soonest 14 [l0, l1, .int x, l3, l4, l5, l6, l7] st h = Rr X d MRm_soonest 15 [l0, l1, .int x, l3, l4, l5, l6, l7] (.int x :: st) h := Rr_nx d_MRm_soonest_14 rfl
theorem r_MRm_soonest_15 {l0 l1 l2 l4 l5 l6 l7 : Value} {x : Int32} : Rr X d MRm_soonest 15 [l0, l1, l2, .int x, l4, l5, l6, l7] st h = Rr X d MRm_soonest 16 [l0, l1, l2, .int x, l4, l5, l6, l7] (.int x :: st) h := Rr_nx d_MRm_soonest_15 rfl
theorem r_MRm_soonest_16 {y0 : Int32} {y1 : Int32} (hc : ckS st = true) : Rr X (d + 1) MRm_soonest 16 L (.int y1 :: .int y0 :: st) h = (Rr X d MRm_isStart 0 [.int y0, .int y1] [] h).bind fun q => Rr X (d + 1) MRm_soonest 19 L (psh q.1 st) q.2 := R_is (av := [.int y1, .int y0]) d_MRm_soonest_16 (Or.inl fc_10_290) (ckS_le hc) rfl (Nat.le_of_ble_eq_true rfl) (Nat.le_of_ble_eq_true rfl)
theorem r_MRm_soonest_19 {x : Int32} : Rr X d MRm_soonest 19 L (.int x :: st) h = if x = 0 then Rr X d MRm_soonest 32 L st h else Rr X d MRm_soonest 22 L st h := R_if_eq d_MRm_soonest_19 (by decide)
theorem r_MRm_soonest_22 {l0 l1 l2 l3 l5 l6 l7 : Value} {x : Int32} : Rr X d MRm_soonest 22 [l0, l1, l2, l3, .int x, l5, l6, l7] st h = Rr X d MRm_soonest 24 [l0, l1, l2, l3, .int x, l5, l6, l7] (.int x :: st) h := Rr_nx d_MRm_soonest_22 rfl
theorem r_MRm_soonest_24 : Rr X d MRm_soonest 24 L st h = Rr X d MRm_soonest 25 L (.int (0) :: st) h := Rr_nx d_MRm_soonest_24 rfl
theorem r_MRm_soonest_25 : Rr X d MRm_soonest 25 L st h = Rr X d MRm_soonest 26 L (.int (1) :: st) h := Rr_nx d_MRm_soonest_25 rfl
theorem r_MRm_soonest_26 {y0 : Int32} {y1 : Int32} {y2 : Int32} (hc : ckS st = true) : Rr X (d + 1) MRm_soonest 26 L (.int y2 :: .int y1 :: .int y0 :: st) h = (Rr X d MRm_in 0 [.int y0, .int y1, .int y2] [] h).bind fun q => Rr X (d + 1) MRm_soonest 29 L (psh q.1 st) q.2 := R_is (av := [.int y2, .int y1, .int y0]) d_MRm_soonest_26 (Or.inl fc_10_107) (ckS_le hc) rfl (Nat.le_of_ble_eq_true rfl) (Nat.le_of_ble_eq_true rfl)
theorem r_MRm_soonest_29 {x : Int32} : Rr X d MRm_soonest 29 L (.int x :: st) h = if ¬ x = 0 then Rr X d MRm_soonest 34 L st h else Rr X d MRm_soonest 32 L st h := R_if_ne d_MRm_soonest_29 (by decide)
theorem r_MRm_soonest_32 : Rr X d MRm_soonest 32 L st h = Rr X d MRm_soonest 33 L (.int (-1) :: st) h := Rr_nx d_MRm_soonest_32 rfl
theorem r_MRm_soonest_33 {x : Int32} : Rr X d MRm_soonest 33 L [.int x] h = some (some (.int x), h) := R_ir d_MRm_soonest_33 rfl
theorem r_MRm_soonest_34 : Rr X d MRm_soonest 34 L st h = Rr X d MRm_soonest 36 L (.int (-2) :: st) h := Rr_nx d_MRm_soonest_34 rfl
theorem r_MRm_soonest_36 {l0 l1 l2 l3 l4 l5 l6 l7 : Value} {x : Int32} : Rr X d MRm_soonest 36 [l0, l1, l2, l3, l4, l5, l6, l7] (.int x :: st) h = Rr X d MRm_soonest 38 (sL [l0, l1, l2, l3, l4, l5, l6, l7] 5 (.int x)) st h := Rr_nx d_MRm_soonest_36 rfl
theorem r_MRm_soonest_38 : Rr X d MRm_soonest 38 L st h = Rr X d MRm_soonest 39 L (.int (0) :: st) h := Rr_nx d_MRm_soonest_38 rfl
theorem r_MRm_soonest_39 {l0 l1 l2 l3 l4 l5 l6 l7 : Value} {x : Int32} : Rr X d MRm_soonest 39 [l0, l1, l2, l3, l4, l5, l6, l7] (.int x :: st) h = Rr X d MRm_soonest 41 (sL [l0, l1, l2, l3, l4, l5, l6, l7] 6 (.int x)) st h := Rr_nx d_MRm_soonest_39 rfl
theorem r_MRm_soonest_41 : Rr X d MRm_soonest 41 L st h = Rr X d MRm_soonest 42 L (.int (0) :: st) h := Rr_nx d_MRm_soonest_41 rfl
theorem r_MRm_soonest_42 {l0 l1 l2 l3 l4 l5 l6 l7 : Value} {x : Int32} : Rr X d MRm_soonest 42 [l0, l1, l2, l3, l4, l5, l6, l7] (.int x :: st) h = Rr X d MRm_soonest 44 (sL [l0, l1, l2, l3, l4, l5, l6, l7] 7 (.int x)) st h := Rr_nx d_MRm_soonest_42 rfl
theorem r_MRm_soonest_44 {l0 l1 l2 l3 l4 l5 l6 : Value} {x : Int32} : Rr X d MRm_soonest 44 [l0, l1, l2, l3, l4, l5, l6, .int x] st h = Rr X d MRm_soonest 46 [l0, l1, l2, l3, l4, l5, l6, .int x] (.int x :: st) h := Rr_nx d_MRm_soonest_44 rfl
theorem r_MRm_soonest_46 {l1 l2 l3 l4 l5 l6 l7 : Value} {x : Nat} : Rr X d MRm_soonest 46 [.ref x, l1, l2, l3, l4, l5, l6, l7] st h = Rr X d MRm_soonest 47 [.ref x, l1, l2, l3, l4, l5, l6, l7] (.ref x :: st) h := Rr_nx d_MRm_soonest_46 rfl
theorem r_MRm_soonest_47 {a : Nat} (hq : qI a 10 3 = true) : Rr X d MRm_soonest 47 L (.ref a :: st) (Wd mu la ro et) = Rr X d MRm_soonest 50 L (.int (mu a 3) :: st) (Wd mu la ro et) := R_gfI d_MRm_soonest_47 ff_10_114 hq
theorem r_MRm_soonest_50 {x y : Int32} : Rr X d MRm_soonest 50 L (.int y :: .int x :: st) h = if y ≤ x then Rr X d MRm_soonest 108 L st h else Rr X d MRm_soonest 53 L st h := R_ic_ge d_MRm_soonest_50 (by decide)
theorem r_MRm_soonest_53 {l1 l2 l3 l4 l5 l6 l7 : Value} {x : Nat} : Rr X d MRm_soonest 53 [.ref x, l1, l2, l3, l4, l5, l6, l7] st h = Rr X d MRm_soonest 54 [.ref x, l1, l2, l3, l4, l5, l6, l7] (.ref x :: st) h := Rr_nx d_MRm_soonest_53 rfl
theorem r_MRm_soonest_54 {l0 l1 l2 l3 l4 l5 l6 : Value} {x : Int32} : Rr X d MRm_soonest 54 [l0, l1, l2, l3, l4, l5, l6, .int x] st h = Rr X d MRm_soonest 56 [l0, l1, l2, l3, l4, l5, l6, .int x] (.int x :: st) h := Rr_nx d_MRm_soonest_54 rfl
theorem r_MRm_soonest_56 {l1 l2 l3 l4 l5 l6 l7 : Value} {x : Nat} : Rr X d MRm_soonest 56 [.ref x, l1, l2, l3, l4, l5, l6, l7] st h = Rr X d MRm_soonest 57 [.ref x, l1, l2, l3, l4, l5, l6, l7] (.ref x :: st) h := Rr_nx d_MRm_soonest_56 rfl
theorem r_MRm_soonest_57 {l0 l1 l2 l3 l4 l5 l6 : Value} {x : Int32} : Rr X d MRm_soonest 57 [l0, l1, l2, l3, l4, l5, l6, .int x] st h = Rr X d MRm_soonest 59 [l0, l1, l2, l3, l4, l5, l6, .int x] (.int x :: st) h := Rr_nx d_MRm_soonest_57 rfl
theorem r_MRm_soonest_59 {y0 : Int32} {a : Nat} (hO : qO a 10 = true) (hc : ckS st = true) : Rr X (d + 1) MRm_soonest 59 L (.int y0 :: .ref a :: st) (Wd mu la ro et) = (Rr X d MRm_keenOf 0 [.ref a, .int y0] [] (Wd mu la ro et)).bind fun q => Rr X (d + 1) MRm_soonest 62 L (psh q.1 st) q.2 := R_iv (av := [.int y0]) d_MRm_soonest_59 fc_10_177 hO (ckS_le hc) rfl (Nat.le_of_ble_eq_true rfl) (Nat.le_of_ble_eq_true rfl)
theorem r_MRm_soonest_62 {l0 l2 l3 l4 l5 l6 l7 : Value} {x : Int32} : Rr X d MRm_soonest 62 [l0, .int x, l2, l3, l4, l5, l6, l7] st h = Rr X d MRm_soonest 63 [l0, .int x, l2, l3, l4, l5, l6, l7] (.int x :: st) h := Rr_nx d_MRm_soonest_62 rfl
theorem r_MRm_soonest_63 {l0 l1 l3 l4 l5 l6 l7 : Value} {x : Int32} : Rr X d MRm_soonest 63 [l0, l1, .int x, l3, l4, l5, l6, l7] st h = Rr X d MRm_soonest 64 [l0, l1, .int x, l3, l4, l5, l6, l7] (.int x :: st) h := Rr_nx d_MRm_soonest_63 rfl
theorem r_MRm_soonest_64 {l0 l1 l2 l4 l5 l6 l7 : Value} {x : Int32} : Rr X d MRm_soonest 64 [l0, l1, l2, .int x, l4, l5, l6, l7] st h = Rr X d MRm_soonest 65 [l0, l1, l2, .int x, l4, l5, l6, l7] (.int x :: st) h := Rr_nx d_MRm_soonest_64 rfl
theorem r_MRm_soonest_65 {y0 : Int32} {y1 : Int32} {y2 : Int32} {y3 : Int32} {y4 : Int32} {a : Nat} (hO : qO a 10 = true) (hc : ckS st = true) : Rr X (d + 1) MRm_soonest 65 L (.int y4 :: .int y3 :: .int y2 :: .int y1 :: .int y0 :: .ref a :: st) (Wd mu la ro et) = (Rr X d MRm_goThrough 0 [.ref a, .int y0, .int y1, .int y2, .int y3, .int y4, mkU] [] (Wd mu la ro et)).bind fun q => Rr X (d + 1) MRm_soonest 68 L (psh q.1 st) q.2 := R_iv (av := [.int y4, .int y3, .int y2, .int y1, .int y0]) d_MRm_soonest_65 fc_10_325 hO (ckS_le hc) rfl (Nat.le_of_ble_eq_true rfl) (Nat.le_of_ble_eq_true rfl)
theorem r_MRm_soonest_68 {l1 l2 l3 l4 l5 l6 l7 : Value} {x : Nat} : Rr X d MRm_soonest 68 [.ref x, l1, l2, l3, l4, l5, l6, l7] st h = Rr X d MRm_soonest 69 [.ref x, l1, l2, l3, l4, l5, l6, l7] (.ref x :: st) h := Rr_nx d_MRm_soonest_68 rfl
theorem r_MRm_soonest_69 {a : Nat} (hq : qI a 10 44 = true) : Rr X d MRm_soonest 69 L (.ref a :: st) (Wd mu la ro et) = Rr X d MRm_soonest 72 L (.int (mu a 44) :: st) (Wd mu la ro et) := R_gfI d_MRm_soonest_69 ff_10_316 hq
theorem r_MRm_soonest_72 {x : Int32} : Rr X d MRm_soonest 72 L (.int x :: st) h = if x = 0 then Rr X d MRm_soonest 102 L st h else Rr X d MRm_soonest 75 L st h := R_if_eq d_MRm_soonest_72 (by decide)
theorem r_MRm_soonest_75 {l0 l1 l2 l3 l4 l6 l7 : Value} {x : Int32} : Rr X d MRm_soonest 75 [l0, l1, l2, l3, l4, .int x, l6, l7] st h = Rr X d MRm_soonest 77 [l0, l1, l2, l3, l4, .int x, l6, l7] (.int x :: st) h := Rr_nx d_MRm_soonest_75 rfl
theorem r_MRm_soonest_77 {x : Int32} : Rr X d MRm_soonest 77 L (.int x :: st) h = if x < 0 then Rr X d MRm_soonest 92 L st h else Rr X d MRm_soonest 80 L st h := R_if_lt d_MRm_soonest_77 (by decide)
theorem r_MRm_soonest_80 {l1 l2 l3 l4 l5 l6 l7 : Value} {x : Nat} : Rr X d MRm_soonest 80 [.ref x, l1, l2, l3, l4, l5, l6, l7] st h = Rr X d MRm_soonest 81 [.ref x, l1, l2, l3, l4, l5, l6, l7] (.ref x :: st) h := Rr_nx d_MRm_soonest_80 rfl
theorem ff_10_319 : fF 10 319 = some (10, 45, 0, 0) := rfl
theorem r_MRm_soonest_81 {a : Nat} (hq : qI a 10 45 = true) : Rr X d MRm_soonest 81 L (.ref a :: st) (Wd mu la ro et) = Rr X d MRm_soonest 84 L (.int (mu a 45) :: st) (Wd mu la ro et) := R_gfI d_MRm_soonest_81 ff_10_319 hq
theorem r_MRm_soonest_84 {l0 l1 l2 l3 l4 l5 l7 : Value} {x : Int32} : Rr X d MRm_soonest 84 [l0, l1, l2, l3, l4, l5, .int x, l7] st h = Rr X d MRm_soonest 86 [l0, l1, l2, l3, l4, l5, .int x, l7] (.int x :: st) h := Rr_nx d_MRm_soonest_84 rfl
theorem r_MRm_soonest_86 {x y : Int32} : Rr X d MRm_soonest 86 L (.int y :: .int x :: st) h = if x < y then Rr X d MRm_soonest 92 L st h else Rr X d MRm_soonest 89 L st h := R_ic_lt d_MRm_soonest_86 (by decide)
theorem r_MRm_soonest_89 : Rr X d MRm_soonest 89 L st h = Rr X d MRm_soonest 102 L st h := R_goto d_MRm_soonest_89 (by decide)
theorem r_MRm_soonest_92 {l0 l1 l2 l3 l4 l5 l6 : Value} {x : Int32} : Rr X d MRm_soonest 92 [l0, l1, l2, l3, l4, l5, l6, .int x] st h = Rr X d MRm_soonest 94 [l0, l1, l2, l3, l4, l5, l6, .int x] (.int x :: st) h := Rr_nx d_MRm_soonest_92 rfl
theorem r_MRm_soonest_94 {l0 l1 l2 l3 l4 l5 l6 l7 : Value} {x : Int32} : Rr X d MRm_soonest 94 [l0, l1, l2, l3, l4, l5, l6, l7] (.int x :: st) h = Rr X d MRm_soonest 96 (sL [l0, l1, l2, l3, l4, l5, l6, l7] 5 (.int x)) st h := Rr_nx d_MRm_soonest_94 rfl
theorem r_MRm_soonest_96 {l1 l2 l3 l4 l5 l6 l7 : Value} {x : Nat} : Rr X d MRm_soonest 96 [.ref x, l1, l2, l3, l4, l5, l6, l7] st h = Rr X d MRm_soonest 97 [.ref x, l1, l2, l3, l4, l5, l6, l7] (.ref x :: st) h := Rr_nx d_MRm_soonest_96 rfl
theorem r_MRm_soonest_97 {a : Nat} (hq : qI a 10 45 = true) : Rr X d MRm_soonest 97 L (.ref a :: st) (Wd mu la ro et) = Rr X d MRm_soonest 100 L (.int (mu a 45) :: st) (Wd mu la ro et) := R_gfI d_MRm_soonest_97 ff_10_319 hq
theorem r_MRm_soonest_100 {l0 l1 l2 l3 l4 l5 l6 l7 : Value} {x : Int32} : Rr X d MRm_soonest 100 [l0, l1, l2, l3, l4, l5, l6, l7] (.int x :: st) h = Rr X d MRm_soonest 102 (sL [l0, l1, l2, l3, l4, l5, l6, l7] 6 (.int x)) st h := Rr_nx d_MRm_soonest_100 rfl
theorem r_MRm_soonest_102 {l0 l1 l2 l3 l4 l5 l6 : Value} {x : Int32} : Rr X d MRm_soonest 102 [l0, l1, l2, l3, l4, l5, l6, .int x] st h = Rr X d MRm_soonest 105 (sL [l0, l1, l2, l3, l4, l5, l6, .int x] 7 (.int (x + (1)))) st h := Rr_nx d_MRm_soonest_102 rfl
theorem r_MRm_soonest_105 : Rr X d MRm_soonest 105 L st h = Rr X d MRm_soonest 44 L st h := R_goto d_MRm_soonest_105 (by decide)
theorem r_MRm_soonest_108 {l0 l1 l2 l3 l4 l6 l7 : Value} {x : Int32} : Rr X d MRm_soonest 108 [l0, l1, l2, l3, l4, .int x, l6, l7] st h = Rr X d MRm_soonest 110 [l0, l1, l2, l3, l4, .int x, l6, l7] (.int x :: st) h := Rr_nx d_MRm_soonest_108 rfl
theorem r_MRm_soonest_110 {x : Int32} : Rr X d MRm_soonest 110 L (.int x :: st) h = if x < 0 then Rr X d MRm_soonest 118 L st h else Rr X d MRm_soonest 113 L st h := R_if_lt d_MRm_soonest_110 (by decide)
theorem r_MRm_soonest_113 {l0 l1 l2 l3 l5 l6 l7 : Value} {x : Int32} : Rr X d MRm_soonest 113 [l0, l1, l2, l3, .int x, l5, l6, l7] st h = Rr X d MRm_soonest 115 [l0, l1, l2, l3, .int x, l5, l6, l7] (.int x :: st) h := Rr_nx d_MRm_soonest_113 rfl
theorem r_MRm_soonest_115 {x : Int32} : Rr X d MRm_soonest 115 L (.int x :: st) h = if ¬ x = 0 then Rr X d MRm_soonest 123 L st h else Rr X d MRm_soonest 118 L st h := R_if_ne d_MRm_soonest_115 (by decide)
theorem r_MRm_soonest_118 {l0 l1 l2 l3 l4 l6 l7 : Value} {x : Int32} : Rr X d MRm_soonest 118 [l0, l1, l2, l3, l4, .int x, l6, l7] st h = Rr X d MRm_soonest 120 [l0, l1, l2, l3, l4, .int x, l6, l7] (.int x :: st) h := Rr_nx d_MRm_soonest_118 rfl
theorem r_MRm_soonest_120 : Rr X d MRm_soonest 120 L st h = Rr X d MRm_soonest 125 L st h := R_goto d_MRm_soonest_120 (by decide)
theorem r_MRm_soonest_123 {l0 l1 l2 l3 l4 l5 l7 : Value} {x : Int32} : Rr X d MRm_soonest 123 [l0, l1, l2, l3, l4, l5, .int x, l7] st h = Rr X d MRm_soonest 125 [l0, l1, l2, l3, l4, l5, .int x, l7] (.int x :: st) h := Rr_nx d_MRm_soonest_123 rfl
theorem r_MRm_soonest_125 {x : Int32} : Rr X d MRm_soonest 125 L [.int x] h = some (some (.int x), h) := R_ir d_MRm_soonest_125 rfl
theorem d_MRm_screws_0 : decode MRm_screws.2.2.1 0 = .ok (.aload_n 0, 1) := by decide +kernel
theorem d_MRm_screws_1 : decode MRm_screws.2.2.1 1 = .ok (.iload_n 1, 1) := by decide +kernel
theorem d_MRm_screws_2 : decode MRm_screws.2.2.1 2 = .ok (.invokevirtual 173, 3) := by decide +kernel
theorem d_MRm_screws_5 : decode MRm_screws.2.2.1 5 = .ok (.ifCond .eq 34, 3) := by decide +kernel
theorem d_MRm_screws_8 : decode MRm_screws.2.2.1 8 = .ok (.iload_n 2, 1) := by decide +kernel
theorem d_MRm_screws_9 : decode MRm_screws.2.2.1 9 = .ok (.iconst 1, 1) := by decide +kernel
theorem d_MRm_screws_10 : decode MRm_screws.2.2.1 10 = .ok (.bipush 9, 2) := by decide +kernel
theorem d_MRm_screws_12 : decode MRm_screws.2.2.1 12 = .ok (.invokestatic 107, 3) := by decide +kernel
theorem d_MRm_screws_15 : decode MRm_screws.2.2.1 15 = .ok (.ifCond .eq 24, 3) := by decide +kernel
theorem d_MRm_screws_18 : decode MRm_screws.2.2.1 18 = .ok (.iload_n 3, 1) := by decide +kernel
theorem d_MRm_screws_19 : decode MRm_screws.2.2.1 19 = .ok (.bipush (-9), 2) := by decide +kernel
theorem d_MRm_screws_21 : decode MRm_screws.2.2.1 21 = .ok (.bipush 9, 2) := by decide +kernel
theorem d_MRm_screws_23 : decode MRm_screws.2.2.1 23 = .ok (.invokestatic 107, 3) := by decide +kernel
theorem d_MRm_screws_26 : decode MRm_screws.2.2.1 26 = .ok (.ifCond .eq 13, 3) := by decide +kernel
theorem d_MRm_screws_29 : decode MRm_screws.2.2.1 29 = .ok (.aload_n 0, 1) := by decide +kernel
theorem d_MRm_screws_30 : decode MRm_screws.2.2.1 30 = .ok (.iload_n 1, 1) := by decide +kernel
theorem d_MRm_screws_31 : decode MRm_screws.2.2.1 31 = .ok (.iload_n 2, 1) := by decide +kernel
theorem d_MRm_screws_32 : decode MRm_screws.2.2.1 32 = .ok (.iload_n 3, 1) := by decide +kernel
theorem d_MRm_screws_33 : decode MRm_screws.2.2.1 33 = .ok (.invokevirtual 329, 3) := by decide +kernel
theorem d_MRm_screws_36 : decode MRm_screws.2.2.1 36 = .ok (.goto 4, 3) := by decide +kernel
theorem d_MRm_screws_39 : decode MRm_screws.2.2.1 39 = .ok (.iconst (-1), 1) := by decide +kernel
theorem d_MRm_screws_40 : decode MRm_screws.2.2.1 40 = .ok (.ireturn, 1) := by decide +kernel
theorem r_MRm_screws_0 {l1 l2 l3 : Value} {x : Nat} : Rr X d MRm_screws 0 [.ref x, l1, l2, l3] st h = Rr X d MRm_screws 1 [.ref x, l1, l2, l3] (.ref x :: st) h := Rr_nx d_MRm_screws_0 rfl
theorem r_MRm_screws_1 {l0 l2 l3 : Value} {x : Int32} : Rr X d MRm_screws 1 [l0, .int x, l2, l3] st h = Rr X d MRm_screws 2 [l0, .int x, l2, l3] (.int x :: st) h := Rr_nx d_MRm_screws_1 rfl
theorem r_MRm_screws_2 {y0 : Int32} {a : Nat} (hO : qO a 10 = true) (hc : ckS st = true) : Rr X (d + 1) MRm_screws 2 L (.int y0 :: .ref a :: st) (Wd mu la ro et) = (Rr X d MRm_isStone 0 [.ref a, .int y0] [] (Wd mu la ro et)).bind fun q => Rr X (d + 1) MRm_screws 5 L (psh q.1 st) q.2 := R_iv (av := [.int y0]) d_MRm_screws_2 fc_10_173 hO (ckS_le hc) rfl (Nat.le_of_ble_eq_true rfl) (Nat.le_of_ble_eq_true rfl)
theorem r_MRm_screws_5 {x : Int32} : Rr X d MRm_screws 5 L (.int x :: st) h = if x = 0 then Rr X d MRm_screws 39 L st h else Rr X d MRm_screws 8 L st h := R_if_eq d_MRm_screws_5 (by decide)
theorem r_MRm_screws_8 {l0 l1 l3 : Value} {x : Int32} : Rr X d MRm_screws 8 [l0, l1, .int x, l3] st h = Rr X d MRm_screws 9 [l0, l1, .int x, l3] (.int x :: st) h := Rr_nx d_MRm_screws_8 rfl
theorem r_MRm_screws_9 : Rr X d MRm_screws 9 L st h = Rr X d MRm_screws 10 L (.int (1) :: st) h := Rr_nx d_MRm_screws_9 rfl
theorem r_MRm_screws_10 : Rr X d MRm_screws 10 L st h = Rr X d MRm_screws 12 L (.int (9) :: st) h := Rr_nx d_MRm_screws_10 rfl
theorem r_MRm_screws_12 {y0 : Int32} {y1 : Int32} {y2 : Int32} (hc : ckS st = true) : Rr X (d + 1) MRm_screws 12 L (.int y2 :: .int y1 :: .int y0 :: st) h = (Rr X d MRm_in 0 [.int y0, .int y1, .int y2] [] h).bind fun q => Rr X (d + 1) MRm_screws 15 L (psh q.1 st) q.2 := R_is (av := [.int y2, .int y1, .int y0]) d_MRm_screws_12 (Or.inl fc_10_107) (ckS_le hc) rfl (Nat.le_of_ble_eq_true rfl) (Nat.le_of_ble_eq_true rfl)
theorem r_MRm_screws_15 {x : Int32} : Rr X d MRm_screws 15 L (.int x :: st) h = if x = 0 then Rr X d MRm_screws 39 L st h else Rr X d MRm_screws 18 L st h := R_if_eq d_MRm_screws_15 (by decide)
theorem r_MRm_screws_18 {l0 l1 l2 : Value} {x : Int32} : Rr X d MRm_screws 18 [l0, l1, l2, .int x] st h = Rr X d MRm_screws 19 [l0, l1, l2, .int x] (.int x :: st) h := Rr_nx d_MRm_screws_18 rfl
theorem r_MRm_screws_19 : Rr X d MRm_screws 19 L st h = Rr X d MRm_screws 21 L (.int (-9) :: st) h := Rr_nx d_MRm_screws_19 rfl
theorem r_MRm_screws_21 : Rr X d MRm_screws 21 L st h = Rr X d MRm_screws 23 L (.int (9) :: st) h := Rr_nx d_MRm_screws_21 rfl
theorem r_MRm_screws_23 {y0 : Int32} {y1 : Int32} {y2 : Int32} (hc : ckS st = true) : Rr X (d + 1) MRm_screws 23 L (.int y2 :: .int y1 :: .int y0 :: st) h = (Rr X d MRm_in 0 [.int y0, .int y1, .int y2] [] h).bind fun q => Rr X (d + 1) MRm_screws 26 L (psh q.1 st) q.2 := R_is (av := [.int y2, .int y1, .int y0]) d_MRm_screws_23 (Or.inl fc_10_107) (ckS_le hc) rfl (Nat.le_of_ble_eq_true rfl) (Nat.le_of_ble_eq_true rfl)
theorem r_MRm_screws_26 {x : Int32} : Rr X d MRm_screws 26 L (.int x :: st) h = if x = 0 then Rr X d MRm_screws 39 L st h else Rr X d MRm_screws 29 L st h := R_if_eq d_MRm_screws_26 (by decide)
theorem r_MRm_screws_29 {l1 l2 l3 : Value} {x : Nat} : Rr X d MRm_screws 29 [.ref x, l1, l2, l3] st h = Rr X d MRm_screws 30 [.ref x, l1, l2, l3] (.ref x :: st) h := Rr_nx d_MRm_screws_29 rfl
theorem r_MRm_screws_30 {l0 l2 l3 : Value} {x : Int32} : Rr X d MRm_screws 30 [l0, .int x, l2, l3] st h = Rr X d MRm_screws 31 [l0, .int x, l2, l3] (.int x :: st) h := Rr_nx d_MRm_screws_30 rfl
theorem r_MRm_screws_31 {l0 l1 l3 : Value} {x : Int32} : Rr X d MRm_screws 31 [l0, l1, .int x, l3] st h = Rr X d MRm_screws 32 [l0, l1, .int x, l3] (.int x :: st) h := Rr_nx d_MRm_screws_31 rfl
theorem r_MRm_screws_32 {l0 l1 l2 : Value} {x : Int32} : Rr X d MRm_screws 32 [l0, l1, l2, .int x] st h = Rr X d MRm_screws 33 [l0, l1, l2, .int x] (.int x :: st) h := Rr_nx d_MRm_screws_32 rfl
theorem fc_10_329 : fC 10 329 = some (0, 10, 3, MRm_screwed) := rfl
theorem r_MRm_screws_33 {y0 : Int32} {y1 : Int32} {y2 : Int32} {a : Nat} (hO : qO a 10 = true) (hc : ckS st = true) : Rr X (d + 1) MRm_screws 33 L (.int y2 :: .int y1 :: .int y0 :: .ref a :: st) (Wd mu la ro et) = (Rr X d MRm_screwed 0 [.ref a, .int y0, .int y1, .int y2, mkU, mkU, mkU] [] (Wd mu la ro et)).bind fun q => Rr X (d + 1) MRm_screws 36 L (psh q.1 st) q.2 := R_iv (av := [.int y2, .int y1, .int y0]) d_MRm_screws_33 fc_10_329 hO (ckS_le hc) rfl (Nat.le_of_ble_eq_true rfl) (Nat.le_of_ble_eq_true rfl)
theorem r_MRm_screws_36 : Rr X d MRm_screws 36 L st h = Rr X d MRm_screws 40 L st h := R_goto d_MRm_screws_36 (by decide)
theorem r_MRm_screws_39 : Rr X d MRm_screws 39 L st h = Rr X d MRm_screws 40 L (.int (-1) :: st) h := Rr_nx d_MRm_screws_39 rfl
theorem r_MRm_screws_40 {x : Int32} : Rr X d MRm_screws 40 L [.int x] h = some (some (.int x), h) := R_ir d_MRm_screws_40 rfl
theorem d_MRm_lightest_0 : decode MRm_lightest.2.2.1 0 = .ok (.aload_n 0, 1) := by decide +kernel
theorem d_MRm_lightest_1 : decode MRm_lightest.2.2.1 1 = .ok (.iload_n 1, 1) := by decide +kernel
theorem d_MRm_lightest_2 : decode MRm_lightest.2.2.1 2 = .ok (.invokevirtual 173, 3) := by decide +kernel
theorem d_MRm_lightest_5 : decode MRm_lightest.2.2.1 5 = .ok (.ifCond .eq 14, 3) := by decide +kernel
theorem d_MRm_lightest_8 : decode MRm_lightest.2.2.1 8 = .ok (.iload_n 2, 1) := by decide +kernel
theorem d_MRm_lightest_9 : decode MRm_lightest.2.2.1 9 = .ok (.bipush (-9), 2) := by decide +kernel
theorem d_MRm_lightest_11 : decode MRm_lightest.2.2.1 11 = .ok (.bipush 9, 2) := by decide +kernel
theorem d_MRm_lightest_13 : decode MRm_lightest.2.2.1 13 = .ok (.invokestatic 107, 3) := by decide +kernel
theorem d_MRm_lightest_16 : decode MRm_lightest.2.2.1 16 = .ok (.ifCond .ne 5, 3) := by decide +kernel
theorem d_MRm_lightest_19 : decode MRm_lightest.2.2.1 19 = .ok (.iconst (-1), 1) := by decide +kernel
theorem d_MRm_lightest_20 : decode MRm_lightest.2.2.1 20 = .ok (.ireturn, 1) := by decide +kernel
theorem d_MRm_lightest_21 : decode MRm_lightest.2.2.1 21 = .ok (.iconst 1, 1) := by decide +kernel
theorem d_MRm_lightest_22 : decode MRm_lightest.2.2.1 22 = .ok (.istore_n 3, 1) := by decide +kernel
theorem d_MRm_lightest_23 : decode MRm_lightest.2.2.1 23 = .ok (.iload_n 3, 1) := by decide +kernel
theorem d_MRm_lightest_24 : decode MRm_lightest.2.2.1 24 = .ok (.bipush 9, 2) := by decide +kernel
theorem d_MRm_lightest_26 : decode MRm_lightest.2.2.1 26 = .ok (.if_icmp .gt 21, 3) := by decide +kernel
theorem d_MRm_lightest_29 : decode MRm_lightest.2.2.1 29 = .ok (.aload_n 0, 1) := by decide +kernel
theorem d_MRm_lightest_30 : decode MRm_lightest.2.2.1 30 = .ok (.iload_n 1, 1) := by decide +kernel
theorem d_MRm_lightest_31 : decode MRm_lightest.2.2.1 31 = .ok (.iload_n 3, 1) := by decide +kernel
theorem d_MRm_lightest_32 : decode MRm_lightest.2.2.1 32 = .ok (.iload_n 2, 1) := by decide +kernel
theorem d_MRm_lightest_33 : decode MRm_lightest.2.2.1 33 = .ok (.invokevirtual 329, 3) := by decide +kernel
theorem d_MRm_lightest_36 : decode MRm_lightest.2.2.1 36 = .ok (.ifCond .lt 5, 3) := by decide +kernel
theorem d_MRm_lightest_39 : decode MRm_lightest.2.2.1 39 = .ok (.iload_n 3, 1) := by decide +kernel
theorem d_MRm_lightest_40 : decode MRm_lightest.2.2.1 40 = .ok (.ireturn, 1) := by decide +kernel
theorem d_MRm_lightest_41 : decode MRm_lightest.2.2.1 41 = .ok (.iinc 3 1, 3) := by decide +kernel
theorem d_MRm_lightest_44 : decode MRm_lightest.2.2.1 44 = .ok (.goto (-21), 3) := by decide +kernel
theorem d_MRm_lightest_47 : decode MRm_lightest.2.2.1 47 = .ok (.bipush (-2), 2) := by decide +kernel
theorem d_MRm_lightest_49 : decode MRm_lightest.2.2.1 49 = .ok (.ireturn, 1) := by decide +kernel
theorem r_MRm_lightest_0 {l1 l2 l3 : Value} {x : Nat} : Rr X d MRm_lightest 0 [.ref x, l1, l2, l3] st h = Rr X d MRm_lightest 1 [.ref x, l1, l2, l3] (.ref x :: st) h := Rr_nx d_MRm_lightest_0 rfl
theorem r_MRm_lightest_1 {l0 l2 l3 : Value} {x : Int32} : Rr X d MRm_lightest 1 [l0, .int x, l2, l3] st h = Rr X d MRm_lightest 2 [l0, .int x, l2, l3] (.int x :: st) h := Rr_nx d_MRm_lightest_1 rfl
theorem r_MRm_lightest_2 {y0 : Int32} {a : Nat} (hO : qO a 10 = true) (hc : ckS st = true) : Rr X (d + 1) MRm_lightest 2 L (.int y0 :: .ref a :: st) (Wd mu la ro et) = (Rr X d MRm_isStone 0 [.ref a, .int y0] [] (Wd mu la ro et)).bind fun q => Rr X (d + 1) MRm_lightest 5 L (psh q.1 st) q.2 := R_iv (av := [.int y0]) d_MRm_lightest_2 fc_10_173 hO (ckS_le hc) rfl (Nat.le_of_ble_eq_true rfl) (Nat.le_of_ble_eq_true rfl)
theorem r_MRm_lightest_5 {x : Int32} : Rr X d MRm_lightest 5 L (.int x :: st) h = if x = 0 then Rr X d MRm_lightest 19 L st h else Rr X d MRm_lightest 8 L st h := R_if_eq d_MRm_lightest_5 (by decide)
theorem r_MRm_lightest_8 {l0 l1 l3 : Value} {x : Int32} : Rr X d MRm_lightest 8 [l0, l1, .int x, l3] st h = Rr X d MRm_lightest 9 [l0, l1, .int x, l3] (.int x :: st) h := Rr_nx d_MRm_lightest_8 rfl
theorem r_MRm_lightest_9 : Rr X d MRm_lightest 9 L st h = Rr X d MRm_lightest 11 L (.int (-9) :: st) h := Rr_nx d_MRm_lightest_9 rfl
theorem r_MRm_lightest_11 : Rr X d MRm_lightest 11 L st h = Rr X d MRm_lightest 13 L (.int (9) :: st) h := Rr_nx d_MRm_lightest_11 rfl
theorem r_MRm_lightest_13 {y0 : Int32} {y1 : Int32} {y2 : Int32} (hc : ckS st = true) : Rr X (d + 1) MRm_lightest 13 L (.int y2 :: .int y1 :: .int y0 :: st) h = (Rr X d MRm_in 0 [.int y0, .int y1, .int y2] [] h).bind fun q => Rr X (d + 1) MRm_lightest 16 L (psh q.1 st) q.2 := R_is (av := [.int y2, .int y1, .int y0]) d_MRm_lightest_13 (Or.inl fc_10_107) (ckS_le hc) rfl (Nat.le_of_ble_eq_true rfl) (Nat.le_of_ble_eq_true rfl)
theorem r_MRm_lightest_16 {x : Int32} : Rr X d MRm_lightest 16 L (.int x :: st) h = if ¬ x = 0 then Rr X d MRm_lightest 21 L st h else Rr X d MRm_lightest 19 L st h := R_if_ne d_MRm_lightest_16 (by decide)
theorem r_MRm_lightest_19 : Rr X d MRm_lightest 19 L st h = Rr X d MRm_lightest 20 L (.int (-1) :: st) h := Rr_nx d_MRm_lightest_19 rfl
theorem r_MRm_lightest_20 {x : Int32} : Rr X d MRm_lightest 20 L [.int x] h = some (some (.int x), h) := R_ir d_MRm_lightest_20 rfl
theorem r_MRm_lightest_21 : Rr X d MRm_lightest 21 L st h = Rr X d MRm_lightest 22 L (.int (1) :: st) h := Rr_nx d_MRm_lightest_21 rfl
theorem r_MRm_lightest_22 {l0 l1 l2 l3 : Value} {x : Int32} : Rr X d MRm_lightest 22 [l0, l1, l2, l3] (.int x :: st) h = Rr X d MRm_lightest 23 (sL [l0, l1, l2, l3] 3 (.int x)) st h := Rr_nx d_MRm_lightest_22 rfl
theorem r_MRm_lightest_23 {l0 l1 l2 : Value} {x : Int32} : Rr X d MRm_lightest 23 [l0, l1, l2, .int x] st h = Rr X d MRm_lightest 24 [l0, l1, l2, .int x] (.int x :: st) h := Rr_nx d_MRm_lightest_23 rfl
theorem r_MRm_lightest_24 : Rr X d MRm_lightest 24 L st h = Rr X d MRm_lightest 26 L (.int (9) :: st) h := Rr_nx d_MRm_lightest_24 rfl
theorem r_MRm_lightest_26 {x y : Int32} : Rr X d MRm_lightest 26 L (.int y :: .int x :: st) h = if y < x then Rr X d MRm_lightest 47 L st h else Rr X d MRm_lightest 29 L st h := R_ic_gt d_MRm_lightest_26 (by decide)
theorem r_MRm_lightest_29 {l1 l2 l3 : Value} {x : Nat} : Rr X d MRm_lightest 29 [.ref x, l1, l2, l3] st h = Rr X d MRm_lightest 30 [.ref x, l1, l2, l3] (.ref x :: st) h := Rr_nx d_MRm_lightest_29 rfl
theorem r_MRm_lightest_30 {l0 l2 l3 : Value} {x : Int32} : Rr X d MRm_lightest 30 [l0, .int x, l2, l3] st h = Rr X d MRm_lightest 31 [l0, .int x, l2, l3] (.int x :: st) h := Rr_nx d_MRm_lightest_30 rfl
theorem r_MRm_lightest_31 {l0 l1 l2 : Value} {x : Int32} : Rr X d MRm_lightest 31 [l0, l1, l2, .int x] st h = Rr X d MRm_lightest 32 [l0, l1, l2, .int x] (.int x :: st) h := Rr_nx d_MRm_lightest_31 rfl
theorem r_MRm_lightest_32 {l0 l1 l3 : Value} {x : Int32} : Rr X d MRm_lightest 32 [l0, l1, .int x, l3] st h = Rr X d MRm_lightest 33 [l0, l1, .int x, l3] (.int x :: st) h := Rr_nx d_MRm_lightest_32 rfl
theorem r_MRm_lightest_33 {y0 : Int32} {y1 : Int32} {y2 : Int32} {a : Nat} (hO : qO a 10 = true) (hc : ckS st = true) : Rr X (d + 1) MRm_lightest 33 L (.int y2 :: .int y1 :: .int y0 :: .ref a :: st) (Wd mu la ro et) = (Rr X d MRm_screwed 0 [.ref a, .int y0, .int y1, .int y2, mkU, mkU, mkU] [] (Wd mu la ro et)).bind fun q => Rr X (d + 1) MRm_lightest 36 L (psh q.1 st) q.2 := R_iv (av := [.int y2, .int y1, .int y0]) d_MRm_lightest_33 fc_10_329 hO (ckS_le hc) rfl (Nat.le_of_ble_eq_true rfl) (Nat.le_of_ble_eq_true rfl)
theorem r_MRm_lightest_36 {x : Int32} : Rr X d MRm_lightest 36 L (.int x :: st) h = if x < 0 then Rr X d MRm_lightest 41 L st h else Rr X d MRm_lightest 39 L st h := R_if_lt d_MRm_lightest_36 (by decide)
theorem r_MRm_lightest_39 {l0 l1 l2 : Value} {x : Int32} : Rr X d MRm_lightest 39 [l0, l1, l2, .int x] st h = Rr X d MRm_lightest 40 [l0, l1, l2, .int x] (.int x :: st) h := Rr_nx d_MRm_lightest_39 rfl
theorem r_MRm_lightest_40 {x : Int32} : Rr X d MRm_lightest 40 L [.int x] h = some (some (.int x), h) := R_ir d_MRm_lightest_40 rfl
theorem r_MRm_lightest_41 {l0 l1 l2 : Value} {x : Int32} : Rr X d MRm_lightest 41 [l0, l1, l2, .int x] st h = Rr X d MRm_lightest 44 (sL [l0, l1, l2, .int x] 3 (.int (x + (1)))) st h := Rr_nx d_MRm_lightest_41 rfl
theorem r_MRm_lightest_44 : Rr X d MRm_lightest 44 L st h = Rr X d MRm_lightest 23 L st h := R_goto d_MRm_lightest_44 (by decide)
theorem r_MRm_lightest_47 : Rr X d MRm_lightest 47 L st h = Rr X d MRm_lightest 49 L (.int (-2) :: st) h := Rr_nx d_MRm_lightest_47 rfl
theorem r_MRm_lightest_49 {x : Int32} : Rr X d MRm_lightest 49 L [.int x] h = some (some (.int x), h) := R_ir d_MRm_lightest_49 rfl
theorem d_MRm_seen_0 : decode MRm_seen.2.2.1 0 = .ok (.aload_n 0, 1) := by decide +kernel
theorem d_MRm_seen_1 : decode MRm_seen.2.2.1 1 = .ok (.iload_n 1, 1) := by decide +kernel
theorem d_MRm_seen_2 : decode MRm_seen.2.2.1 2 = .ok (.invokevirtual 287, 3) := by decide +kernel
theorem d_MRm_seen_5 : decode MRm_seen.2.2.1 5 = .ok (.ifCond .eq 11, 3) := by decide +kernel
theorem d_MRm_seen_8 : decode MRm_seen.2.2.1 8 = .ok (.iload_n 2, 1) := by decide +kernel
theorem d_MRm_seen_9 : decode MRm_seen.2.2.1 9 = .ok (.iload_n 3, 1) := by decide +kernel
theorem d_MRm_seen_10 : decode MRm_seen.2.2.1 10 = .ok (.invokestatic 290, 3) := by decide +kernel
theorem d_MRm_seen_13 : decode MRm_seen.2.2.1 13 = .ok (.ifCond .ne 5, 3) := by decide +kernel
theorem d_MRm_seen_16 : decode MRm_seen.2.2.1 16 = .ok (.iconst (-1), 1) := by decide +kernel
theorem d_MRm_seen_17 : decode MRm_seen.2.2.1 17 = .ok (.ireturn, 1) := by decide +kernel
theorem d_MRm_seen_18 : decode MRm_seen.2.2.1 18 = .ok (.iconst 1, 1) := by decide +kernel
theorem d_MRm_seen_19 : decode MRm_seen.2.2.1 19 = .ok (.istore 4, 2) := by decide +kernel
theorem d_MRm_seen_21 : decode MRm_seen.2.2.1 21 = .ok (.iload 4, 2) := by decide +kernel
theorem d_MRm_seen_23 : decode MRm_seen.2.2.1 23 = .ok (.bipush 9, 2) := by decide +kernel
theorem d_MRm_seen_25 : decode MRm_seen.2.2.1 25 = .ok (.if_icmp .gt 35, 3) := by decide +kernel
theorem d_MRm_seen_28 : decode MRm_seen.2.2.1 28 = .ok (.aload_n 0, 1) := by decide +kernel
theorem d_MRm_seen_29 : decode MRm_seen.2.2.1 29 = .ok (.iload_n 1, 1) := by decide +kernel
theorem d_MRm_seen_30 : decode MRm_seen.2.2.1 30 = .ok (.bipush 10, 2) := by decide +kernel
theorem d_MRm_seen_32 : decode MRm_seen.2.2.1 32 = .ok (.idiv, 1) := by decide +kernel
theorem d_MRm_seen_33 : decode MRm_seen.2.2.1 33 = .ok (.iload 4, 2) := by decide +kernel
theorem d_MRm_seen_35 : decode MRm_seen.2.2.1 35 = .ok (.iload_n 1, 1) := by decide +kernel
theorem d_MRm_seen_36 : decode MRm_seen.2.2.1 36 = .ok (.bipush 10, 2) := by decide +kernel
theorem d_MRm_seen_38 : decode MRm_seen.2.2.1 38 = .ok (.irem, 1) := by decide +kernel
theorem d_MRm_seen_39 : decode MRm_seen.2.2.1 39 = .ok (.iload_n 2, 1) := by decide +kernel
theorem d_MRm_seen_40 : decode MRm_seen.2.2.1 40 = .ok (.iload_n 3, 1) := by decide +kernel
theorem d_MRm_seen_41 : decode MRm_seen.2.2.1 41 = .ok (.invokevirtual 325, 3) := by decide +kernel
theorem d_MRm_seen_44 : decode MRm_seen.2.2.1 44 = .ok (.aload_n 0, 1) := by decide +kernel
theorem d_MRm_seen_45 : decode MRm_seen.2.2.1 45 = .ok (.getfield 316, 3) := by decide +kernel
theorem d_MRm_seen_48 : decode MRm_seen.2.2.1 48 = .ok (.ifCond .le 6, 3) := by decide +kernel
theorem d_MRm_seen_51 : decode MRm_seen.2.2.1 51 = .ok (.iload 4, 2) := by decide +kernel
theorem d_MRm_seen_53 : decode MRm_seen.2.2.1 53 = .ok (.ireturn, 1) := by decide +kernel
theorem d_MRm_seen_54 : decode MRm_seen.2.2.1 54 = .ok (.iinc 4 1, 3) := by decide +kernel
theorem d_MRm_seen_57 : decode MRm_seen.2.2.1 57 = .ok (.goto (-36), 3) := by decide +kernel
theorem d_MRm_seen_60 : decode MRm_seen.2.2.1 60 = .ok (.bipush (-2), 2) := by decide +kernel
theorem d_MRm_seen_62 : decode MRm_seen.2.2.1 62 = .ok (.ireturn, 1) := by decide +kernel
theorem r_MRm_seen_0 {l1 l2 l3 l4 : Value} {x : Nat} : Rr X d MRm_seen 0 [.ref x, l1, l2, l3, l4] st h = Rr X d MRm_seen 1 [.ref x, l1, l2, l3, l4] (.ref x :: st) h := Rr_nx d_MRm_seen_0 rfl
theorem r_MRm_seen_1 {l0 l2 l3 l4 : Value} {x : Int32} : Rr X d MRm_seen 1 [l0, .int x, l2, l3, l4] st h = Rr X d MRm_seen 2 [l0, .int x, l2, l3, l4] (.int x :: st) h := Rr_nx d_MRm_seen_1 rfl
theorem r_MRm_seen_2 {y0 : Int32} {a : Nat} (hO : qO a 10 = true) (hc : ckS st = true) : Rr X (d + 1) MRm_seen 2 L (.int y0 :: .ref a :: st) (Wd mu la ro et) = (Rr X d MRm_isGoing 0 [.ref a, .int y0] [] (Wd mu la ro et)).bind fun q => Rr X (d + 1) MRm_seen 5 L (psh q.1 st) q.2 := R_iv (av := [.int y0]) d_MRm_seen_2 fc_10_287 hO (ckS_le hc) rfl (Nat.le_of_ble_eq_true rfl) (Nat.le_of_ble_eq_true rfl)
theorem r_MRm_seen_5 {x : Int32} : Rr X d MRm_seen 5 L (.int x :: st) h = if x = 0 then Rr X d MRm_seen 16 L st h else Rr X d MRm_seen 8 L st h := R_if_eq d_MRm_seen_5 (by decide)
theorem r_MRm_seen_8 {l0 l1 l3 l4 : Value} {x : Int32} : Rr X d MRm_seen 8 [l0, l1, .int x, l3, l4] st h = Rr X d MRm_seen 9 [l0, l1, .int x, l3, l4] (.int x :: st) h := Rr_nx d_MRm_seen_8 rfl
theorem r_MRm_seen_9 {l0 l1 l2 l4 : Value} {x : Int32} : Rr X d MRm_seen 9 [l0, l1, l2, .int x, l4] st h = Rr X d MRm_seen 10 [l0, l1, l2, .int x, l4] (.int x :: st) h := Rr_nx d_MRm_seen_9 rfl
theorem r_MRm_seen_10 {y0 : Int32} {y1 : Int32} (hc : ckS st = true) : Rr X (d + 1) MRm_seen 10 L (.int y1 :: .int y0 :: st) h = (Rr X d MRm_isStart 0 [.int y0, .int y1] [] h).bind fun q => Rr X (d + 1) MRm_seen 13 L (psh q.1 st) q.2 := R_is (av := [.int y1, .int y0]) d_MRm_seen_10 (Or.inl fc_10_290) (ckS_le hc) rfl (Nat.le_of_ble_eq_true rfl) (Nat.le_of_ble_eq_true rfl)
theorem r_MRm_seen_13 {x : Int32} : Rr X d MRm_seen 13 L (.int x :: st) h = if ¬ x = 0 then Rr X d MRm_seen 18 L st h else Rr X d MRm_seen 16 L st h := R_if_ne d_MRm_seen_13 (by decide)
theorem r_MRm_seen_16 : Rr X d MRm_seen 16 L st h = Rr X d MRm_seen 17 L (.int (-1) :: st) h := Rr_nx d_MRm_seen_16 rfl
theorem r_MRm_seen_17 {x : Int32} : Rr X d MRm_seen 17 L [.int x] h = some (some (.int x), h) := R_ir d_MRm_seen_17 rfl
theorem r_MRm_seen_18 : Rr X d MRm_seen 18 L st h = Rr X d MRm_seen 19 L (.int (1) :: st) h := Rr_nx d_MRm_seen_18 rfl
theorem r_MRm_seen_19 {l0 l1 l2 l3 l4 : Value} {x : Int32} : Rr X d MRm_seen 19 [l0, l1, l2, l3, l4] (.int x :: st) h = Rr X d MRm_seen 21 (sL [l0, l1, l2, l3, l4] 4 (.int x)) st h := Rr_nx d_MRm_seen_19 rfl
theorem r_MRm_seen_21 {l0 l1 l2 l3 : Value} {x : Int32} : Rr X d MRm_seen 21 [l0, l1, l2, l3, .int x] st h = Rr X d MRm_seen 23 [l0, l1, l2, l3, .int x] (.int x :: st) h := Rr_nx d_MRm_seen_21 rfl
theorem r_MRm_seen_23 : Rr X d MRm_seen 23 L st h = Rr X d MRm_seen 25 L (.int (9) :: st) h := Rr_nx d_MRm_seen_23 rfl
theorem r_MRm_seen_25 {x y : Int32} : Rr X d MRm_seen 25 L (.int y :: .int x :: st) h = if y < x then Rr X d MRm_seen 60 L st h else Rr X d MRm_seen 28 L st h := R_ic_gt d_MRm_seen_25 (by decide)
theorem r_MRm_seen_28 {l1 l2 l3 l4 : Value} {x : Nat} : Rr X d MRm_seen 28 [.ref x, l1, l2, l3, l4] st h = Rr X d MRm_seen 29 [.ref x, l1, l2, l3, l4] (.ref x :: st) h := Rr_nx d_MRm_seen_28 rfl
theorem r_MRm_seen_29 {l0 l2 l3 l4 : Value} {x : Int32} : Rr X d MRm_seen 29 [l0, .int x, l2, l3, l4] st h = Rr X d MRm_seen 30 [l0, .int x, l2, l3, l4] (.int x :: st) h := Rr_nx d_MRm_seen_29 rfl
theorem r_MRm_seen_30 : Rr X d MRm_seen 30 L st h = Rr X d MRm_seen 32 L (.int (10) :: st) h := Rr_nx d_MRm_seen_30 rfl
theorem r_MRm_seen_32 {x y : Int32} : Rr X d MRm_seen 32 L (.int y :: .int x :: st) h = if y = 0 then none else Rr X d MRm_seen 33 L (.int (x / y) :: st) h := R_dv d_MRm_seen_32
theorem r_MRm_seen_33 {l0 l1 l2 l3 : Value} {x : Int32} : Rr X d MRm_seen 33 [l0, l1, l2, l3, .int x] st h = Rr X d MRm_seen 35 [l0, l1, l2, l3, .int x] (.int x :: st) h := Rr_nx d_MRm_seen_33 rfl
theorem r_MRm_seen_35 {l0 l2 l3 l4 : Value} {x : Int32} : Rr X d MRm_seen 35 [l0, .int x, l2, l3, l4] st h = Rr X d MRm_seen 36 [l0, .int x, l2, l3, l4] (.int x :: st) h := Rr_nx d_MRm_seen_35 rfl
theorem r_MRm_seen_36 : Rr X d MRm_seen 36 L st h = Rr X d MRm_seen 38 L (.int (10) :: st) h := Rr_nx d_MRm_seen_36 rfl
theorem r_MRm_seen_38 {x y : Int32} : Rr X d MRm_seen 38 L (.int y :: .int x :: st) h = if y = 0 then none else Rr X d MRm_seen 39 L (.int (x - x / y * y) :: st) h := R_rm d_MRm_seen_38
theorem r_MRm_seen_39 {l0 l1 l3 l4 : Value} {x : Int32} : Rr X d MRm_seen 39 [l0, l1, .int x, l3, l4] st h = Rr X d MRm_seen 40 [l0, l1, .int x, l3, l4] (.int x :: st) h := Rr_nx d_MRm_seen_39 rfl
theorem r_MRm_seen_40 {l0 l1 l2 l4 : Value} {x : Int32} : Rr X d MRm_seen 40 [l0, l1, l2, .int x, l4] st h = Rr X d MRm_seen 41 [l0, l1, l2, .int x, l4] (.int x :: st) h := Rr_nx d_MRm_seen_40 rfl
theorem r_MRm_seen_41 {y0 : Int32} {y1 : Int32} {y2 : Int32} {y3 : Int32} {y4 : Int32} {a : Nat} (hO : qO a 10 = true) (hc : ckS st = true) : Rr X (d + 1) MRm_seen 41 L (.int y4 :: .int y3 :: .int y2 :: .int y1 :: .int y0 :: .ref a :: st) (Wd mu la ro et) = (Rr X d MRm_goThrough 0 [.ref a, .int y0, .int y1, .int y2, .int y3, .int y4, mkU] [] (Wd mu la ro et)).bind fun q => Rr X (d + 1) MRm_seen 44 L (psh q.1 st) q.2 := R_iv (av := [.int y4, .int y3, .int y2, .int y1, .int y0]) d_MRm_seen_41 fc_10_325 hO (ckS_le hc) rfl (Nat.le_of_ble_eq_true rfl) (Nat.le_of_ble_eq_true rfl)
theorem r_MRm_seen_44 {l1 l2 l3 l4 : Value} {x : Nat} : Rr X d MRm_seen 44 [.ref x, l1, l2, l3, l4] st h = Rr X d MRm_seen 45 [.ref x, l1, l2, l3, l4] (.ref x :: st) h := Rr_nx d_MRm_seen_44 rfl
theorem r_MRm_seen_45 {a : Nat} (hq : qI a 10 44 = true) : Rr X d MRm_seen 45 L (.ref a :: st) (Wd mu la ro et) = Rr X d MRm_seen 48 L (.int (mu a 44) :: st) (Wd mu la ro et) := R_gfI d_MRm_seen_45 ff_10_316 hq
theorem r_MRm_seen_48 {x : Int32} : Rr X d MRm_seen 48 L (.int x :: st) h = if x ≤ 0 then Rr X d MRm_seen 54 L st h else Rr X d MRm_seen 51 L st h := R_if_le d_MRm_seen_48 (by decide)
theorem r_MRm_seen_51 {l0 l1 l2 l3 : Value} {x : Int32} : Rr X d MRm_seen 51 [l0, l1, l2, l3, .int x] st h = Rr X d MRm_seen 53 [l0, l1, l2, l3, .int x] (.int x :: st) h := Rr_nx d_MRm_seen_51 rfl
theorem r_MRm_seen_53 {x : Int32} : Rr X d MRm_seen 53 L [.int x] h = some (some (.int x), h) := R_ir d_MRm_seen_53 rfl
theorem r_MRm_seen_54 {l0 l1 l2 l3 : Value} {x : Int32} : Rr X d MRm_seen 54 [l0, l1, l2, l3, .int x] st h = Rr X d MRm_seen 57 (sL [l0, l1, l2, l3, .int x] 4 (.int (x + (1)))) st h := Rr_nx d_MRm_seen_54 rfl
theorem r_MRm_seen_57 : Rr X d MRm_seen 57 L st h = Rr X d MRm_seen 21 L st h := R_goto d_MRm_seen_57 (by decide)
theorem r_MRm_seen_60 : Rr X d MRm_seen 60 L st h = Rr X d MRm_seen 62 L (.int (-2) :: st) h := Rr_nx d_MRm_seen_60 rfl
theorem r_MRm_seen_62 {x : Int32} : Rr X d MRm_seen 62 L [.int x] h = some (some (.int x), h) := R_ir d_MRm_seen_62 rfl
theorem d_MRm_pressed_0 : decode MRm_pressed.2.2.1 0 = .ok (.aload_n 0, 1) := by decide +kernel
theorem d_MRm_pressed_1 : decode MRm_pressed.2.2.1 1 = .ok (.iload_n 1, 1) := by decide +kernel
theorem d_MRm_pressed_2 : decode MRm_pressed.2.2.1 2 = .ok (.invokevirtual 287, 3) := by decide +kernel
theorem d_MRm_pressed_5 : decode MRm_pressed.2.2.1 5 = .ok (.ifCond .eq 11, 3) := by decide +kernel
theorem d_MRm_pressed_8 : decode MRm_pressed.2.2.1 8 = .ok (.iconst 0, 1) := by decide +kernel
theorem d_MRm_pressed_9 : decode MRm_pressed.2.2.1 9 = .ok (.iload_n 2, 1) := by decide +kernel
theorem d_MRm_pressed_10 : decode MRm_pressed.2.2.1 10 = .ok (.invokestatic 290, 3) := by decide +kernel
theorem d_MRm_pressed_13 : decode MRm_pressed.2.2.1 13 = .ok (.ifCond .ne 6, 3) := by decide +kernel
theorem d_MRm_pressed_16 : decode MRm_pressed.2.2.1 16 = .ok (.ldc 176, 2) := by decide +kernel
theorem d_MRm_pressed_18 : decode MRm_pressed.2.2.1 18 = .ok (.ireturn, 1) := by decide +kernel
theorem d_MRm_pressed_19 : decode MRm_pressed.2.2.1 19 = .ok (.aload_n 0, 1) := by decide +kernel
theorem d_MRm_pressed_20 : decode MRm_pressed.2.2.1 20 = .ok (.iload_n 1, 1) := by decide +kernel
theorem d_MRm_pressed_21 : decode MRm_pressed.2.2.1 21 = .ok (.bipush 10, 2) := by decide +kernel
theorem d_MRm_pressed_23 : decode MRm_pressed.2.2.1 23 = .ok (.idiv, 1) := by decide +kernel
theorem d_MRm_pressed_24 : decode MRm_pressed.2.2.1 24 = .ok (.invokevirtual 177, 3) := by decide +kernel
theorem d_MRm_pressed_27 : decode MRm_pressed.2.2.1 27 = .ok (.istore_n 3, 1) := by decide +kernel
theorem d_MRm_pressed_28 : decode MRm_pressed.2.2.1 28 = .ok (.aload_n 0, 1) := by decide +kernel
theorem d_MRm_pressed_29 : decode MRm_pressed.2.2.1 29 = .ok (.iconst 0, 1) := by decide +kernel
theorem d_MRm_pressed_30 : decode MRm_pressed.2.2.1 30 = .ok (.iload_n 2, 1) := by decide +kernel
theorem d_MRm_pressed_31 : decode MRm_pressed.2.2.1 31 = .ok (.invokevirtual 294, 3) := by decide +kernel
theorem d_MRm_pressed_34 : decode MRm_pressed.2.2.1 34 = .ok (.iconst 0, 1) := by decide +kernel
theorem d_MRm_pressed_35 : decode MRm_pressed.2.2.1 35 = .ok (.istore 4, 2) := by decide +kernel
theorem d_MRm_pressed_37 : decode MRm_pressed.2.2.1 37 = .ok (.iconst 1, 1) := by decide +kernel
theorem d_MRm_pressed_38 : decode MRm_pressed.2.2.1 38 = .ok (.istore 5, 2) := by decide +kernel
theorem d_MRm_pressed_40 : decode MRm_pressed.2.2.1 40 = .ok (.iload 5, 2) := by decide +kernel
theorem d_MRm_pressed_42 : decode MRm_pressed.2.2.1 42 = .ok (.sipush 400, 3) := by decide +kernel
theorem d_MRm_pressed_45 : decode MRm_pressed.2.2.1 45 = .ok (.if_icmp .gt 33, 3) := by decide +kernel
theorem d_MRm_pressed_48 : decode MRm_pressed.2.2.1 48 = .ok (.aload_n 0, 1) := by decide +kernel
theorem d_MRm_pressed_49 : decode MRm_pressed.2.2.1 49 = .ok (.iload_n 1, 1) := by decide +kernel
theorem d_MRm_pressed_50 : decode MRm_pressed.2.2.1 50 = .ok (.bipush 10, 2) := by decide +kernel
theorem d_MRm_pressed_52 : decode MRm_pressed.2.2.1 52 = .ok (.idiv, 1) := by decide +kernel
theorem d_MRm_pressed_53 : decode MRm_pressed.2.2.1 53 = .ok (.iload_n 3, 1) := by decide +kernel
theorem d_MRm_pressed_54 : decode MRm_pressed.2.2.1 54 = .ok (.iload_n 1, 1) := by decide +kernel
theorem d_MRm_pressed_55 : decode MRm_pressed.2.2.1 55 = .ok (.bipush 10, 2) := by decide +kernel
theorem d_MRm_pressed_57 : decode MRm_pressed.2.2.1 57 = .ok (.irem, 1) := by decide +kernel
theorem d_MRm_pressed_58 : decode MRm_pressed.2.2.1 58 = .ok (.iload 5, 2) := by decide +kernel
theorem d_MRm_pressed_60 : decode MRm_pressed.2.2.1 60 = .ok (.invokevirtual 300, 3) := by decide +kernel
theorem d_MRm_pressed_63 : decode MRm_pressed.2.2.1 63 = .ok (.iload 4, 2) := by decide +kernel
theorem d_MRm_pressed_65 : decode MRm_pressed.2.2.1 65 = .ok (.aload_n 0, 1) := by decide +kernel
theorem d_MRm_pressed_66 : decode MRm_pressed.2.2.1 66 = .ok (.getfield 260, 3) := by decide +kernel
theorem d_MRm_pressed_69 : decode MRm_pressed.2.2.1 69 = .ok (.iadd, 1) := by decide +kernel
theorem d_MRm_pressed_70 : decode MRm_pressed.2.2.1 70 = .ok (.istore 4, 2) := by decide +kernel
theorem d_MRm_pressed_72 : decode MRm_pressed.2.2.1 72 = .ok (.iinc 5 1, 3) := by decide +kernel
theorem d_MRm_pressed_75 : decode MRm_pressed.2.2.1 75 = .ok (.goto (-35), 3) := by decide +kernel
theorem d_MRm_pressed_78 : decode MRm_pressed.2.2.1 78 = .ok (.iload 4, 2) := by decide +kernel
theorem d_MRm_pressed_80 : decode MRm_pressed.2.2.1 80 = .ok (.ireturn, 1) := by decide +kernel
theorem r_MRm_pressed_0 {l1 l2 l3 l4 l5 : Value} {x : Nat} : Rr X d MRm_pressed 0 [.ref x, l1, l2, l3, l4, l5] st h = Rr X d MRm_pressed 1 [.ref x, l1, l2, l3, l4, l5] (.ref x :: st) h := Rr_nx d_MRm_pressed_0 rfl
theorem r_MRm_pressed_1 {l0 l2 l3 l4 l5 : Value} {x : Int32} : Rr X d MRm_pressed 1 [l0, .int x, l2, l3, l4, l5] st h = Rr X d MRm_pressed 2 [l0, .int x, l2, l3, l4, l5] (.int x :: st) h := Rr_nx d_MRm_pressed_1 rfl
theorem r_MRm_pressed_2 {y0 : Int32} {a : Nat} (hO : qO a 10 = true) (hc : ckS st = true) : Rr X (d + 1) MRm_pressed 2 L (.int y0 :: .ref a :: st) (Wd mu la ro et) = (Rr X d MRm_isGoing 0 [.ref a, .int y0] [] (Wd mu la ro et)).bind fun q => Rr X (d + 1) MRm_pressed 5 L (psh q.1 st) q.2 := R_iv (av := [.int y0]) d_MRm_pressed_2 fc_10_287 hO (ckS_le hc) rfl (Nat.le_of_ble_eq_true rfl) (Nat.le_of_ble_eq_true rfl)
theorem r_MRm_pressed_5 {x : Int32} : Rr X d MRm_pressed 5 L (.int x :: st) h = if x = 0 then Rr X d MRm_pressed 16 L st h else Rr X d MRm_pressed 8 L st h := R_if_eq d_MRm_pressed_5 (by decide)
theorem r_MRm_pressed_8 : Rr X d MRm_pressed 8 L st h = Rr X d MRm_pressed 9 L (.int (0) :: st) h := Rr_nx d_MRm_pressed_8 rfl
theorem r_MRm_pressed_9 {l0 l1 l3 l4 l5 : Value} {x : Int32} : Rr X d MRm_pressed 9 [l0, l1, .int x, l3, l4, l5] st h = Rr X d MRm_pressed 10 [l0, l1, .int x, l3, l4, l5] (.int x :: st) h := Rr_nx d_MRm_pressed_9 rfl
theorem r_MRm_pressed_10 {y0 : Int32} {y1 : Int32} (hc : ckS st = true) : Rr X (d + 1) MRm_pressed 10 L (.int y1 :: .int y0 :: st) h = (Rr X d MRm_isStart 0 [.int y0, .int y1] [] h).bind fun q => Rr X (d + 1) MRm_pressed 13 L (psh q.1 st) q.2 := R_is (av := [.int y1, .int y0]) d_MRm_pressed_10 (Or.inl fc_10_290) (ckS_le hc) rfl (Nat.le_of_ble_eq_true rfl) (Nat.le_of_ble_eq_true rfl)
theorem r_MRm_pressed_13 {x : Int32} : Rr X d MRm_pressed 13 L (.int x :: st) h = if ¬ x = 0 then Rr X d MRm_pressed 19 L st h else Rr X d MRm_pressed 16 L st h := R_if_ne d_MRm_pressed_13 (by decide)
theorem r_MRm_pressed_16 : Rr X d MRm_pressed 16 L st h = Rr X d MRm_pressed 18 L (.int (-2000000000) :: st) h := Rr_nx d_MRm_pressed_16 rfl
theorem r_MRm_pressed_18 {x : Int32} : Rr X d MRm_pressed 18 L [.int x] h = some (some (.int x), h) := R_ir d_MRm_pressed_18 rfl
theorem r_MRm_pressed_19 {l1 l2 l3 l4 l5 : Value} {x : Nat} : Rr X d MRm_pressed 19 [.ref x, l1, l2, l3, l4, l5] st h = Rr X d MRm_pressed 20 [.ref x, l1, l2, l3, l4, l5] (.ref x :: st) h := Rr_nx d_MRm_pressed_19 rfl
theorem r_MRm_pressed_20 {l0 l2 l3 l4 l5 : Value} {x : Int32} : Rr X d MRm_pressed 20 [l0, .int x, l2, l3, l4, l5] st h = Rr X d MRm_pressed 21 [l0, .int x, l2, l3, l4, l5] (.int x :: st) h := Rr_nx d_MRm_pressed_20 rfl
theorem r_MRm_pressed_21 : Rr X d MRm_pressed 21 L st h = Rr X d MRm_pressed 23 L (.int (10) :: st) h := Rr_nx d_MRm_pressed_21 rfl
theorem r_MRm_pressed_23 {x y : Int32} : Rr X d MRm_pressed 23 L (.int y :: .int x :: st) h = if y = 0 then none else Rr X d MRm_pressed 24 L (.int (x / y) :: st) h := R_dv d_MRm_pressed_23
theorem r_MRm_pressed_24 {y0 : Int32} {a : Nat} (hO : qO a 10 = true) (hc : ckS st = true) : Rr X (d + 1) MRm_pressed 24 L (.int y0 :: .ref a :: st) (Wd mu la ro et) = (Rr X d MRm_keenOf 0 [.ref a, .int y0] [] (Wd mu la ro et)).bind fun q => Rr X (d + 1) MRm_pressed 27 L (psh q.1 st) q.2 := R_iv (av := [.int y0]) d_MRm_pressed_24 fc_10_177 hO (ckS_le hc) rfl (Nat.le_of_ble_eq_true rfl) (Nat.le_of_ble_eq_true rfl)
theorem r_MRm_pressed_27 {l0 l1 l2 l3 l4 l5 : Value} {x : Int32} : Rr X d MRm_pressed 27 [l0, l1, l2, l3, l4, l5] (.int x :: st) h = Rr X d MRm_pressed 28 (sL [l0, l1, l2, l3, l4, l5] 3 (.int x)) st h := Rr_nx d_MRm_pressed_27 rfl
theorem r_MRm_pressed_28 {l1 l2 l3 l4 l5 : Value} {x : Nat} : Rr X d MRm_pressed 28 [.ref x, l1, l2, l3, l4, l5] st h = Rr X d MRm_pressed 29 [.ref x, l1, l2, l3, l4, l5] (.ref x :: st) h := Rr_nx d_MRm_pressed_28 rfl
theorem r_MRm_pressed_29 : Rr X d MRm_pressed 29 L st h = Rr X d MRm_pressed 30 L (.int (0) :: st) h := Rr_nx d_MRm_pressed_29 rfl
theorem r_MRm_pressed_30 {l0 l1 l3 l4 l5 : Value} {x : Int32} : Rr X d MRm_pressed 30 [l0, l1, .int x, l3, l4, l5] st h = Rr X d MRm_pressed 31 [l0, l1, .int x, l3, l4, l5] (.int x :: st) h := Rr_nx d_MRm_pressed_30 rfl
theorem r_MRm_pressed_31 {y0 : Int32} {y1 : Int32} {a : Nat} (hO : qO a 10 = true) (hc : ckS st = true) : Rr X (d + 1) MRm_pressed 31 L (.int y1 :: .int y0 :: .ref a :: st) (Wd mu la ro et) = (Rr X d MRm_begin 0 [.ref a, .int y0, .int y1] [] (Wd mu la ro et)).bind fun q => Rr X (d + 1) MRm_pressed 34 L (psh q.1 st) q.2 := R_iv (av := [.int y1, .int y0]) d_MRm_pressed_31 fc_10_294 hO (ckS_le hc) rfl (Nat.le_of_ble_eq_true rfl) (Nat.le_of_ble_eq_true rfl)
theorem r_MRm_pressed_34 : Rr X d MRm_pressed 34 L st h = Rr X d MRm_pressed 35 L (.int (0) :: st) h := Rr_nx d_MRm_pressed_34 rfl
theorem r_MRm_pressed_35 {l0 l1 l2 l3 l4 l5 : Value} {x : Int32} : Rr X d MRm_pressed 35 [l0, l1, l2, l3, l4, l5] (.int x :: st) h = Rr X d MRm_pressed 37 (sL [l0, l1, l2, l3, l4, l5] 4 (.int x)) st h := Rr_nx d_MRm_pressed_35 rfl
theorem r_MRm_pressed_37 : Rr X d MRm_pressed 37 L st h = Rr X d MRm_pressed 38 L (.int (1) :: st) h := Rr_nx d_MRm_pressed_37 rfl
theorem r_MRm_pressed_38 {l0 l1 l2 l3 l4 l5 : Value} {x : Int32} : Rr X d MRm_pressed 38 [l0, l1, l2, l3, l4, l5] (.int x :: st) h = Rr X d MRm_pressed 40 (sL [l0, l1, l2, l3, l4, l5] 5 (.int x)) st h := Rr_nx d_MRm_pressed_38 rfl
theorem r_MRm_pressed_40 {l0 l1 l2 l3 l4 : Value} {x : Int32} : Rr X d MRm_pressed 40 [l0, l1, l2, l3, l4, .int x] st h = Rr X d MRm_pressed 42 [l0, l1, l2, l3, l4, .int x] (.int x :: st) h := Rr_nx d_MRm_pressed_40 rfl
theorem r_MRm_pressed_42 : Rr X d MRm_pressed 42 L st h = Rr X d MRm_pressed 45 L (.int (400) :: st) h := Rr_nx d_MRm_pressed_42 rfl
theorem r_MRm_pressed_45 {x y : Int32} : Rr X d MRm_pressed 45 L (.int y :: .int x :: st) h = if y < x then Rr X d MRm_pressed 78 L st h else Rr X d MRm_pressed 48 L st h := R_ic_gt d_MRm_pressed_45 (by decide)
theorem r_MRm_pressed_48 {l1 l2 l3 l4 l5 : Value} {x : Nat} : Rr X d MRm_pressed 48 [.ref x, l1, l2, l3, l4, l5] st h = Rr X d MRm_pressed 49 [.ref x, l1, l2, l3, l4, l5] (.ref x :: st) h := Rr_nx d_MRm_pressed_48 rfl
theorem r_MRm_pressed_49 {l0 l2 l3 l4 l5 : Value} {x : Int32} : Rr X d MRm_pressed 49 [l0, .int x, l2, l3, l4, l5] st h = Rr X d MRm_pressed 50 [l0, .int x, l2, l3, l4, l5] (.int x :: st) h := Rr_nx d_MRm_pressed_49 rfl
theorem r_MRm_pressed_50 : Rr X d MRm_pressed 50 L st h = Rr X d MRm_pressed 52 L (.int (10) :: st) h := Rr_nx d_MRm_pressed_50 rfl
theorem r_MRm_pressed_52 {x y : Int32} : Rr X d MRm_pressed 52 L (.int y :: .int x :: st) h = if y = 0 then none else Rr X d MRm_pressed 53 L (.int (x / y) :: st) h := R_dv d_MRm_pressed_52
theorem r_MRm_pressed_53 {l0 l1 l2 l4 l5 : Value} {x : Int32} : Rr X d MRm_pressed 53 [l0, l1, l2, .int x, l4, l5] st h = Rr X d MRm_pressed 54 [l0, l1, l2, .int x, l4, l5] (.int x :: st) h := Rr_nx d_MRm_pressed_53 rfl
theorem r_MRm_pressed_54 {l0 l2 l3 l4 l5 : Value} {x : Int32} : Rr X d MRm_pressed 54 [l0, .int x, l2, l3, l4, l5] st h = Rr X d MRm_pressed 55 [l0, .int x, l2, l3, l4, l5] (.int x :: st) h := Rr_nx d_MRm_pressed_54 rfl
theorem r_MRm_pressed_55 : Rr X d MRm_pressed 55 L st h = Rr X d MRm_pressed 57 L (.int (10) :: st) h := Rr_nx d_MRm_pressed_55 rfl
theorem r_MRm_pressed_57 {x y : Int32} : Rr X d MRm_pressed 57 L (.int y :: .int x :: st) h = if y = 0 then none else Rr X d MRm_pressed 58 L (.int (x - x / y * y) :: st) h := R_rm d_MRm_pressed_57
theorem r_MRm_pressed_58 {l0 l1 l2 l3 l4 : Value} {x : Int32} : Rr X d MRm_pressed 58 [l0, l1, l2, l3, l4, .int x] st h = Rr X d MRm_pressed 60 [l0, l1, l2, l3, l4, .int x] (.int x :: st) h := Rr_nx d_MRm_pressed_58 rfl
theorem r_MRm_pressed_60 {y0 : Int32} {y1 : Int32} {y2 : Int32} {y3 : Int32} {a : Nat} (hO : qO a 10 = true) (hc : ckS st = true) : Rr X (d + 1) MRm_pressed 60 L (.int y3 :: .int y2 :: .int y1 :: .int y0 :: .ref a :: st) (Wd mu la ro et) = (Rr X d MRm_go 0 [.ref a, .int y0, .int y1, .int y2, .int y3, mkU, mkU, mkU, mkU, mkU] [] (Wd mu la ro et)).bind fun q => Rr X (d + 1) MRm_pressed 63 L (psh q.1 st) q.2 := R_iv (av := [.int y3, .int y2, .int y1, .int y0]) d_MRm_pressed_60 fc_10_300 hO (ckS_le hc) rfl (Nat.le_of_ble_eq_true rfl) (Nat.le_of_ble_eq_true rfl)
theorem r_MRm_pressed_63 {l0 l1 l2 l3 l5 : Value} {x : Int32} : Rr X d MRm_pressed 63 [l0, l1, l2, l3, .int x, l5] st h = Rr X d MRm_pressed 65 [l0, l1, l2, l3, .int x, l5] (.int x :: st) h := Rr_nx d_MRm_pressed_63 rfl
theorem r_MRm_pressed_65 {l1 l2 l3 l4 l5 : Value} {x : Nat} : Rr X d MRm_pressed 65 [.ref x, l1, l2, l3, l4, l5] st h = Rr X d MRm_pressed 66 [.ref x, l1, l2, l3, l4, l5] (.ref x :: st) h := Rr_nx d_MRm_pressed_65 rfl
theorem r_MRm_pressed_66 {a : Nat} (hq : qI a 10 30 = true) : Rr X d MRm_pressed 66 L (.ref a :: st) (Wd mu la ro et) = Rr X d MRm_pressed 69 L (.int (mu a 30) :: st) (Wd mu la ro et) := R_gfI d_MRm_pressed_66 ff_10_260 hq
theorem r_MRm_pressed_69 {x y : Int32} : Rr X d MRm_pressed 69 L (.int y :: .int x :: st) h = Rr X d MRm_pressed 70 L (.int (x + y) :: st) h := Rr_nx d_MRm_pressed_69 rfl
theorem r_MRm_pressed_70 {l0 l1 l2 l3 l4 l5 : Value} {x : Int32} : Rr X d MRm_pressed 70 [l0, l1, l2, l3, l4, l5] (.int x :: st) h = Rr X d MRm_pressed 72 (sL [l0, l1, l2, l3, l4, l5] 4 (.int x)) st h := Rr_nx d_MRm_pressed_70 rfl
theorem r_MRm_pressed_72 {l0 l1 l2 l3 l4 : Value} {x : Int32} : Rr X d MRm_pressed 72 [l0, l1, l2, l3, l4, .int x] st h = Rr X d MRm_pressed 75 (sL [l0, l1, l2, l3, l4, .int x] 5 (.int (x + (1)))) st h := Rr_nx d_MRm_pressed_72 rfl
theorem r_MRm_pressed_75 : Rr X d MRm_pressed 75 L st h = Rr X d MRm_pressed 40 L st h := R_goto d_MRm_pressed_75 (by decide)
theorem r_MRm_pressed_78 {l0 l1 l2 l3 l5 : Value} {x : Int32} : Rr X d MRm_pressed 78 [l0, l1, l2, l3, .int x, l5] st h = Rr X d MRm_pressed 80 [l0, l1, l2, l3, .int x, l5] (.int x :: st) h := Rr_nx d_MRm_pressed_78 rfl
theorem r_MRm_pressed_80 {x : Int32} : Rr X d MRm_pressed 80 L [.int x] h = some (some (.int x), h) := R_ir d_MRm_pressed_80 rfl
theorem d_MRm_hands_0 : decode MRm_hands.2.2.1 0 = .ok (.aload_n 0, 1) := by decide +kernel
theorem d_MRm_hands_1 : decode MRm_hands.2.2.1 1 = .ok (.iload_n 1, 1) := by decide +kernel
theorem d_MRm_hands_2 : decode MRm_hands.2.2.1 2 = .ok (.invokevirtual 287, 3) := by decide +kernel
theorem d_MRm_hands_5 : decode MRm_hands.2.2.1 5 = .ok (.ifCond .eq 13, 3) := by decide +kernel
theorem d_MRm_hands_8 : decode MRm_hands.2.2.1 8 = .ok (.iload_n 3, 1) := by decide +kernel
theorem d_MRm_hands_9 : decode MRm_hands.2.2.1 9 = .ok (.iconst 1, 1) := by decide +kernel
theorem d_MRm_hands_10 : decode MRm_hands.2.2.1 10 = .ok (.bipush 20, 2) := by decide +kernel
theorem d_MRm_hands_12 : decode MRm_hands.2.2.1 12 = .ok (.invokestatic 107, 3) := by decide +kernel
theorem d_MRm_hands_15 : decode MRm_hands.2.2.1 15 = .ok (.ifCond .ne 5, 3) := by decide +kernel
theorem d_MRm_hands_18 : decode MRm_hands.2.2.1 18 = .ok (.iconst (-1), 1) := by decide +kernel
theorem d_MRm_hands_19 : decode MRm_hands.2.2.1 19 = .ok (.ireturn, 1) := by decide +kernel
theorem d_MRm_hands_20 : decode MRm_hands.2.2.1 20 = .ok (.aload_n 0, 1) := by decide +kernel
theorem d_MRm_hands_21 : decode MRm_hands.2.2.1 21 = .ok (.iload_n 2, 1) := by decide +kernel
theorem d_MRm_hands_22 : decode MRm_hands.2.2.1 22 = .ok (.putfield 332, 3) := by decide +kernel
theorem d_MRm_hands_25 : decode MRm_hands.2.2.1 25 = .ok (.iconst 0, 1) := by decide +kernel
theorem d_MRm_hands_26 : decode MRm_hands.2.2.1 26 = .ok (.istore 4, 2) := by decide +kernel
theorem d_MRm_hands_28 : decode MRm_hands.2.2.1 28 = .ok (.iconst 0, 1) := by decide +kernel
theorem d_MRm_hands_29 : decode MRm_hands.2.2.1 29 = .ok (.istore 5, 2) := by decide +kernel
theorem d_MRm_hands_31 : decode MRm_hands.2.2.1 31 = .ok (.iload 5, 2) := by decide +kernel
theorem d_MRm_hands_33 : decode MRm_hands.2.2.1 33 = .ok (.iload_n 3, 1) := by decide +kernel
theorem d_MRm_hands_34 : decode MRm_hands.2.2.1 34 = .ok (.if_icmp .ge 79, 3) := by decide +kernel
theorem d_MRm_hands_37 : decode MRm_hands.2.2.1 37 = .ok (.aload_n 0, 1) := by decide +kernel
theorem d_MRm_hands_38 : decode MRm_hands.2.2.1 38 = .ok (.sipush 1001, 3) := by decide +kernel
theorem d_MRm_hands_41 : decode MRm_hands.2.2.1 41 = .ok (.invokevirtual 336, 3) := by decide +kernel
theorem d_MRm_hands_44 : decode MRm_hands.2.2.1 44 = .ok (.sipush 500, 3) := by decide +kernel
theorem d_MRm_hands_47 : decode MRm_hands.2.2.1 47 = .ok (.isub, 1) := by decide +kernel
theorem d_MRm_hands_48 : decode MRm_hands.2.2.1 48 = .ok (.istore 6, 2) := by decide +kernel
theorem d_MRm_hands_50 : decode MRm_hands.2.2.1 50 = .ok (.aload_n 0, 1) := by decide +kernel
theorem d_MRm_hands_51 : decode MRm_hands.2.2.1 51 = .ok (.bipush 50, 2) := by decide +kernel
theorem d_MRm_hands_53 : decode MRm_hands.2.2.1 53 = .ok (.invokevirtual 336, 3) := by decide +kernel
theorem d_MRm_hands_56 : decode MRm_hands.2.2.1 56 = .ok (.istore 7, 2) := by decide +kernel
theorem d_MRm_hands_58 : decode MRm_hands.2.2.1 58 = .ok (.aload_n 0, 1) := by decide +kernel
theorem d_MRm_hands_59 : decode MRm_hands.2.2.1 59 = .ok (.bipush 50, 2) := by decide +kernel
theorem d_MRm_hands_61 : decode MRm_hands.2.2.1 61 = .ok (.invokevirtual 336, 3) := by decide +kernel
theorem d_MRm_hands_64 : decode MRm_hands.2.2.1 64 = .ok (.istore 8, 2) := by decide +kernel
theorem d_MRm_hands_66 : decode MRm_hands.2.2.1 66 = .ok (.aload_n 0, 1) := by decide +kernel
theorem d_MRm_hands_67 : decode MRm_hands.2.2.1 67 = .ok (.iload_n 1, 1) := by decide +kernel
theorem d_MRm_hands_68 : decode MRm_hands.2.2.1 68 = .ok (.bipush 10, 2) := by decide +kernel
theorem d_MRm_hands_70 : decode MRm_hands.2.2.1 70 = .ok (.idiv, 1) := by decide +kernel
theorem d_MRm_hands_71 : decode MRm_hands.2.2.1 71 = .ok (.aload_n 0, 1) := by decide +kernel
theorem d_MRm_hands_72 : decode MRm_hands.2.2.1 72 = .ok (.iload_n 1, 1) := by decide +kernel
theorem d_MRm_hands_73 : decode MRm_hands.2.2.1 73 = .ok (.bipush 10, 2) := by decide +kernel
theorem d_MRm_hands_75 : decode MRm_hands.2.2.1 75 = .ok (.idiv, 1) := by decide +kernel
theorem d_MRm_hands_76 : decode MRm_hands.2.2.1 76 = .ok (.invokevirtual 177, 3) := by decide +kernel
theorem d_MRm_hands_79 : decode MRm_hands.2.2.1 79 = .ok (.iload_n 1, 1) := by decide +kernel
theorem d_MRm_hands_80 : decode MRm_hands.2.2.1 80 = .ok (.bipush 10, 2) := by decide +kernel
theorem d_MRm_hands_82 : decode MRm_hands.2.2.1 82 = .ok (.irem, 1) := by decide +kernel
theorem d_MRm_hands_83 : decode MRm_hands.2.2.1 83 = .ok (.iload 6, 2) := by decide +kernel
theorem d_MRm_hands_85 : decode MRm_hands.2.2.1 85 = .ok (.sipush 1000, 3) := by decide +kernel
theorem d_MRm_hands_88 : decode MRm_hands.2.2.1 88 = .ok (.iload 7, 2) := by decide +kernel
theorem d_MRm_hands_90 : decode MRm_hands.2.2.1 90 = .ok (.imul, 1) := by decide +kernel
theorem d_MRm_hands_91 : decode MRm_hands.2.2.1 91 = .ok (.iload 8, 2) := by decide +kernel
theorem d_MRm_hands_93 : decode MRm_hands.2.2.1 93 = .ok (.iadd, 1) := by decide +kernel
theorem d_MRm_hands_94 : decode MRm_hands.2.2.1 94 = .ok (.invokevirtual 325, 3) := by decide +kernel
theorem d_MRm_hands_97 : decode MRm_hands.2.2.1 97 = .ok (.aload_n 0, 1) := by decide +kernel
theorem d_MRm_hands_98 : decode MRm_hands.2.2.1 98 = .ok (.getfield 316, 3) := by decide +kernel
theorem d_MRm_hands_101 : decode MRm_hands.2.2.1 101 = .ok (.ifCond .le 6, 3) := by decide +kernel
theorem d_MRm_hands_104 : decode MRm_hands.2.2.1 104 = .ok (.iinc 4 1, 3) := by decide +kernel
theorem d_MRm_hands_107 : decode MRm_hands.2.2.1 107 = .ok (.iinc 5 1, 3) := by decide +kernel
theorem d_MRm_hands_110 : decode MRm_hands.2.2.1 110 = .ok (.goto (-79), 3) := by decide +kernel
theorem d_MRm_hands_113 : decode MRm_hands.2.2.1 113 = .ok (.iload 4, 2) := by decide +kernel
theorem d_MRm_hands_115 : decode MRm_hands.2.2.1 115 = .ok (.ireturn, 1) := by decide +kernel
theorem r_MRm_hands_0 {l1 l2 l3 l4 l5 l6 l7 l8 : Value} {x : Nat} : Rr X d MRm_hands 0 [.ref x, l1, l2, l3, l4, l5, l6, l7, l8] st h = Rr X d MRm_hands 1 [.ref x, l1, l2, l3, l4, l5, l6, l7, l8] (.ref x :: st) h := Rr_nx d_MRm_hands_0 rfl
theorem r_MRm_hands_1 {l0 l2 l3 l4 l5 l6 l7 l8 : Value} {x : Int32} : Rr X d MRm_hands 1 [l0, .int x, l2, l3, l4, l5, l6, l7, l8] st h = Rr X d MRm_hands 2 [l0, .int x, l2, l3, l4, l5, l6, l7, l8] (.int x :: st) h := Rr_nx d_MRm_hands_1 rfl
theorem r_MRm_hands_2 {y0 : Int32} {a : Nat} (hO : qO a 10 = true) (hc : ckS st = true) : Rr X (d + 1) MRm_hands 2 L (.int y0 :: .ref a :: st) (Wd mu la ro et) = (Rr X d MRm_isGoing 0 [.ref a, .int y0] [] (Wd mu la ro et)).bind fun q => Rr X (d + 1) MRm_hands 5 L (psh q.1 st) q.2 := R_iv (av := [.int y0]) d_MRm_hands_2 fc_10_287 hO (ckS_le hc) rfl (Nat.le_of_ble_eq_true rfl) (Nat.le_of_ble_eq_true rfl)
theorem r_MRm_hands_5 {x : Int32} : Rr X d MRm_hands 5 L (.int x :: st) h = if x = 0 then Rr X d MRm_hands 18 L st h else Rr X d MRm_hands 8 L st h := R_if_eq d_MRm_hands_5 (by decide)
theorem r_MRm_hands_8 {l0 l1 l2 l4 l5 l6 l7 l8 : Value} {x : Int32} : Rr X d MRm_hands 8 [l0, l1, l2, .int x, l4, l5, l6, l7, l8] st h = Rr X d MRm_hands 9 [l0, l1, l2, .int x, l4, l5, l6, l7, l8] (.int x :: st) h := Rr_nx d_MRm_hands_8 rfl
theorem r_MRm_hands_9 : Rr X d MRm_hands 9 L st h = Rr X d MRm_hands 10 L (.int (1) :: st) h := Rr_nx d_MRm_hands_9 rfl
theorem r_MRm_hands_10 : Rr X d MRm_hands 10 L st h = Rr X d MRm_hands 12 L (.int (20) :: st) h := Rr_nx d_MRm_hands_10 rfl
theorem r_MRm_hands_12 {y0 : Int32} {y1 : Int32} {y2 : Int32} (hc : ckS st = true) : Rr X (d + 1) MRm_hands 12 L (.int y2 :: .int y1 :: .int y0 :: st) h = (Rr X d MRm_in 0 [.int y0, .int y1, .int y2] [] h).bind fun q => Rr X (d + 1) MRm_hands 15 L (psh q.1 st) q.2 := R_is (av := [.int y2, .int y1, .int y0]) d_MRm_hands_12 (Or.inl fc_10_107) (ckS_le hc) rfl (Nat.le_of_ble_eq_true rfl) (Nat.le_of_ble_eq_true rfl)
theorem r_MRm_hands_15 {x : Int32} : Rr X d MRm_hands 15 L (.int x :: st) h = if ¬ x = 0 then Rr X d MRm_hands 20 L st h else Rr X d MRm_hands 18 L st h := R_if_ne d_MRm_hands_15 (by decide)
theorem r_MRm_hands_18 : Rr X d MRm_hands 18 L st h = Rr X d MRm_hands 19 L (.int (-1) :: st) h := Rr_nx d_MRm_hands_18 rfl
theorem r_MRm_hands_19 {x : Int32} : Rr X d MRm_hands 19 L [.int x] h = some (some (.int x), h) := R_ir d_MRm_hands_19 rfl
theorem r_MRm_hands_20 {l1 l2 l3 l4 l5 l6 l7 l8 : Value} {x : Nat} : Rr X d MRm_hands 20 [.ref x, l1, l2, l3, l4, l5, l6, l7, l8] st h = Rr X d MRm_hands 21 [.ref x, l1, l2, l3, l4, l5, l6, l7, l8] (.ref x :: st) h := Rr_nx d_MRm_hands_20 rfl
theorem r_MRm_hands_21 {l0 l1 l3 l4 l5 l6 l7 l8 : Value} {x : Int32} : Rr X d MRm_hands 21 [l0, l1, .int x, l3, l4, l5, l6, l7, l8] st h = Rr X d MRm_hands 22 [l0, l1, .int x, l3, l4, l5, l6, l7, l8] (.int x :: st) h := Rr_nx d_MRm_hands_21 rfl
theorem ff_10_332 : fF 10 332 = some (10, 46, 0, 0) := rfl
theorem r_MRm_hands_22 {a : Nat} {x : Int32} (hq : qI a 10 46 = true) : Rr X d MRm_hands 22 L (.int x :: .ref a :: st) (Wd mu la ro et) = Rr X d MRm_hands 25 L st (Wd (up2 mu a 46 x) la ro et) := R_pfI d_MRm_hands_22 ff_10_332 hq
theorem r_MRm_hands_25 : Rr X d MRm_hands 25 L st h = Rr X d MRm_hands 26 L (.int (0) :: st) h := Rr_nx d_MRm_hands_25 rfl
theorem r_MRm_hands_26 {l0 l1 l2 l3 l4 l5 l6 l7 l8 : Value} {x : Int32} : Rr X d MRm_hands 26 [l0, l1, l2, l3, l4, l5, l6, l7, l8] (.int x :: st) h = Rr X d MRm_hands 28 (sL [l0, l1, l2, l3, l4, l5, l6, l7, l8] 4 (.int x)) st h := Rr_nx d_MRm_hands_26 rfl
theorem r_MRm_hands_28 : Rr X d MRm_hands 28 L st h = Rr X d MRm_hands 29 L (.int (0) :: st) h := Rr_nx d_MRm_hands_28 rfl
theorem r_MRm_hands_29 {l0 l1 l2 l3 l4 l5 l6 l7 l8 : Value} {x : Int32} : Rr X d MRm_hands 29 [l0, l1, l2, l3, l4, l5, l6, l7, l8] (.int x :: st) h = Rr X d MRm_hands 31 (sL [l0, l1, l2, l3, l4, l5, l6, l7, l8] 5 (.int x)) st h := Rr_nx d_MRm_hands_29 rfl
theorem r_MRm_hands_31 {l0 l1 l2 l3 l4 l6 l7 l8 : Value} {x : Int32} : Rr X d MRm_hands 31 [l0, l1, l2, l3, l4, .int x, l6, l7, l8] st h = Rr X d MRm_hands 33 [l0, l1, l2, l3, l4, .int x, l6, l7, l8] (.int x :: st) h := Rr_nx d_MRm_hands_31 rfl
theorem r_MRm_hands_33 {l0 l1 l2 l4 l5 l6 l7 l8 : Value} {x : Int32} : Rr X d MRm_hands 33 [l0, l1, l2, .int x, l4, l5, l6, l7, l8] st h = Rr X d MRm_hands 34 [l0, l1, l2, .int x, l4, l5, l6, l7, l8] (.int x :: st) h := Rr_nx d_MRm_hands_33 rfl
theorem r_MRm_hands_34 {x y : Int32} : Rr X d MRm_hands 34 L (.int y :: .int x :: st) h = if y ≤ x then Rr X d MRm_hands 113 L st h else Rr X d MRm_hands 37 L st h := R_ic_ge d_MRm_hands_34 (by decide)
theorem r_MRm_hands_37 {l1 l2 l3 l4 l5 l6 l7 l8 : Value} {x : Nat} : Rr X d MRm_hands 37 [.ref x, l1, l2, l3, l4, l5, l6, l7, l8] st h = Rr X d MRm_hands 38 [.ref x, l1, l2, l3, l4, l5, l6, l7, l8] (.ref x :: st) h := Rr_nx d_MRm_hands_37 rfl
theorem r_MRm_hands_38 : Rr X d MRm_hands 38 L st h = Rr X d MRm_hands 41 L (.int (1001) :: st) h := Rr_nx d_MRm_hands_38 rfl
theorem fc_10_336 : fC 10 336 = some (0, 10, 1, MRm_draw) := rfl
theorem r_MRm_hands_41 {y0 : Int32} {a : Nat} (hO : qO a 10 = true) (hc : ckS st = true) : Rr X (d + 1) MRm_hands 41 L (.int y0 :: .ref a :: st) (Wd mu la ro et) = (Rr X d MRm_draw 0 [.ref a, .int y0] [] (Wd mu la ro et)).bind fun q => Rr X (d + 1) MRm_hands 44 L (psh q.1 st) q.2 := R_iv (av := [.int y0]) d_MRm_hands_41 fc_10_336 hO (ckS_le hc) rfl (Nat.le_of_ble_eq_true rfl) (Nat.le_of_ble_eq_true rfl)
theorem r_MRm_hands_44 : Rr X d MRm_hands 44 L st h = Rr X d MRm_hands 47 L (.int (500) :: st) h := Rr_nx d_MRm_hands_44 rfl
theorem r_MRm_hands_47 {x y : Int32} : Rr X d MRm_hands 47 L (.int y :: .int x :: st) h = Rr X d MRm_hands 48 L (.int (x - y) :: st) h := Rr_nx d_MRm_hands_47 rfl
theorem r_MRm_hands_48 {l0 l1 l2 l3 l4 l5 l6 l7 l8 : Value} {x : Int32} : Rr X d MRm_hands 48 [l0, l1, l2, l3, l4, l5, l6, l7, l8] (.int x :: st) h = Rr X d MRm_hands 50 (sL [l0, l1, l2, l3, l4, l5, l6, l7, l8] 6 (.int x)) st h := Rr_nx d_MRm_hands_48 rfl
theorem r_MRm_hands_50 {l1 l2 l3 l4 l5 l6 l7 l8 : Value} {x : Nat} : Rr X d MRm_hands 50 [.ref x, l1, l2, l3, l4, l5, l6, l7, l8] st h = Rr X d MRm_hands 51 [.ref x, l1, l2, l3, l4, l5, l6, l7, l8] (.ref x :: st) h := Rr_nx d_MRm_hands_50 rfl
theorem r_MRm_hands_51 : Rr X d MRm_hands 51 L st h = Rr X d MRm_hands 53 L (.int (50) :: st) h := Rr_nx d_MRm_hands_51 rfl
theorem r_MRm_hands_53 {y0 : Int32} {a : Nat} (hO : qO a 10 = true) (hc : ckS st = true) : Rr X (d + 1) MRm_hands 53 L (.int y0 :: .ref a :: st) (Wd mu la ro et) = (Rr X d MRm_draw 0 [.ref a, .int y0] [] (Wd mu la ro et)).bind fun q => Rr X (d + 1) MRm_hands 56 L (psh q.1 st) q.2 := R_iv (av := [.int y0]) d_MRm_hands_53 fc_10_336 hO (ckS_le hc) rfl (Nat.le_of_ble_eq_true rfl) (Nat.le_of_ble_eq_true rfl)
theorem r_MRm_hands_56 {l0 l1 l2 l3 l4 l5 l6 l7 l8 : Value} {x : Int32} : Rr X d MRm_hands 56 [l0, l1, l2, l3, l4, l5, l6, l7, l8] (.int x :: st) h = Rr X d MRm_hands 58 (sL [l0, l1, l2, l3, l4, l5, l6, l7, l8] 7 (.int x)) st h := Rr_nx d_MRm_hands_56 rfl
theorem r_MRm_hands_58 {l1 l2 l3 l4 l5 l6 l7 l8 : Value} {x : Nat} : Rr X d MRm_hands 58 [.ref x, l1, l2, l3, l4, l5, l6, l7, l8] st h = Rr X d MRm_hands 59 [.ref x, l1, l2, l3, l4, l5, l6, l7, l8] (.ref x :: st) h := Rr_nx d_MRm_hands_58 rfl
theorem r_MRm_hands_59 : Rr X d MRm_hands 59 L st h = Rr X d MRm_hands 61 L (.int (50) :: st) h := Rr_nx d_MRm_hands_59 rfl
theorem r_MRm_hands_61 {y0 : Int32} {a : Nat} (hO : qO a 10 = true) (hc : ckS st = true) : Rr X (d + 1) MRm_hands 61 L (.int y0 :: .ref a :: st) (Wd mu la ro et) = (Rr X d MRm_draw 0 [.ref a, .int y0] [] (Wd mu la ro et)).bind fun q => Rr X (d + 1) MRm_hands 64 L (psh q.1 st) q.2 := R_iv (av := [.int y0]) d_MRm_hands_61 fc_10_336 hO (ckS_le hc) rfl (Nat.le_of_ble_eq_true rfl) (Nat.le_of_ble_eq_true rfl)
theorem r_MRm_hands_64 {l0 l1 l2 l3 l4 l5 l6 l7 l8 : Value} {x : Int32} : Rr X d MRm_hands 64 [l0, l1, l2, l3, l4, l5, l6, l7, l8] (.int x :: st) h = Rr X d MRm_hands 66 (sL [l0, l1, l2, l3, l4, l5, l6, l7, l8] 8 (.int x)) st h := Rr_nx d_MRm_hands_64 rfl
theorem r_MRm_hands_66 {l1 l2 l3 l4 l5 l6 l7 l8 : Value} {x : Nat} : Rr X d MRm_hands 66 [.ref x, l1, l2, l3, l4, l5, l6, l7, l8] st h = Rr X d MRm_hands 67 [.ref x, l1, l2, l3, l4, l5, l6, l7, l8] (.ref x :: st) h := Rr_nx d_MRm_hands_66 rfl
theorem r_MRm_hands_67 {l0 l2 l3 l4 l5 l6 l7 l8 : Value} {x : Int32} : Rr X d MRm_hands 67 [l0, .int x, l2, l3, l4, l5, l6, l7, l8] st h = Rr X d MRm_hands 68 [l0, .int x, l2, l3, l4, l5, l6, l7, l8] (.int x :: st) h := Rr_nx d_MRm_hands_67 rfl
theorem r_MRm_hands_68 : Rr X d MRm_hands 68 L st h = Rr X d MRm_hands 70 L (.int (10) :: st) h := Rr_nx d_MRm_hands_68 rfl
theorem r_MRm_hands_70 {x y : Int32} : Rr X d MRm_hands 70 L (.int y :: .int x :: st) h = if y = 0 then none else Rr X d MRm_hands 71 L (.int (x / y) :: st) h := R_dv d_MRm_hands_70
theorem r_MRm_hands_71 {l1 l2 l3 l4 l5 l6 l7 l8 : Value} {x : Nat} : Rr X d MRm_hands 71 [.ref x, l1, l2, l3, l4, l5, l6, l7, l8] st h = Rr X d MRm_hands 72 [.ref x, l1, l2, l3, l4, l5, l6, l7, l8] (.ref x :: st) h := Rr_nx d_MRm_hands_71 rfl
theorem r_MRm_hands_72 {l0 l2 l3 l4 l5 l6 l7 l8 : Value} {x : Int32} : Rr X d MRm_hands 72 [l0, .int x, l2, l3, l4, l5, l6, l7, l8] st h = Rr X d MRm_hands 73 [l0, .int x, l2, l3, l4, l5, l6, l7, l8] (.int x :: st) h := Rr_nx d_MRm_hands_72 rfl
theorem r_MRm_hands_73 : Rr X d MRm_hands 73 L st h = Rr X d MRm_hands 75 L (.int (10) :: st) h := Rr_nx d_MRm_hands_73 rfl
theorem r_MRm_hands_75 {x y : Int32} : Rr X d MRm_hands 75 L (.int y :: .int x :: st) h = if y = 0 then none else Rr X d MRm_hands 76 L (.int (x / y) :: st) h := R_dv d_MRm_hands_75
theorem r_MRm_hands_76 {y0 : Int32} {a : Nat} (hO : qO a 10 = true) (hc : ckS st = true) : Rr X (d + 1) MRm_hands 76 L (.int y0 :: .ref a :: st) (Wd mu la ro et) = (Rr X d MRm_keenOf 0 [.ref a, .int y0] [] (Wd mu la ro et)).bind fun q => Rr X (d + 1) MRm_hands 79 L (psh q.1 st) q.2 := R_iv (av := [.int y0]) d_MRm_hands_76 fc_10_177 hO (ckS_le hc) rfl (Nat.le_of_ble_eq_true rfl) (Nat.le_of_ble_eq_true rfl)
theorem r_MRm_hands_79 {l0 l2 l3 l4 l5 l6 l7 l8 : Value} {x : Int32} : Rr X d MRm_hands 79 [l0, .int x, l2, l3, l4, l5, l6, l7, l8] st h = Rr X d MRm_hands 80 [l0, .int x, l2, l3, l4, l5, l6, l7, l8] (.int x :: st) h := Rr_nx d_MRm_hands_79 rfl
theorem r_MRm_hands_80 : Rr X d MRm_hands 80 L st h = Rr X d MRm_hands 82 L (.int (10) :: st) h := Rr_nx d_MRm_hands_80 rfl
theorem r_MRm_hands_82 {x y : Int32} : Rr X d MRm_hands 82 L (.int y :: .int x :: st) h = if y = 0 then none else Rr X d MRm_hands 83 L (.int (x - x / y * y) :: st) h := R_rm d_MRm_hands_82
theorem r_MRm_hands_83 {l0 l1 l2 l3 l4 l5 l7 l8 : Value} {x : Int32} : Rr X d MRm_hands 83 [l0, l1, l2, l3, l4, l5, .int x, l7, l8] st h = Rr X d MRm_hands 85 [l0, l1, l2, l3, l4, l5, .int x, l7, l8] (.int x :: st) h := Rr_nx d_MRm_hands_83 rfl
theorem r_MRm_hands_85 : Rr X d MRm_hands 85 L st h = Rr X d MRm_hands 88 L (.int (1000) :: st) h := Rr_nx d_MRm_hands_85 rfl
theorem r_MRm_hands_88 {l0 l1 l2 l3 l4 l5 l6 l8 : Value} {x : Int32} : Rr X d MRm_hands 88 [l0, l1, l2, l3, l4, l5, l6, .int x, l8] st h = Rr X d MRm_hands 90 [l0, l1, l2, l3, l4, l5, l6, .int x, l8] (.int x :: st) h := Rr_nx d_MRm_hands_88 rfl
theorem r_MRm_hands_90 {x y : Int32} : Rr X d MRm_hands 90 L (.int y :: .int x :: st) h = Rr X d MRm_hands 91 L (.int (x * y) :: st) h := Rr_nx d_MRm_hands_90 rfl
theorem r_MRm_hands_91 {l0 l1 l2 l3 l4 l5 l6 l7 : Value} {x : Int32} : Rr X d MRm_hands 91 [l0, l1, l2, l3, l4, l5, l6, l7, .int x] st h = Rr X d MRm_hands 93 [l0, l1, l2, l3, l4, l5, l6, l7, .int x] (.int x :: st) h := Rr_nx d_MRm_hands_91 rfl
theorem r_MRm_hands_93 {x y : Int32} : Rr X d MRm_hands 93 L (.int y :: .int x :: st) h = Rr X d MRm_hands 94 L (.int (x + y) :: st) h := Rr_nx d_MRm_hands_93 rfl
theorem r_MRm_hands_94 {y0 : Int32} {y1 : Int32} {y2 : Int32} {y3 : Int32} {y4 : Int32} {a : Nat} (hO : qO a 10 = true) (hc : ckS st = true) : Rr X (d + 1) MRm_hands 94 L (.int y4 :: .int y3 :: .int y2 :: .int y1 :: .int y0 :: .ref a :: st) (Wd mu la ro et) = (Rr X d MRm_goThrough 0 [.ref a, .int y0, .int y1, .int y2, .int y3, .int y4, mkU] [] (Wd mu la ro et)).bind fun q => Rr X (d + 1) MRm_hands 97 L (psh q.1 st) q.2 := R_iv (av := [.int y4, .int y3, .int y2, .int y1, .int y0]) d_MRm_hands_94 fc_10_325 hO (ckS_le hc) rfl (Nat.le_of_ble_eq_true rfl) (Nat.le_of_ble_eq_true rfl)
theorem r_MRm_hands_97 {l1 l2 l3 l4 l5 l6 l7 l8 : Value} {x : Nat} : Rr X d MRm_hands 97 [.ref x, l1, l2, l3, l4, l5, l6, l7, l8] st h = Rr X d MRm_hands 98 [.ref x, l1, l2, l3, l4, l5, l6, l7, l8] (.ref x :: st) h := Rr_nx d_MRm_hands_97 rfl
theorem r_MRm_hands_98 {a : Nat} (hq : qI a 10 44 = true) : Rr X d MRm_hands 98 L (.ref a :: st) (Wd mu la ro et) = Rr X d MRm_hands 101 L (.int (mu a 44) :: st) (Wd mu la ro et) := R_gfI d_MRm_hands_98 ff_10_316 hq
theorem r_MRm_hands_101 {x : Int32} : Rr X d MRm_hands 101 L (.int x :: st) h = if x ≤ 0 then Rr X d MRm_hands 107 L st h else Rr X d MRm_hands 104 L st h := R_if_le d_MRm_hands_101 (by decide)
theorem r_MRm_hands_104 {l0 l1 l2 l3 l5 l6 l7 l8 : Value} {x : Int32} : Rr X d MRm_hands 104 [l0, l1, l2, l3, .int x, l5, l6, l7, l8] st h = Rr X d MRm_hands 107 (sL [l0, l1, l2, l3, .int x, l5, l6, l7, l8] 4 (.int (x + (1)))) st h := Rr_nx d_MRm_hands_104 rfl
theorem r_MRm_hands_107 {l0 l1 l2 l3 l4 l6 l7 l8 : Value} {x : Int32} : Rr X d MRm_hands 107 [l0, l1, l2, l3, l4, .int x, l6, l7, l8] st h = Rr X d MRm_hands 110 (sL [l0, l1, l2, l3, l4, .int x, l6, l7, l8] 5 (.int (x + (1)))) st h := Rr_nx d_MRm_hands_107 rfl
theorem r_MRm_hands_110 : Rr X d MRm_hands 110 L st h = Rr X d MRm_hands 31 L st h := R_goto d_MRm_hands_110 (by decide)
theorem r_MRm_hands_113 {l0 l1 l2 l3 l5 l6 l7 l8 : Value} {x : Int32} : Rr X d MRm_hands 113 [l0, l1, l2, l3, .int x, l5, l6, l7, l8] st h = Rr X d MRm_hands 115 [l0, l1, l2, l3, .int x, l5, l6, l7, l8] (.int x :: st) h := Rr_nx d_MRm_hands_113 rfl
theorem r_MRm_hands_115 {x : Int32} : Rr X d MRm_hands 115 L [.int x] h = some (some (.int x), h) := R_ir d_MRm_hands_115 rfl
theorem d_MRm_isFrame_0 : decode MRm_isFrame.2.2.1 0 = .ok (.iload_n 1, 1) := by decide +kernel
theorem d_MRm_isFrame_1 : decode MRm_isFrame.2.2.1 1 = .ok (.aload_n 0, 1) := by decide +kernel
theorem d_MRm_isFrame_2 : decode MRm_isFrame.2.2.1 2 = .ok (.getfield 339, 3) := by decide +kernel
theorem d_MRm_isFrame_5 : decode MRm_isFrame.2.2.1 5 = .ok (.ifCond .ne 7, 3) := by decide +kernel
theorem d_MRm_isFrame_8 : decode MRm_isFrame.2.2.1 8 = .ok (.iconst 0, 1) := by decide +kernel
theorem d_MRm_isFrame_9 : decode MRm_isFrame.2.2.1 9 = .ok (.goto 16, 3) := by decide +kernel
theorem d_MRm_isFrame_12 : decode MRm_isFrame.2.2.1 12 = .ok (.aload_n 0, 1) := by decide +kernel
theorem d_MRm_isFrame_13 : decode MRm_isFrame.2.2.1 13 = .ok (.getfield 76, 3) := by decide +kernel
theorem d_MRm_isFrame_16 : decode MRm_isFrame.2.2.1 16 = .ok (.aload_n 0, 1) := by decide +kernel
theorem d_MRm_isFrame_17 : decode MRm_isFrame.2.2.1 17 = .ok (.getfield 339, 3) := by decide +kernel
theorem d_MRm_isFrame_20 : decode MRm_isFrame.2.2.1 20 = .ok (.iconst 1, 1) := by decide +kernel
theorem d_MRm_isFrame_21 : decode MRm_isFrame.2.2.1 21 = .ok (.isub, 1) := by decide +kernel
theorem d_MRm_isFrame_22 : decode MRm_isFrame.2.2.1 22 = .ok (.iaload, 1) := by decide +kernel
theorem d_MRm_isFrame_23 : decode MRm_isFrame.2.2.1 23 = .ok (.iconst 1, 1) := by decide +kernel
theorem d_MRm_isFrame_24 : decode MRm_isFrame.2.2.1 24 = .ok (.iadd, 1) := by decide +kernel
theorem d_MRm_isFrame_25 : decode MRm_isFrame.2.2.1 25 = .ok (.sipush 400, 3) := by decide +kernel
theorem d_MRm_isFrame_28 : decode MRm_isFrame.2.2.1 28 = .ok (.invokestatic 107, 3) := by decide +kernel
theorem d_MRm_isFrame_31 : decode MRm_isFrame.2.2.1 31 = .ok (.ifCond .eq 20, 3) := by decide +kernel
theorem d_MRm_isFrame_34 : decode MRm_isFrame.2.2.1 34 = .ok (.iload_n 2, 1) := by decide +kernel
theorem d_MRm_isFrame_35 : decode MRm_isFrame.2.2.1 35 = .ok (.sipush (-9999), 3) := by decide +kernel
theorem d_MRm_isFrame_38 : decode MRm_isFrame.2.2.1 38 = .ok (.sipush 9999, 3) := by decide +kernel
theorem d_MRm_isFrame_41 : decode MRm_isFrame.2.2.1 41 = .ok (.invokestatic 107, 3) := by decide +kernel
theorem d_MRm_isFrame_44 : decode MRm_isFrame.2.2.1 44 = .ok (.ifCond .eq 7, 3) := by decide +kernel
theorem d_MRm_isFrame_47 : decode MRm_isFrame.2.2.1 47 = .ok (.iconst 1, 1) := by decide +kernel
theorem d_MRm_isFrame_48 : decode MRm_isFrame.2.2.1 48 = .ok (.goto 4, 3) := by decide +kernel
theorem d_MRm_isFrame_51 : decode MRm_isFrame.2.2.1 51 = .ok (.iconst 0, 1) := by decide +kernel
theorem d_MRm_isFrame_52 : decode MRm_isFrame.2.2.1 52 = .ok (.ireturn, 1) := by decide +kernel
theorem r_MRm_isFrame_0 {l0 l2 : Value} {x : Int32} : Rr X d MRm_isFrame 0 [l0, .int x, l2] st h = Rr X d MRm_isFrame 1 [l0, .int x, l2] (.int x :: st) h := Rr_nx d_MRm_isFrame_0 rfl
theorem r_MRm_isFrame_1 {l1 l2 : Value} {x : Nat} : Rr X d MRm_isFrame 1 [.ref x, l1, l2] st h = Rr X d MRm_isFrame 2 [.ref x, l1, l2] (.ref x :: st) h := Rr_nx d_MRm_isFrame_1 rfl
theorem ff_10_339 : fF 10 339 = some (10, 47, 0, 0) := rfl
theorem r_MRm_isFrame_2 {a : Nat} (hq : qI a 10 47 = true) : Rr X d MRm_isFrame 2 L (.ref a :: st) (Wd mu la ro et) = Rr X d MRm_isFrame 5 L (.int (mu a 47) :: st) (Wd mu la ro et) := R_gfI d_MRm_isFrame_2 ff_10_339 hq
theorem r_MRm_isFrame_5 {x : Int32} : Rr X d MRm_isFrame 5 L (.int x :: st) h = if ¬ x = 0 then Rr X d MRm_isFrame 12 L st h else Rr X d MRm_isFrame 8 L st h := R_if_ne d_MRm_isFrame_5 (by decide)
theorem r_MRm_isFrame_8 : Rr X d MRm_isFrame 8 L st h = Rr X d MRm_isFrame 9 L (.int (0) :: st) h := Rr_nx d_MRm_isFrame_8 rfl
theorem r_MRm_isFrame_9 : Rr X d MRm_isFrame 9 L st h = Rr X d MRm_isFrame 25 L st h := R_goto d_MRm_isFrame_9 (by decide)
theorem r_MRm_isFrame_12 {l1 l2 : Value} {x : Nat} : Rr X d MRm_isFrame 12 [.ref x, l1, l2] st h = Rr X d MRm_isFrame 13 [.ref x, l1, l2] (.ref x :: st) h := Rr_nx d_MRm_isFrame_12 rfl
theorem ff_10_76 : fF 10 76 = some (10, 48, 1, 1) := rfl
theorem r_MRm_isFrame_13 {a : Nat} (hq : (qR a 10 48).isSome = true) : Rr X d MRm_isFrame 13 L (.ref a :: st) (Wd mu la ro et) = Rr X d MRm_isFrame 16 L (.ref (qRd a 10 48) :: st) (Wd mu la ro et) := R_gfR d_MRm_isFrame_13 ff_10_76 hq
theorem r_MRm_isFrame_16 {l1 l2 : Value} {x : Nat} : Rr X d MRm_isFrame 16 [.ref x, l1, l2] st h = Rr X d MRm_isFrame 17 [.ref x, l1, l2] (.ref x :: st) h := Rr_nx d_MRm_isFrame_16 rfl
theorem r_MRm_isFrame_17 {a : Nat} (hq : qI a 10 47 = true) : Rr X d MRm_isFrame 17 L (.ref a :: st) (Wd mu la ro et) = Rr X d MRm_isFrame 20 L (.int (mu a 47) :: st) (Wd mu la ro et) := R_gfI d_MRm_isFrame_17 ff_10_339 hq
theorem r_MRm_isFrame_20 : Rr X d MRm_isFrame 20 L st h = Rr X d MRm_isFrame 21 L (.int (1) :: st) h := Rr_nx d_MRm_isFrame_20 rfl
theorem r_MRm_isFrame_21 {x y : Int32} : Rr X d MRm_isFrame 21 L (.int y :: .int x :: st) h = Rr X d MRm_isFrame 22 L (.int (x - y) :: st) h := Rr_nx d_MRm_isFrame_21 rfl
theorem r_MRm_isFrame_22 {a : Nat} {j : Int32} (hq : (qA a 0).isSome = true) : Rr X d MRm_isFrame 22 L (.int j :: .ref a :: st) (Wd mu la ro et) = if j < 0 ∨ qAd a 0 ≤ j.toNatClampNeg then none else Rr X d MRm_isFrame 23 L (.int (mu a j.toNatClampNeg) :: st) (Wd mu la ro et) := R_ialW d_MRm_isFrame_22 hq
theorem r_MRm_isFrame_23 : Rr X d MRm_isFrame 23 L st h = Rr X d MRm_isFrame 24 L (.int (1) :: st) h := Rr_nx d_MRm_isFrame_23 rfl
theorem r_MRm_isFrame_24 {x y : Int32} : Rr X d MRm_isFrame 24 L (.int y :: .int x :: st) h = Rr X d MRm_isFrame 25 L (.int (x + y) :: st) h := Rr_nx d_MRm_isFrame_24 rfl
theorem r_MRm_isFrame_25 : Rr X d MRm_isFrame 25 L st h = Rr X d MRm_isFrame 28 L (.int (400) :: st) h := Rr_nx d_MRm_isFrame_25 rfl
theorem r_MRm_isFrame_28 {y0 : Int32} {y1 : Int32} {y2 : Int32} (hc : ckS st = true) : Rr X (d + 1) MRm_isFrame 28 L (.int y2 :: .int y1 :: .int y0 :: st) h = (Rr X d MRm_in 0 [.int y0, .int y1, .int y2] [] h).bind fun q => Rr X (d + 1) MRm_isFrame 31 L (psh q.1 st) q.2 := R_is (av := [.int y2, .int y1, .int y0]) d_MRm_isFrame_28 (Or.inl fc_10_107) (ckS_le hc) rfl (Nat.le_of_ble_eq_true rfl) (Nat.le_of_ble_eq_true rfl)
theorem r_MRm_isFrame_31 {x : Int32} : Rr X d MRm_isFrame 31 L (.int x :: st) h = if x = 0 then Rr X d MRm_isFrame 51 L st h else Rr X d MRm_isFrame 34 L st h := R_if_eq d_MRm_isFrame_31 (by decide)
theorem r_MRm_isFrame_34 {l0 l1 : Value} {x : Int32} : Rr X d MRm_isFrame 34 [l0, l1, .int x] st h = Rr X d MRm_isFrame 35 [l0, l1, .int x] (.int x :: st) h := Rr_nx d_MRm_isFrame_34 rfl
theorem r_MRm_isFrame_35 : Rr X d MRm_isFrame 35 L st h = Rr X d MRm_isFrame 38 L (.int (-9999) :: st) h := Rr_nx d_MRm_isFrame_35 rfl
theorem r_MRm_isFrame_38 : Rr X d MRm_isFrame 38 L st h = Rr X d MRm_isFrame 41 L (.int (9999) :: st) h := Rr_nx d_MRm_isFrame_38 rfl
theorem r_MRm_isFrame_41 {y0 : Int32} {y1 : Int32} {y2 : Int32} (hc : ckS st = true) : Rr X (d + 1) MRm_isFrame 41 L (.int y2 :: .int y1 :: .int y0 :: st) h = (Rr X d MRm_in 0 [.int y0, .int y1, .int y2] [] h).bind fun q => Rr X (d + 1) MRm_isFrame 44 L (psh q.1 st) q.2 := R_is (av := [.int y2, .int y1, .int y0]) d_MRm_isFrame_41 (Or.inl fc_10_107) (ckS_le hc) rfl (Nat.le_of_ble_eq_true rfl) (Nat.le_of_ble_eq_true rfl)
theorem r_MRm_isFrame_44 {x : Int32} : Rr X d MRm_isFrame 44 L (.int x :: st) h = if x = 0 then Rr X d MRm_isFrame 51 L st h else Rr X d MRm_isFrame 47 L st h := R_if_eq d_MRm_isFrame_44 (by decide)
theorem r_MRm_isFrame_47 : Rr X d MRm_isFrame 47 L st h = Rr X d MRm_isFrame 48 L (.int (1) :: st) h := Rr_nx d_MRm_isFrame_47 rfl
theorem r_MRm_isFrame_48 : Rr X d MRm_isFrame 48 L st h = Rr X d MRm_isFrame 52 L st h := R_goto d_MRm_isFrame_48 (by decide)
theorem r_MRm_isFrame_51 : Rr X d MRm_isFrame 51 L st h = Rr X d MRm_isFrame 52 L (.int (0) :: st) h := Rr_nx d_MRm_isFrame_51 rfl
theorem r_MRm_isFrame_52 {x : Int32} : Rr X d MRm_isFrame 52 L [.int x] h = if x = 0 ∨ x = 1 then some (some (.int x), h) else none := R_zr d_MRm_isFrame_52 rfl
theorem d_MRm_addFrame_0 : decode MRm_addFrame.2.2.1 0 = .ok (.aload_n 0, 1) := by decide +kernel
theorem d_MRm_addFrame_1 : decode MRm_addFrame.2.2.1 1 = .ok (.getfield 76, 3) := by decide +kernel
theorem d_MRm_addFrame_4 : decode MRm_addFrame.2.2.1 4 = .ok (.aload_n 0, 1) := by decide +kernel
theorem d_MRm_addFrame_5 : decode MRm_addFrame.2.2.1 5 = .ok (.getfield 339, 3) := by decide +kernel
theorem d_MRm_addFrame_8 : decode MRm_addFrame.2.2.1 8 = .ok (.iload_n 1, 1) := by decide +kernel
theorem d_MRm_addFrame_9 : decode MRm_addFrame.2.2.1 9 = .ok (.iastore, 1) := by decide +kernel
theorem d_MRm_addFrame_10 : decode MRm_addFrame.2.2.1 10 = .ok (.aload_n 0, 1) := by decide +kernel
theorem d_MRm_addFrame_11 : decode MRm_addFrame.2.2.1 11 = .ok (.getfield 79, 3) := by decide +kernel
theorem d_MRm_addFrame_14 : decode MRm_addFrame.2.2.1 14 = .ok (.aload_n 0, 1) := by decide +kernel
theorem d_MRm_addFrame_15 : decode MRm_addFrame.2.2.1 15 = .ok (.getfield 339, 3) := by decide +kernel
theorem d_MRm_addFrame_18 : decode MRm_addFrame.2.2.1 18 = .ok (.iload_n 2, 1) := by decide +kernel
theorem d_MRm_addFrame_19 : decode MRm_addFrame.2.2.1 19 = .ok (.iastore, 1) := by decide +kernel
theorem d_MRm_addFrame_20 : decode MRm_addFrame.2.2.1 20 = .ok (.aload_n 0, 1) := by decide +kernel
theorem d_MRm_addFrame_21 : decode MRm_addFrame.2.2.1 21 = .ok (.dup, 1) := by decide +kernel
theorem d_MRm_addFrame_22 : decode MRm_addFrame.2.2.1 22 = .ok (.getfield 339, 3) := by decide +kernel
theorem d_MRm_addFrame_25 : decode MRm_addFrame.2.2.1 25 = .ok (.iconst 1, 1) := by decide +kernel
theorem d_MRm_addFrame_26 : decode MRm_addFrame.2.2.1 26 = .ok (.iadd, 1) := by decide +kernel
theorem d_MRm_addFrame_27 : decode MRm_addFrame.2.2.1 27 = .ok (.putfield 339, 3) := by decide +kernel
theorem d_MRm_addFrame_30 : decode MRm_addFrame.2.2.1 30 = .ok (.return_, 1) := by decide +kernel
theorem r_MRm_addFrame_0 {l1 l2 : Value} {x : Nat} : Rr X d MRm_addFrame 0 [.ref x, l1, l2] st h = Rr X d MRm_addFrame 1 [.ref x, l1, l2] (.ref x :: st) h := Rr_nx d_MRm_addFrame_0 rfl
theorem r_MRm_addFrame_1 {a : Nat} (hq : (qR a 10 48).isSome = true) : Rr X d MRm_addFrame 1 L (.ref a :: st) (Wd mu la ro et) = Rr X d MRm_addFrame 4 L (.ref (qRd a 10 48) :: st) (Wd mu la ro et) := R_gfR d_MRm_addFrame_1 ff_10_76 hq
theorem r_MRm_addFrame_4 {l1 l2 : Value} {x : Nat} : Rr X d MRm_addFrame 4 [.ref x, l1, l2] st h = Rr X d MRm_addFrame 5 [.ref x, l1, l2] (.ref x :: st) h := Rr_nx d_MRm_addFrame_4 rfl
theorem r_MRm_addFrame_5 {a : Nat} (hq : qI a 10 47 = true) : Rr X d MRm_addFrame 5 L (.ref a :: st) (Wd mu la ro et) = Rr X d MRm_addFrame 8 L (.int (mu a 47) :: st) (Wd mu la ro et) := R_gfI d_MRm_addFrame_5 ff_10_339 hq
theorem r_MRm_addFrame_8 {l0 l2 : Value} {x : Int32} : Rr X d MRm_addFrame 8 [l0, .int x, l2] st h = Rr X d MRm_addFrame 9 [l0, .int x, l2] (.int x :: st) h := Rr_nx d_MRm_addFrame_8 rfl
theorem r_MRm_addFrame_9 {a : Nat} {j x : Int32} (hq : (qA a 0).isSome = true) : Rr X d MRm_addFrame 9 L (.int x :: .int j :: .ref a :: st) (Wd mu la ro et) = if j < 0 ∨ qAd a 0 ≤ j.toNatClampNeg then none else Rr X d MRm_addFrame 10 L st (Wd (up2 mu a j.toNatClampNeg (x)) la ro et) := R_iasW d_MRm_addFrame_9 hq
theorem r_MRm_addFrame_10 {l1 l2 : Value} {x : Nat} : Rr X d MRm_addFrame 10 [.ref x, l1, l2] st h = Rr X d MRm_addFrame 11 [.ref x, l1, l2] (.ref x :: st) h := Rr_nx d_MRm_addFrame_10 rfl
theorem ff_10_79 : fF 10 79 = some (10, 49, 1, 1) := rfl
theorem r_MRm_addFrame_11 {a : Nat} (hq : (qR a 10 49).isSome = true) : Rr X d MRm_addFrame 11 L (.ref a :: st) (Wd mu la ro et) = Rr X d MRm_addFrame 14 L (.ref (qRd a 10 49) :: st) (Wd mu la ro et) := R_gfR d_MRm_addFrame_11 ff_10_79 hq
theorem r_MRm_addFrame_14 {l1 l2 : Value} {x : Nat} : Rr X d MRm_addFrame 14 [.ref x, l1, l2] st h = Rr X d MRm_addFrame 15 [.ref x, l1, l2] (.ref x :: st) h := Rr_nx d_MRm_addFrame_14 rfl
theorem r_MRm_addFrame_15 {a : Nat} (hq : qI a 10 47 = true) : Rr X d MRm_addFrame 15 L (.ref a :: st) (Wd mu la ro et) = Rr X d MRm_addFrame 18 L (.int (mu a 47) :: st) (Wd mu la ro et) := R_gfI d_MRm_addFrame_15 ff_10_339 hq
theorem r_MRm_addFrame_18 {l0 l1 : Value} {x : Int32} : Rr X d MRm_addFrame 18 [l0, l1, .int x] st h = Rr X d MRm_addFrame 19 [l0, l1, .int x] (.int x :: st) h := Rr_nx d_MRm_addFrame_18 rfl
theorem r_MRm_addFrame_19 {a : Nat} {j x : Int32} (hq : (qA a 0).isSome = true) : Rr X d MRm_addFrame 19 L (.int x :: .int j :: .ref a :: st) (Wd mu la ro et) = if j < 0 ∨ qAd a 0 ≤ j.toNatClampNeg then none else Rr X d MRm_addFrame 20 L st (Wd (up2 mu a j.toNatClampNeg (x)) la ro et) := R_iasW d_MRm_addFrame_19 hq
theorem r_MRm_addFrame_20 {l1 l2 : Value} {x : Nat} : Rr X d MRm_addFrame 20 [.ref x, l1, l2] st h = Rr X d MRm_addFrame 21 [.ref x, l1, l2] (.ref x :: st) h := Rr_nx d_MRm_addFrame_20 rfl
theorem r_MRm_addFrame_21 {x : Nat} : Rr X d MRm_addFrame 21 L (.ref x :: st) h = Rr X d MRm_addFrame 22 L (.ref x :: .ref x :: st) h := Rr_nx d_MRm_addFrame_21 rfl
theorem r_MRm_addFrame_21i {x : Int32} : Rr X d MRm_addFrame 21 L (.int x :: st) h = Rr X d MRm_addFrame 22 L (.int x :: .int x :: st) h := Rr_nx d_MRm_addFrame_21 rfl
theorem r_MRm_addFrame_22 {a : Nat} (hq : qI a 10 47 = true) : Rr X d MRm_addFrame 22 L (.ref a :: st) (Wd mu la ro et) = Rr X d MRm_addFrame 25 L (.int (mu a 47) :: st) (Wd mu la ro et) := R_gfI d_MRm_addFrame_22 ff_10_339 hq
theorem r_MRm_addFrame_25 : Rr X d MRm_addFrame 25 L st h = Rr X d MRm_addFrame 26 L (.int (1) :: st) h := Rr_nx d_MRm_addFrame_25 rfl
theorem r_MRm_addFrame_26 {x y : Int32} : Rr X d MRm_addFrame 26 L (.int y :: .int x :: st) h = Rr X d MRm_addFrame 27 L (.int (x + y) :: st) h := Rr_nx d_MRm_addFrame_26 rfl
theorem r_MRm_addFrame_27 {a : Nat} {x : Int32} (hq : qI a 10 47 = true) : Rr X d MRm_addFrame 27 L (.int x :: .ref a :: st) (Wd mu la ro et) = Rr X d MRm_addFrame 30 L st (Wd (up2 mu a 47 x) la ro et) := R_pfI d_MRm_addFrame_27 ff_10_339 hq
theorem r_MRm_addFrame_30 : Rr X d MRm_addFrame 30 L [] h = some (none, h) := Rr_rt d_MRm_addFrame_30 rfl
theorem d_MRm_frame_0 : decode MRm_frame.2.2.1 0 = .ok (.aload_n 0, 1) := by decide +kernel
theorem d_MRm_frame_1 : decode MRm_frame.2.2.1 1 = .ok (.iload_n 1, 1) := by decide +kernel
theorem d_MRm_frame_2 : decode MRm_frame.2.2.1 2 = .ok (.iload_n 2, 1) := by decide +kernel
theorem d_MRm_frame_3 : decode MRm_frame.2.2.1 3 = .ok (.invokevirtual 342, 3) := by decide +kernel
theorem d_MRm_frame_6 : decode MRm_frame.2.2.1 6 = .ok (.ifCond .ne 5, 3) := by decide +kernel
theorem d_MRm_frame_9 : decode MRm_frame.2.2.1 9 = .ok (.iconst (-1), 1) := by decide +kernel
theorem d_MRm_frame_10 : decode MRm_frame.2.2.1 10 = .ok (.ireturn, 1) := by decide +kernel
theorem d_MRm_frame_11 : decode MRm_frame.2.2.1 11 = .ok (.aload_n 0, 1) := by decide +kernel
theorem d_MRm_frame_12 : decode MRm_frame.2.2.1 12 = .ok (.getfield 339, 3) := by decide +kernel
theorem d_MRm_frame_15 : decode MRm_frame.2.2.1 15 = .ok (.bipush 40, 2) := by decide +kernel
theorem d_MRm_frame_17 : decode MRm_frame.2.2.1 17 = .ok (.if_icmp .ne 6, 3) := by decide +kernel
theorem d_MRm_frame_20 : decode MRm_frame.2.2.1 20 = .ok (.bipush (-3), 2) := by decide +kernel
theorem d_MRm_frame_22 : decode MRm_frame.2.2.1 22 = .ok (.ireturn, 1) := by decide +kernel
theorem d_MRm_frame_23 : decode MRm_frame.2.2.1 23 = .ok (.aload_n 0, 1) := by decide +kernel
theorem d_MRm_frame_24 : decode MRm_frame.2.2.1 24 = .ok (.iload_n 1, 1) := by decide +kernel
theorem d_MRm_frame_25 : decode MRm_frame.2.2.1 25 = .ok (.iload_n 2, 1) := by decide +kernel
theorem d_MRm_frame_26 : decode MRm_frame.2.2.1 26 = .ok (.invokevirtual 345, 3) := by decide +kernel
theorem d_MRm_frame_29 : decode MRm_frame.2.2.1 29 = .ok (.aload_n 0, 1) := by decide +kernel
theorem d_MRm_frame_30 : decode MRm_frame.2.2.1 30 = .ok (.getfield 339, 3) := by decide +kernel
theorem d_MRm_frame_33 : decode MRm_frame.2.2.1 33 = .ok (.iconst 1, 1) := by decide +kernel
theorem d_MRm_frame_34 : decode MRm_frame.2.2.1 34 = .ok (.isub, 1) := by decide +kernel
theorem d_MRm_frame_35 : decode MRm_frame.2.2.1 35 = .ok (.ireturn, 1) := by decide +kernel
theorem r_MRm_frame_0 {l1 l2 : Value} {x : Nat} : Rr X d MRm_frame 0 [.ref x, l1, l2] st h = Rr X d MRm_frame 1 [.ref x, l1, l2] (.ref x :: st) h := Rr_nx d_MRm_frame_0 rfl
theorem r_MRm_frame_1 {l0 l2 : Value} {x : Int32} : Rr X d MRm_frame 1 [l0, .int x, l2] st h = Rr X d MRm_frame 2 [l0, .int x, l2] (.int x :: st) h := Rr_nx d_MRm_frame_1 rfl
theorem r_MRm_frame_2 {l0 l1 : Value} {x : Int32} : Rr X d MRm_frame 2 [l0, l1, .int x] st h = Rr X d MRm_frame 3 [l0, l1, .int x] (.int x :: st) h := Rr_nx d_MRm_frame_2 rfl
theorem fc_10_342 : fC 10 342 = some (0, 10, 2, MRm_isFrame) := rfl
theorem r_MRm_frame_3 {y0 : Int32} {y1 : Int32} {a : Nat} (hO : qO a 10 = true) (hc : ckS st = true) : Rr X (d + 1) MRm_frame 3 L (.int y1 :: .int y0 :: .ref a :: st) (Wd mu la ro et) = (Rr X d MRm_isFrame 0 [.ref a, .int y0, .int y1] [] (Wd mu la ro et)).bind fun q => Rr X (d + 1) MRm_frame 6 L (psh q.1 st) q.2 := R_iv (av := [.int y1, .int y0]) d_MRm_frame_3 fc_10_342 hO (ckS_le hc) rfl (Nat.le_of_ble_eq_true rfl) (Nat.le_of_ble_eq_true rfl)
theorem r_MRm_frame_6 {x : Int32} : Rr X d MRm_frame 6 L (.int x :: st) h = if ¬ x = 0 then Rr X d MRm_frame 11 L st h else Rr X d MRm_frame 9 L st h := R_if_ne d_MRm_frame_6 (by decide)
theorem r_MRm_frame_9 : Rr X d MRm_frame 9 L st h = Rr X d MRm_frame 10 L (.int (-1) :: st) h := Rr_nx d_MRm_frame_9 rfl
theorem r_MRm_frame_10 {x : Int32} : Rr X d MRm_frame 10 L [.int x] h = some (some (.int x), h) := R_ir d_MRm_frame_10 rfl
theorem r_MRm_frame_11 {l1 l2 : Value} {x : Nat} : Rr X d MRm_frame 11 [.ref x, l1, l2] st h = Rr X d MRm_frame 12 [.ref x, l1, l2] (.ref x :: st) h := Rr_nx d_MRm_frame_11 rfl
theorem r_MRm_frame_12 {a : Nat} (hq : qI a 10 47 = true) : Rr X d MRm_frame 12 L (.ref a :: st) (Wd mu la ro et) = Rr X d MRm_frame 15 L (.int (mu a 47) :: st) (Wd mu la ro et) := R_gfI d_MRm_frame_12 ff_10_339 hq
theorem r_MRm_frame_15 : Rr X d MRm_frame 15 L st h = Rr X d MRm_frame 17 L (.int (40) :: st) h := Rr_nx d_MRm_frame_15 rfl
theorem r_MRm_frame_17 {x y : Int32} : Rr X d MRm_frame 17 L (.int y :: .int x :: st) h = if ¬ x = y then Rr X d MRm_frame 23 L st h else Rr X d MRm_frame 20 L st h := R_ic_ne d_MRm_frame_17 (by decide)
theorem r_MRm_frame_20 : Rr X d MRm_frame 20 L st h = Rr X d MRm_frame 22 L (.int (-3) :: st) h := Rr_nx d_MRm_frame_20 rfl
theorem r_MRm_frame_22 {x : Int32} : Rr X d MRm_frame 22 L [.int x] h = some (some (.int x), h) := R_ir d_MRm_frame_22 rfl
theorem r_MRm_frame_23 {l1 l2 : Value} {x : Nat} : Rr X d MRm_frame 23 [.ref x, l1, l2] st h = Rr X d MRm_frame 24 [.ref x, l1, l2] (.ref x :: st) h := Rr_nx d_MRm_frame_23 rfl
theorem r_MRm_frame_24 {l0 l2 : Value} {x : Int32} : Rr X d MRm_frame 24 [l0, .int x, l2] st h = Rr X d MRm_frame 25 [l0, .int x, l2] (.int x :: st) h := Rr_nx d_MRm_frame_24 rfl
theorem r_MRm_frame_25 {l0 l1 : Value} {x : Int32} : Rr X d MRm_frame 25 [l0, l1, .int x] st h = Rr X d MRm_frame 26 [l0, l1, .int x] (.int x :: st) h := Rr_nx d_MRm_frame_25 rfl
theorem fc_10_345 : fC 10 345 = some (0, 10, 2, MRm_addFrame) := rfl
theorem r_MRm_frame_26 {y0 : Int32} {y1 : Int32} {a : Nat} (hO : qO a 10 = true) (hc : ckS st = true) : Rr X (d + 1) MRm_frame 26 L (.int y1 :: .int y0 :: .ref a :: st) (Wd mu la ro et) = (Rr X d MRm_addFrame 0 [.ref a, .int y0, .int y1] [] (Wd mu la ro et)).bind fun q => Rr X (d + 1) MRm_frame 29 L (psh q.1 st) q.2 := R_iv (av := [.int y1, .int y0]) d_MRm_frame_26 fc_10_345 hO (ckS_le hc) rfl (Nat.le_of_ble_eq_true rfl) (Nat.le_of_ble_eq_true rfl)
theorem r_MRm_frame_29 {l1 l2 : Value} {x : Nat} : Rr X d MRm_frame 29 [.ref x, l1, l2] st h = Rr X d MRm_frame 30 [.ref x, l1, l2] (.ref x :: st) h := Rr_nx d_MRm_frame_29 rfl
theorem r_MRm_frame_30 {a : Nat} (hq : qI a 10 47 = true) : Rr X d MRm_frame 30 L (.ref a :: st) (Wd mu la ro et) = Rr X d MRm_frame 33 L (.int (mu a 47) :: st) (Wd mu la ro et) := R_gfI d_MRm_frame_30 ff_10_339 hq
theorem r_MRm_frame_33 : Rr X d MRm_frame 33 L st h = Rr X d MRm_frame 34 L (.int (1) :: st) h := Rr_nx d_MRm_frame_33 rfl
theorem r_MRm_frame_34 {x y : Int32} : Rr X d MRm_frame 34 L (.int y :: .int x :: st) h = Rr X d MRm_frame 35 L (.int (x - y) :: st) h := Rr_nx d_MRm_frame_34 rfl
theorem r_MRm_frame_35 {x : Int32} : Rr X d MRm_frame 35 L [.int x] h = some (some (.int x), h) := R_ir d_MRm_frame_35 rfl
theorem d_MRm_frames_0 : decode MRm_frames.2.2.1 0 = .ok (.iload_n 1, 1) := by decide +kernel
theorem d_MRm_frames_1 : decode MRm_frames.2.2.1 1 = .ok (.invokestatic 348, 3) := by decide +kernel
theorem d_MRm_frames_4 : decode MRm_frames.2.2.1 4 = .ok (.ifCond .eq 13, 3) := by decide +kernel
theorem d_MRm_frames_7 : decode MRm_frames.2.2.1 7 = .ok (.iload_n 3, 1) := by decide +kernel
theorem d_MRm_frames_8 : decode MRm_frames.2.2.1 8 = .ok (.iconst 1, 1) := by decide +kernel
theorem d_MRm_frames_9 : decode MRm_frames.2.2.1 9 = .ok (.bipush 30, 2) := by decide +kernel
theorem d_MRm_frames_11 : decode MRm_frames.2.2.1 11 = .ok (.invokestatic 107, 3) := by decide +kernel
theorem d_MRm_frames_14 : decode MRm_frames.2.2.1 14 = .ok (.ifCond .ne 5, 3) := by decide +kernel
theorem d_MRm_frames_17 : decode MRm_frames.2.2.1 17 = .ok (.iconst (-1), 1) := by decide +kernel
theorem d_MRm_frames_18 : decode MRm_frames.2.2.1 18 = .ok (.ireturn, 1) := by decide +kernel
theorem d_MRm_frames_19 : decode MRm_frames.2.2.1 19 = .ok (.aload_n 0, 1) := by decide +kernel
theorem d_MRm_frames_20 : decode MRm_frames.2.2.1 20 = .ok (.getfield 92, 3) := by decide +kernel
theorem d_MRm_frames_23 : decode MRm_frames.2.2.1 23 = .ok (.iload_n 1, 1) := by decide +kernel
theorem d_MRm_frames_24 : decode MRm_frames.2.2.1 24 = .ok (.iaload, 1) := by decide +kernel
theorem d_MRm_frames_25 : decode MRm_frames.2.2.1 25 = .ok (.iconst (-1), 1) := by decide +kernel
theorem d_MRm_frames_26 : decode MRm_frames.2.2.1 26 = .ok (.if_icmp .eq 17, 3) := by decide +kernel
theorem d_MRm_frames_29 : decode MRm_frames.2.2.1 29 = .ok (.aload_n 0, 1) := by decide +kernel
theorem d_MRm_frames_30 : decode MRm_frames.2.2.1 30 = .ok (.getfield 92, 3) := by decide +kernel
theorem d_MRm_frames_33 : decode MRm_frames.2.2.1 33 = .ok (.iload_n 1, 1) := by decide +kernel
theorem d_MRm_frames_34 : decode MRm_frames.2.2.1 34 = .ok (.iaload, 1) := by decide +kernel
theorem d_MRm_frames_35 : decode MRm_frames.2.2.1 35 = .ok (.bipush (-3), 2) := by decide +kernel
theorem d_MRm_frames_37 : decode MRm_frames.2.2.1 37 = .ok (.if_icmp .eq 6, 3) := by decide +kernel
theorem d_MRm_frames_40 : decode MRm_frames.2.2.1 40 = .ok (.bipush (-12), 2) := by decide +kernel
theorem d_MRm_frames_42 : decode MRm_frames.2.2.1 42 = .ok (.ireturn, 1) := by decide +kernel
theorem d_MRm_frames_43 : decode MRm_frames.2.2.1 43 = .ok (.aload_n 0, 1) := by decide +kernel
theorem d_MRm_frames_44 : decode MRm_frames.2.2.1 44 = .ok (.getfield 92, 3) := by decide +kernel
theorem d_MRm_frames_47 : decode MRm_frames.2.2.1 47 = .ok (.iload_n 1, 1) := by decide +kernel
theorem d_MRm_frames_48 : decode MRm_frames.2.2.1 48 = .ok (.iaload, 1) := by decide +kernel
theorem d_MRm_frames_49 : decode MRm_frames.2.2.1 49 = .ok (.iconst (-1), 1) := by decide +kernel
theorem d_MRm_frames_50 : decode MRm_frames.2.2.1 50 = .ok (.if_icmp .ne 5, 3) := by decide +kernel
theorem d_MRm_frames_53 : decode MRm_frames.2.2.1 53 = .ok (.iconst 0, 1) := by decide +kernel
theorem d_MRm_frames_54 : decode MRm_frames.2.2.1 54 = .ok (.ireturn, 1) := by decide +kernel
theorem d_MRm_frames_55 : decode MRm_frames.2.2.1 55 = .ok (.iconst 0, 1) := by decide +kernel
theorem d_MRm_frames_56 : decode MRm_frames.2.2.1 56 = .ok (.istore 4, 2) := by decide +kernel
theorem d_MRm_frames_58 : decode MRm_frames.2.2.1 58 = .ok (.iload 4, 2) := by decide +kernel
theorem d_MRm_frames_60 : decode MRm_frames.2.2.1 60 = .ok (.iload_n 3, 1) := by decide +kernel
theorem d_MRm_frames_61 : decode MRm_frames.2.2.1 61 = .ok (.if_icmp .ge 113, 3) := by decide +kernel
theorem d_MRm_frames_64 : decode MRm_frames.2.2.1 64 = .ok (.iload_n 2, 1) := by decide +kernel
theorem d_MRm_frames_65 : decode MRm_frames.2.2.1 65 = .ok (.i2l, 1) := by decide +kernel
theorem d_MRm_frames_66 : decode MRm_frames.2.2.1 66 = .ok (.iconst 2, 1) := by decide +kernel
theorem d_MRm_frames_67 : decode MRm_frames.2.2.1 67 = .ok (.iload 4, 2) := by decide +kernel
theorem d_MRm_frames_69 : decode MRm_frames.2.2.1 69 = .ok (.imul, 1) := by decide +kernel
theorem d_MRm_frames_70 : decode MRm_frames.2.2.1 70 = .ok (.i2l, 1) := by decide +kernel
theorem d_MRm_frames_71 : decode MRm_frames.2.2.1 71 = .ok (.ladd, 1) := by decide +kernel
theorem d_MRm_frames_72 : decode MRm_frames.2.2.1 72 = .ok (.lstore 5, 2) := by decide +kernel
theorem d_MRm_frames_74 : decode MRm_frames.2.2.1 74 = .ok (.lload 5, 2) := by decide +kernel
theorem d_MRm_frames_76 : decode MRm_frames.2.2.1 76 = .ok (.lconst 0, 1) := by decide +kernel
theorem d_MRm_frames_77 : decode MRm_frames.2.2.1 77 = .ok (.lcmp, 1) := by decide +kernel
theorem d_MRm_frames_78 : decode MRm_frames.2.2.1 78 = .ok (.ifCond .lt 27, 3) := by decide +kernel
theorem d_MRm_frames_81 : decode MRm_frames.2.2.1 81 = .ok (.lload 5, 2) := by decide +kernel
theorem d_MRm_frames_83 : decode MRm_frames.2.2.1 83 = .ok (.lconst 1, 1) := by decide +kernel
theorem d_MRm_frames_84 : decode MRm_frames.2.2.1 84 = .ok (.ladd, 1) := by decide +kernel
theorem d_MRm_frames_85 : decode MRm_frames.2.2.1 85 = .ok (.aload_n 0, 1) := by decide +kernel
theorem d_MRm_frames_86 : decode MRm_frames.2.2.1 86 = .ok (.getfield 95, 3) := by decide +kernel
theorem d_MRm_frames_89 : decode MRm_frames.2.2.1 89 = .ok (.iload_n 1, 1) := by decide +kernel
theorem d_MRm_frames_90 : decode MRm_frames.2.2.1 90 = .ok (.iaload, 1) := by decide +kernel
theorem d_MRm_frames_91 : decode MRm_frames.2.2.1 91 = .ok (.i2l, 1) := by decide +kernel
theorem d_MRm_frames_92 : decode MRm_frames.2.2.1 92 = .ok (.lcmp, 1) := by decide +kernel
theorem d_MRm_frames_93 : decode MRm_frames.2.2.1 93 = .ok (.ifCond .ge 12, 3) := by decide +kernel
theorem d_MRm_frames_96 : decode MRm_frames.2.2.1 96 = .ok (.aload_n 0, 1) := by decide +kernel
theorem d_MRm_frames_97 : decode MRm_frames.2.2.1 97 = .ok (.getfield 339, 3) := by decide +kernel
theorem d_MRm_frames_100 : decode MRm_frames.2.2.1 100 = .ok (.bipush 40, 2) := by decide +kernel
theorem d_MRm_frames_102 : decode MRm_frames.2.2.1 102 = .ok (.if_icmp .ne 6, 3) := by decide +kernel
theorem d_MRm_frames_105 : decode MRm_frames.2.2.1 105 = .ok (.iload 4, 2) := by decide +kernel
theorem d_MRm_frames_107 : decode MRm_frames.2.2.1 107 = .ok (.ireturn, 1) := by decide +kernel
theorem d_MRm_frames_108 : decode MRm_frames.2.2.1 108 = .ok (.bipush 60, 2) := by decide +kernel
theorem d_MRm_frames_110 : decode MRm_frames.2.2.1 110 = .ok (.iload_n 1, 1) := by decide +kernel
theorem d_MRm_frames_111 : decode MRm_frames.2.2.1 111 = .ok (.imul, 1) := by decide +kernel
theorem d_MRm_frames_112 : decode MRm_frames.2.2.1 112 = .ok (.lload 5, 2) := by decide +kernel
theorem d_MRm_frames_114 : decode MRm_frames.2.2.1 114 = .ok (.l2i, 1) := by decide +kernel
theorem d_MRm_frames_115 : decode MRm_frames.2.2.1 115 = .ok (.iadd, 1) := by decide +kernel
theorem d_MRm_frames_116 : decode MRm_frames.2.2.1 116 = .ok (.istore 7, 2) := by decide +kernel
theorem d_MRm_frames_118 : decode MRm_frames.2.2.1 118 = .ok (.aload_n 0, 1) := by decide +kernel
theorem d_MRm_frames_119 : decode MRm_frames.2.2.1 119 = .ok (.aload_n 0, 1) := by decide +kernel
theorem d_MRm_frames_120 : decode MRm_frames.2.2.1 120 = .ok (.getfield 98, 3) := by decide +kernel
theorem d_MRm_frames_123 : decode MRm_frames.2.2.1 123 = .ok (.iload 7, 2) := by decide +kernel
theorem d_MRm_frames_125 : decode MRm_frames.2.2.1 125 = .ok (.laload, 1) := by decide +kernel
theorem d_MRm_frames_126 : decode MRm_frames.2.2.1 126 = .ok (.l2i, 1) := by decide +kernel
theorem d_MRm_frames_127 : decode MRm_frames.2.2.1 127 = .ok (.aload_n 0, 1) := by decide +kernel
theorem d_MRm_frames_128 : decode MRm_frames.2.2.1 128 = .ok (.getfield 98, 3) := by decide +kernel
theorem d_MRm_frames_131 : decode MRm_frames.2.2.1 131 = .ok (.iload 7, 2) := by decide +kernel
theorem d_MRm_frames_133 : decode MRm_frames.2.2.1 133 = .ok (.iconst 1, 1) := by decide +kernel
theorem d_MRm_frames_134 : decode MRm_frames.2.2.1 134 = .ok (.iadd, 1) := by decide +kernel
theorem d_MRm_frames_135 : decode MRm_frames.2.2.1 135 = .ok (.laload, 1) := by decide +kernel
theorem d_MRm_frames_136 : decode MRm_frames.2.2.1 136 = .ok (.l2i, 1) := by decide +kernel
theorem d_MRm_frames_137 : decode MRm_frames.2.2.1 137 = .ok (.invokevirtual 342, 3) := by decide +kernel
theorem d_MRm_frames_140 : decode MRm_frames.2.2.1 140 = .ok (.ifCond .ne 6, 3) := by decide +kernel
theorem d_MRm_frames_143 : decode MRm_frames.2.2.1 143 = .ok (.iload 4, 2) := by decide +kernel
theorem d_MRm_frames_145 : decode MRm_frames.2.2.1 145 = .ok (.ireturn, 1) := by decide +kernel
theorem d_MRm_frames_146 : decode MRm_frames.2.2.1 146 = .ok (.aload_n 0, 1) := by decide +kernel
theorem d_MRm_frames_147 : decode MRm_frames.2.2.1 147 = .ok (.aload_n 0, 1) := by decide +kernel
theorem d_MRm_frames_148 : decode MRm_frames.2.2.1 148 = .ok (.getfield 98, 3) := by decide +kernel
theorem d_MRm_frames_151 : decode MRm_frames.2.2.1 151 = .ok (.iload 7, 2) := by decide +kernel
theorem d_MRm_frames_153 : decode MRm_frames.2.2.1 153 = .ok (.laload, 1) := by decide +kernel
theorem d_MRm_frames_154 : decode MRm_frames.2.2.1 154 = .ok (.l2i, 1) := by decide +kernel
theorem d_MRm_frames_155 : decode MRm_frames.2.2.1 155 = .ok (.aload_n 0, 1) := by decide +kernel
theorem d_MRm_frames_156 : decode MRm_frames.2.2.1 156 = .ok (.getfield 98, 3) := by decide +kernel
theorem d_MRm_frames_159 : decode MRm_frames.2.2.1 159 = .ok (.iload 7, 2) := by decide +kernel
theorem d_MRm_frames_161 : decode MRm_frames.2.2.1 161 = .ok (.iconst 1, 1) := by decide +kernel
theorem d_MRm_frames_162 : decode MRm_frames.2.2.1 162 = .ok (.iadd, 1) := by decide +kernel
theorem d_MRm_frames_163 : decode MRm_frames.2.2.1 163 = .ok (.laload, 1) := by decide +kernel
theorem d_MRm_frames_164 : decode MRm_frames.2.2.1 164 = .ok (.l2i, 1) := by decide +kernel
theorem d_MRm_frames_165 : decode MRm_frames.2.2.1 165 = .ok (.invokevirtual 345, 3) := by decide +kernel
theorem d_MRm_frames_168 : decode MRm_frames.2.2.1 168 = .ok (.iinc 4 1, 3) := by decide +kernel
theorem d_MRm_frames_171 : decode MRm_frames.2.2.1 171 = .ok (.goto (-113), 3) := by decide +kernel
theorem d_MRm_frames_174 : decode MRm_frames.2.2.1 174 = .ok (.iload_n 3, 1) := by decide +kernel
theorem d_MRm_frames_175 : decode MRm_frames.2.2.1 175 = .ok (.ireturn, 1) := by decide +kernel
theorem r_MRm_frames_0 {l0 l2 l3 l4 l5 l6 l7 : Value} {x : Int32} : Rr X d MRm_frames 0 [l0, .int x, l2, l3, l4, l5, l6, l7] st h = Rr X d MRm_frames 1 [l0, .int x, l2, l3, l4, l5, l6, l7] (.int x :: st) h := Rr_nx d_MRm_frames_0 rfl
theorem fc_10_348 : fC 10 348 = some (1, 0, 1, MRm_isShelf) := rfl
theorem r_MRm_frames_1 {y0 : Int32} (hc : ckS st = true) : Rr X (d + 1) MRm_frames 1 L (.int y0 :: st) h = (Rr X d MRm_isShelf 0 [.int y0] [] h).bind fun q => Rr X (d + 1) MRm_frames 4 L (psh q.1 st) q.2 := R_is (av := [.int y0]) d_MRm_frames_1 (Or.inl fc_10_348) (ckS_le hc) rfl (Nat.le_of_ble_eq_true rfl) (Nat.le_of_ble_eq_true rfl)
theorem r_MRm_frames_4 {x : Int32} : Rr X d MRm_frames 4 L (.int x :: st) h = if x = 0 then Rr X d MRm_frames 17 L st h else Rr X d MRm_frames 7 L st h := R_if_eq d_MRm_frames_4 (by decide)
theorem r_MRm_frames_7 {l0 l1 l2 l4 l5 l6 l7 : Value} {x : Int32} : Rr X d MRm_frames 7 [l0, l1, l2, .int x, l4, l5, l6, l7] st h = Rr X d MRm_frames 8 [l0, l1, l2, .int x, l4, l5, l6, l7] (.int x :: st) h := Rr_nx d_MRm_frames_7 rfl
theorem r_MRm_frames_8 : Rr X d MRm_frames 8 L st h = Rr X d MRm_frames 9 L (.int (1) :: st) h := Rr_nx d_MRm_frames_8 rfl
theorem r_MRm_frames_9 : Rr X d MRm_frames 9 L st h = Rr X d MRm_frames 11 L (.int (30) :: st) h := Rr_nx d_MRm_frames_9 rfl
theorem r_MRm_frames_11 {y0 : Int32} {y1 : Int32} {y2 : Int32} (hc : ckS st = true) : Rr X (d + 1) MRm_frames 11 L (.int y2 :: .int y1 :: .int y0 :: st) h = (Rr X d MRm_in 0 [.int y0, .int y1, .int y2] [] h).bind fun q => Rr X (d + 1) MRm_frames 14 L (psh q.1 st) q.2 := R_is (av := [.int y2, .int y1, .int y0]) d_MRm_frames_11 (Or.inl fc_10_107) (ckS_le hc) rfl (Nat.le_of_ble_eq_true rfl) (Nat.le_of_ble_eq_true rfl)
theorem r_MRm_frames_14 {x : Int32} : Rr X d MRm_frames 14 L (.int x :: st) h = if ¬ x = 0 then Rr X d MRm_frames 19 L st h else Rr X d MRm_frames 17 L st h := R_if_ne d_MRm_frames_14 (by decide)
theorem r_MRm_frames_17 : Rr X d MRm_frames 17 L st h = Rr X d MRm_frames 18 L (.int (-1) :: st) h := Rr_nx d_MRm_frames_17 rfl
theorem r_MRm_frames_18 {x : Int32} : Rr X d MRm_frames 18 L [.int x] h = some (some (.int x), h) := R_ir d_MRm_frames_18 rfl
theorem r_MRm_frames_19 {l1 l2 l3 l4 l5 l6 l7 : Value} {x : Nat} : Rr X d MRm_frames 19 [.ref x, l1, l2, l3, l4, l5, l6, l7] st h = Rr X d MRm_frames 20 [.ref x, l1, l2, l3, l4, l5, l6, l7] (.ref x :: st) h := Rr_nx d_MRm_frames_19 rfl
theorem ff_10_92 : fF 10 92 = some (10, 55, 1, 1) := rfl
theorem r_MRm_frames_20 {a : Nat} (hq : (qR a 10 55).isSome = true) : Rr X d MRm_frames 20 L (.ref a :: st) (Wd mu la ro et) = Rr X d MRm_frames 23 L (.ref (qRd a 10 55) :: st) (Wd mu la ro et) := R_gfR d_MRm_frames_20 ff_10_92 hq
theorem r_MRm_frames_23 {l0 l2 l3 l4 l5 l6 l7 : Value} {x : Int32} : Rr X d MRm_frames 23 [l0, .int x, l2, l3, l4, l5, l6, l7] st h = Rr X d MRm_frames 24 [l0, .int x, l2, l3, l4, l5, l6, l7] (.int x :: st) h := Rr_nx d_MRm_frames_23 rfl
theorem r_MRm_frames_24 {a : Nat} {j : Int32} (hq : (qA a 0).isSome = true) : Rr X d MRm_frames 24 L (.int j :: .ref a :: st) (Wd mu la ro et) = if j < 0 ∨ qAd a 0 ≤ j.toNatClampNeg then none else Rr X d MRm_frames 25 L (.int (mu a j.toNatClampNeg) :: st) (Wd mu la ro et) := R_ialW d_MRm_frames_24 hq
theorem r_MRm_frames_25 : Rr X d MRm_frames 25 L st h = Rr X d MRm_frames 26 L (.int (-1) :: st) h := Rr_nx d_MRm_frames_25 rfl
theorem r_MRm_frames_26 {x y : Int32} : Rr X d MRm_frames 26 L (.int y :: .int x :: st) h = if x = y then Rr X d MRm_frames 43 L st h else Rr X d MRm_frames 29 L st h := R_ic_eq d_MRm_frames_26 (by decide)
theorem r_MRm_frames_29 {l1 l2 l3 l4 l5 l6 l7 : Value} {x : Nat} : Rr X d MRm_frames 29 [.ref x, l1, l2, l3, l4, l5, l6, l7] st h = Rr X d MRm_frames 30 [.ref x, l1, l2, l3, l4, l5, l6, l7] (.ref x :: st) h := Rr_nx d_MRm_frames_29 rfl
theorem r_MRm_frames_30 {a : Nat} (hq : (qR a 10 55).isSome = true) : Rr X d MRm_frames 30 L (.ref a :: st) (Wd mu la ro et) = Rr X d MRm_frames 33 L (.ref (qRd a 10 55) :: st) (Wd mu la ro et) := R_gfR d_MRm_frames_30 ff_10_92 hq
theorem r_MRm_frames_33 {l0 l2 l3 l4 l5 l6 l7 : Value} {x : Int32} : Rr X d MRm_frames 33 [l0, .int x, l2, l3, l4, l5, l6, l7] st h = Rr X d MRm_frames 34 [l0, .int x, l2, l3, l4, l5, l6, l7] (.int x :: st) h := Rr_nx d_MRm_frames_33 rfl
theorem r_MRm_frames_34 {a : Nat} {j : Int32} (hq : (qA a 0).isSome = true) : Rr X d MRm_frames 34 L (.int j :: .ref a :: st) (Wd mu la ro et) = if j < 0 ∨ qAd a 0 ≤ j.toNatClampNeg then none else Rr X d MRm_frames 35 L (.int (mu a j.toNatClampNeg) :: st) (Wd mu la ro et) := R_ialW d_MRm_frames_34 hq
theorem r_MRm_frames_35 : Rr X d MRm_frames 35 L st h = Rr X d MRm_frames 37 L (.int (-3) :: st) h := Rr_nx d_MRm_frames_35 rfl
theorem r_MRm_frames_37 {x y : Int32} : Rr X d MRm_frames 37 L (.int y :: .int x :: st) h = if x = y then Rr X d MRm_frames 43 L st h else Rr X d MRm_frames 40 L st h := R_ic_eq d_MRm_frames_37 (by decide)
theorem r_MRm_frames_40 : Rr X d MRm_frames 40 L st h = Rr X d MRm_frames 42 L (.int (-12) :: st) h := Rr_nx d_MRm_frames_40 rfl
theorem r_MRm_frames_42 {x : Int32} : Rr X d MRm_frames 42 L [.int x] h = some (some (.int x), h) := R_ir d_MRm_frames_42 rfl
theorem r_MRm_frames_43 {l1 l2 l3 l4 l5 l6 l7 : Value} {x : Nat} : Rr X d MRm_frames 43 [.ref x, l1, l2, l3, l4, l5, l6, l7] st h = Rr X d MRm_frames 44 [.ref x, l1, l2, l3, l4, l5, l6, l7] (.ref x :: st) h := Rr_nx d_MRm_frames_43 rfl
theorem r_MRm_frames_44 {a : Nat} (hq : (qR a 10 55).isSome = true) : Rr X d MRm_frames 44 L (.ref a :: st) (Wd mu la ro et) = Rr X d MRm_frames 47 L (.ref (qRd a 10 55) :: st) (Wd mu la ro et) := R_gfR d_MRm_frames_44 ff_10_92 hq
theorem r_MRm_frames_47 {l0 l2 l3 l4 l5 l6 l7 : Value} {x : Int32} : Rr X d MRm_frames 47 [l0, .int x, l2, l3, l4, l5, l6, l7] st h = Rr X d MRm_frames 48 [l0, .int x, l2, l3, l4, l5, l6, l7] (.int x :: st) h := Rr_nx d_MRm_frames_47 rfl
theorem r_MRm_frames_48 {a : Nat} {j : Int32} (hq : (qA a 0).isSome = true) : Rr X d MRm_frames 48 L (.int j :: .ref a :: st) (Wd mu la ro et) = if j < 0 ∨ qAd a 0 ≤ j.toNatClampNeg then none else Rr X d MRm_frames 49 L (.int (mu a j.toNatClampNeg) :: st) (Wd mu la ro et) := R_ialW d_MRm_frames_48 hq
theorem r_MRm_frames_49 : Rr X d MRm_frames 49 L st h = Rr X d MRm_frames 50 L (.int (-1) :: st) h := Rr_nx d_MRm_frames_49 rfl
theorem r_MRm_frames_50 {x y : Int32} : Rr X d MRm_frames 50 L (.int y :: .int x :: st) h = if ¬ x = y then Rr X d MRm_frames 55 L st h else Rr X d MRm_frames 53 L st h := R_ic_ne d_MRm_frames_50 (by decide)
theorem r_MRm_frames_53 : Rr X d MRm_frames 53 L st h = Rr X d MRm_frames 54 L (.int (0) :: st) h := Rr_nx d_MRm_frames_53 rfl
theorem r_MRm_frames_54 {x : Int32} : Rr X d MRm_frames 54 L [.int x] h = some (some (.int x), h) := R_ir d_MRm_frames_54 rfl
theorem r_MRm_frames_55 : Rr X d MRm_frames 55 L st h = Rr X d MRm_frames 56 L (.int (0) :: st) h := Rr_nx d_MRm_frames_55 rfl
theorem r_MRm_frames_56 {l0 l1 l2 l3 l4 l5 l6 l7 : Value} {x : Int32} : Rr X d MRm_frames 56 [l0, l1, l2, l3, l4, l5, l6, l7] (.int x :: st) h = Rr X d MRm_frames 58 (sL [l0, l1, l2, l3, l4, l5, l6, l7] 4 (.int x)) st h := Rr_nx d_MRm_frames_56 rfl
theorem r_MRm_frames_58 {l0 l1 l2 l3 l5 l6 l7 : Value} {x : Int32} : Rr X d MRm_frames 58 [l0, l1, l2, l3, .int x, l5, l6, l7] st h = Rr X d MRm_frames 60 [l0, l1, l2, l3, .int x, l5, l6, l7] (.int x :: st) h := Rr_nx d_MRm_frames_58 rfl
theorem r_MRm_frames_60 {l0 l1 l2 l4 l5 l6 l7 : Value} {x : Int32} : Rr X d MRm_frames 60 [l0, l1, l2, .int x, l4, l5, l6, l7] st h = Rr X d MRm_frames 61 [l0, l1, l2, .int x, l4, l5, l6, l7] (.int x :: st) h := Rr_nx d_MRm_frames_60 rfl
theorem r_MRm_frames_61 {x y : Int32} : Rr X d MRm_frames 61 L (.int y :: .int x :: st) h = if y ≤ x then Rr X d MRm_frames 174 L st h else Rr X d MRm_frames 64 L st h := R_ic_ge d_MRm_frames_61 (by decide)
theorem r_MRm_frames_64 {l0 l1 l3 l4 l5 l6 l7 : Value} {x : Int32} : Rr X d MRm_frames 64 [l0, l1, .int x, l3, l4, l5, l6, l7] st h = Rr X d MRm_frames 65 [l0, l1, .int x, l3, l4, l5, l6, l7] (.int x :: st) h := Rr_nx d_MRm_frames_64 rfl
theorem r_MRm_frames_65 {x : Int32} : Rr X d MRm_frames 65 L (.int x :: st) h = Rr X d MRm_frames 66 L (.long x.toInt64 :: st) h := Rr_nx d_MRm_frames_65 rfl
theorem r_MRm_frames_66 : Rr X d MRm_frames 66 L st h = Rr X d MRm_frames 67 L (.int (2) :: st) h := Rr_nx d_MRm_frames_66 rfl
theorem r_MRm_frames_67 {l0 l1 l2 l3 l5 l6 l7 : Value} {x : Int32} : Rr X d MRm_frames 67 [l0, l1, l2, l3, .int x, l5, l6, l7] st h = Rr X d MRm_frames 69 [l0, l1, l2, l3, .int x, l5, l6, l7] (.int x :: st) h := Rr_nx d_MRm_frames_67 rfl
theorem r_MRm_frames_69 {x y : Int32} : Rr X d MRm_frames 69 L (.int y :: .int x :: st) h = Rr X d MRm_frames 70 L (.int (x * y) :: st) h := Rr_nx d_MRm_frames_69 rfl
theorem r_MRm_frames_70 {x : Int32} : Rr X d MRm_frames 70 L (.int x :: st) h = Rr X d MRm_frames 71 L (.long x.toInt64 :: st) h := Rr_nx d_MRm_frames_70 rfl
theorem r_MRm_frames_71 {x y : Int64} : Rr X d MRm_frames 71 L (.long y :: .long x :: st) h = Rr X d MRm_frames 72 L (.long (x + y) :: st) h := Rr_nx d_MRm_frames_71 rfl
theorem r_MRm_frames_72 {l0 l1 l2 l3 l4 l5 l6 l7 : Value} {x : Int64} : Rr X d MRm_frames 72 [l0, l1, l2, l3, l4, l5, l6, l7] (.long x :: st) h = Rr X d MRm_frames 74 ((sL [l0, l1, l2, l3, l4, l5, l6, l7] 5 (.long x)).set 6 mkU) st h := Rr_nx d_MRm_frames_72 rfl
theorem r_MRm_frames_74 {l0 l1 l2 l3 l4 l6 l7 : Value} {x : Int64} : Rr X d MRm_frames 74 [l0, l1, l2, l3, l4, .long x, l6, l7] st h = Rr X d MRm_frames 76 [l0, l1, l2, l3, l4, .long x, l6, l7] (.long x :: st) h := Rr_nx d_MRm_frames_74 rfl
theorem r_MRm_frames_76 : Rr X d MRm_frames 76 L st h = Rr X d MRm_frames 77 L (.long 0 :: st) h := Rr_nx d_MRm_frames_76 rfl
theorem r_MRm_frames_77 {x y : Int64} : Rr X d MRm_frames 77 L (.long y :: .long x :: st) h = Rr X d MRm_frames 78 L (.int (lg_cmp x y) :: st) h := Rr_nx d_MRm_frames_77 rfl
theorem r_MRm_frames_78 {x : Int32} : Rr X d MRm_frames 78 L (.int x :: st) h = if x < 0 then Rr X d MRm_frames 105 L st h else Rr X d MRm_frames 81 L st h := R_if_lt d_MRm_frames_78 (by decide)
theorem r_MRm_frames_81 {l0 l1 l2 l3 l4 l6 l7 : Value} {x : Int64} : Rr X d MRm_frames 81 [l0, l1, l2, l3, l4, .long x, l6, l7] st h = Rr X d MRm_frames 83 [l0, l1, l2, l3, l4, .long x, l6, l7] (.long x :: st) h := Rr_nx d_MRm_frames_81 rfl
theorem r_MRm_frames_83 : Rr X d MRm_frames 83 L st h = Rr X d MRm_frames 84 L (.long 1 :: st) h := Rr_nx d_MRm_frames_83 rfl
theorem r_MRm_frames_84 {x y : Int64} : Rr X d MRm_frames 84 L (.long y :: .long x :: st) h = Rr X d MRm_frames 85 L (.long (x + y) :: st) h := Rr_nx d_MRm_frames_84 rfl
theorem r_MRm_frames_85 {l1 l2 l3 l4 l5 l6 l7 : Value} {x : Nat} : Rr X d MRm_frames 85 [.ref x, l1, l2, l3, l4, l5, l6, l7] st h = Rr X d MRm_frames 86 [.ref x, l1, l2, l3, l4, l5, l6, l7] (.ref x :: st) h := Rr_nx d_MRm_frames_85 rfl
theorem ff_10_95 : fF 10 95 = some (10, 56, 1, 1) := rfl
theorem r_MRm_frames_86 {a : Nat} (hq : (qR a 10 56).isSome = true) : Rr X d MRm_frames 86 L (.ref a :: st) (Wd mu la ro et) = Rr X d MRm_frames 89 L (.ref (qRd a 10 56) :: st) (Wd mu la ro et) := R_gfR d_MRm_frames_86 ff_10_95 hq
theorem r_MRm_frames_89 {l0 l2 l3 l4 l5 l6 l7 : Value} {x : Int32} : Rr X d MRm_frames 89 [l0, .int x, l2, l3, l4, l5, l6, l7] st h = Rr X d MRm_frames 90 [l0, .int x, l2, l3, l4, l5, l6, l7] (.int x :: st) h := Rr_nx d_MRm_frames_89 rfl
theorem r_MRm_frames_90 {a : Nat} {j : Int32} (hq : (qA a 0).isSome = true) : Rr X d MRm_frames 90 L (.int j :: .ref a :: st) (Wd mu la ro et) = if j < 0 ∨ qAd a 0 ≤ j.toNatClampNeg then none else Rr X d MRm_frames 91 L (.int (mu a j.toNatClampNeg) :: st) (Wd mu la ro et) := R_ialW d_MRm_frames_90 hq
theorem r_MRm_frames_91 {x : Int32} : Rr X d MRm_frames 91 L (.int x :: st) h = Rr X d MRm_frames 92 L (.long x.toInt64 :: st) h := Rr_nx d_MRm_frames_91 rfl
theorem r_MRm_frames_92 {x y : Int64} : Rr X d MRm_frames 92 L (.long y :: .long x :: st) h = Rr X d MRm_frames 93 L (.int (lg_cmp x y) :: st) h := Rr_nx d_MRm_frames_92 rfl
theorem r_MRm_frames_93 {x : Int32} : Rr X d MRm_frames 93 L (.int x :: st) h = if 0 ≤ x then Rr X d MRm_frames 105 L st h else Rr X d MRm_frames 96 L st h := R_if_ge d_MRm_frames_93 (by decide)
theorem r_MRm_frames_96 {l1 l2 l3 l4 l5 l6 l7 : Value} {x : Nat} : Rr X d MRm_frames 96 [.ref x, l1, l2, l3, l4, l5, l6, l7] st h = Rr X d MRm_frames 97 [.ref x, l1, l2, l3, l4, l5, l6, l7] (.ref x :: st) h := Rr_nx d_MRm_frames_96 rfl
theorem r_MRm_frames_97 {a : Nat} (hq : qI a 10 47 = true) : Rr X d MRm_frames 97 L (.ref a :: st) (Wd mu la ro et) = Rr X d MRm_frames 100 L (.int (mu a 47) :: st) (Wd mu la ro et) := R_gfI d_MRm_frames_97 ff_10_339 hq
theorem r_MRm_frames_100 : Rr X d MRm_frames 100 L st h = Rr X d MRm_frames 102 L (.int (40) :: st) h := Rr_nx d_MRm_frames_100 rfl
theorem r_MRm_frames_102 {x y : Int32} : Rr X d MRm_frames 102 L (.int y :: .int x :: st) h = if ¬ x = y then Rr X d MRm_frames 108 L st h else Rr X d MRm_frames 105 L st h := R_ic_ne d_MRm_frames_102 (by decide)
theorem r_MRm_frames_105 {l0 l1 l2 l3 l5 l6 l7 : Value} {x : Int32} : Rr X d MRm_frames 105 [l0, l1, l2, l3, .int x, l5, l6, l7] st h = Rr X d MRm_frames 107 [l0, l1, l2, l3, .int x, l5, l6, l7] (.int x :: st) h := Rr_nx d_MRm_frames_105 rfl
theorem r_MRm_frames_107 {x : Int32} : Rr X d MRm_frames 107 L [.int x] h = some (some (.int x), h) := R_ir d_MRm_frames_107 rfl
theorem r_MRm_frames_108 : Rr X d MRm_frames 108 L st h = Rr X d MRm_frames 110 L (.int (60) :: st) h := Rr_nx d_MRm_frames_108 rfl
theorem r_MRm_frames_110 {l0 l2 l3 l4 l5 l6 l7 : Value} {x : Int32} : Rr X d MRm_frames 110 [l0, .int x, l2, l3, l4, l5, l6, l7] st h = Rr X d MRm_frames 111 [l0, .int x, l2, l3, l4, l5, l6, l7] (.int x :: st) h := Rr_nx d_MRm_frames_110 rfl
theorem r_MRm_frames_111 {x y : Int32} : Rr X d MRm_frames 111 L (.int y :: .int x :: st) h = Rr X d MRm_frames 112 L (.int (x * y) :: st) h := Rr_nx d_MRm_frames_111 rfl
theorem r_MRm_frames_112 {l0 l1 l2 l3 l4 l6 l7 : Value} {x : Int64} : Rr X d MRm_frames 112 [l0, l1, l2, l3, l4, .long x, l6, l7] st h = Rr X d MRm_frames 114 [l0, l1, l2, l3, l4, .long x, l6, l7] (.long x :: st) h := Rr_nx d_MRm_frames_112 rfl
theorem r_MRm_frames_114 {x : Int64} : Rr X d MRm_frames 114 L (.long x :: st) h = Rr X d MRm_frames 115 L (.int x.toInt32 :: st) h := Rr_nx d_MRm_frames_114 rfl
theorem r_MRm_frames_115 {x y : Int32} : Rr X d MRm_frames 115 L (.int y :: .int x :: st) h = Rr X d MRm_frames 116 L (.int (x + y) :: st) h := Rr_nx d_MRm_frames_115 rfl
theorem r_MRm_frames_116 {l0 l1 l2 l3 l4 l5 l6 l7 : Value} {x : Int32} : Rr X d MRm_frames 116 [l0, l1, l2, l3, l4, l5, l6, l7] (.int x :: st) h = Rr X d MRm_frames 118 (sL [l0, l1, l2, l3, l4, l5, l6, l7] 7 (.int x)) st h := Rr_nx d_MRm_frames_116 rfl
theorem r_MRm_frames_118 {l1 l2 l3 l4 l5 l6 l7 : Value} {x : Nat} : Rr X d MRm_frames 118 [.ref x, l1, l2, l3, l4, l5, l6, l7] st h = Rr X d MRm_frames 119 [.ref x, l1, l2, l3, l4, l5, l6, l7] (.ref x :: st) h := Rr_nx d_MRm_frames_118 rfl
theorem r_MRm_frames_119 {l1 l2 l3 l4 l5 l6 l7 : Value} {x : Nat} : Rr X d MRm_frames 119 [.ref x, l1, l2, l3, l4, l5, l6, l7] st h = Rr X d MRm_frames 120 [.ref x, l1, l2, l3, l4, l5, l6, l7] (.ref x :: st) h := Rr_nx d_MRm_frames_119 rfl
theorem ff_10_98 : fF 10 98 = some (10, 57, 1, 1) := rfl
theorem r_MRm_frames_120 {a : Nat} (hq : (qR a 10 57).isSome = true) : Rr X d MRm_frames 120 L (.ref a :: st) (Wd mu la ro et) = Rr X d MRm_frames 123 L (.ref (qRd a 10 57) :: st) (Wd mu la ro et) := R_gfR d_MRm_frames_120 ff_10_98 hq
theorem r_MRm_frames_123 {l0 l1 l2 l3 l4 l5 l6 : Value} {x : Int32} : Rr X d MRm_frames 123 [l0, l1, l2, l3, l4, l5, l6, .int x] st h = Rr X d MRm_frames 125 [l0, l1, l2, l3, l4, l5, l6, .int x] (.int x :: st) h := Rr_nx d_MRm_frames_123 rfl
theorem r_MRm_frames_125 {a : Nat} {j : Int32} (hq : (qJ a).isSome = true) : Rr X d MRm_frames 125 L (.int j :: .ref a :: st) (Wd mu la ro et) = if j < 0 ∨ qJd a ≤ j.toNatClampNeg then none else Rr X d MRm_frames 126 L (.long (la a j.toNatClampNeg) :: st) (Wd mu la ro et) := R_lalW d_MRm_frames_125 hq
theorem r_MRm_frames_126 {x : Int64} : Rr X d MRm_frames 126 L (.long x :: st) h = Rr X d MRm_frames 127 L (.int x.toInt32 :: st) h := Rr_nx d_MRm_frames_126 rfl
theorem r_MRm_frames_127 {l1 l2 l3 l4 l5 l6 l7 : Value} {x : Nat} : Rr X d MRm_frames 127 [.ref x, l1, l2, l3, l4, l5, l6, l7] st h = Rr X d MRm_frames 128 [.ref x, l1, l2, l3, l4, l5, l6, l7] (.ref x :: st) h := Rr_nx d_MRm_frames_127 rfl
theorem r_MRm_frames_128 {a : Nat} (hq : (qR a 10 57).isSome = true) : Rr X d MRm_frames 128 L (.ref a :: st) (Wd mu la ro et) = Rr X d MRm_frames 131 L (.ref (qRd a 10 57) :: st) (Wd mu la ro et) := R_gfR d_MRm_frames_128 ff_10_98 hq
theorem r_MRm_frames_131 {l0 l1 l2 l3 l4 l5 l6 : Value} {x : Int32} : Rr X d MRm_frames 131 [l0, l1, l2, l3, l4, l5, l6, .int x] st h = Rr X d MRm_frames 133 [l0, l1, l2, l3, l4, l5, l6, .int x] (.int x :: st) h := Rr_nx d_MRm_frames_131 rfl
theorem r_MRm_frames_133 : Rr X d MRm_frames 133 L st h = Rr X d MRm_frames 134 L (.int (1) :: st) h := Rr_nx d_MRm_frames_133 rfl
theorem r_MRm_frames_134 {x y : Int32} : Rr X d MRm_frames 134 L (.int y :: .int x :: st) h = Rr X d MRm_frames 135 L (.int (x + y) :: st) h := Rr_nx d_MRm_frames_134 rfl
theorem r_MRm_frames_135 {a : Nat} {j : Int32} (hq : (qJ a).isSome = true) : Rr X d MRm_frames 135 L (.int j :: .ref a :: st) (Wd mu la ro et) = if j < 0 ∨ qJd a ≤ j.toNatClampNeg then none else Rr X d MRm_frames 136 L (.long (la a j.toNatClampNeg) :: st) (Wd mu la ro et) := R_lalW d_MRm_frames_135 hq
theorem r_MRm_frames_136 {x : Int64} : Rr X d MRm_frames 136 L (.long x :: st) h = Rr X d MRm_frames 137 L (.int x.toInt32 :: st) h := Rr_nx d_MRm_frames_136 rfl
theorem r_MRm_frames_137 {y0 : Int32} {y1 : Int32} {a : Nat} (hO : qO a 10 = true) (hc : ckS st = true) : Rr X (d + 1) MRm_frames 137 L (.int y1 :: .int y0 :: .ref a :: st) (Wd mu la ro et) = (Rr X d MRm_isFrame 0 [.ref a, .int y0, .int y1] [] (Wd mu la ro et)).bind fun q => Rr X (d + 1) MRm_frames 140 L (psh q.1 st) q.2 := R_iv (av := [.int y1, .int y0]) d_MRm_frames_137 fc_10_342 hO (ckS_le hc) rfl (Nat.le_of_ble_eq_true rfl) (Nat.le_of_ble_eq_true rfl)
theorem r_MRm_frames_140 {x : Int32} : Rr X d MRm_frames 140 L (.int x :: st) h = if ¬ x = 0 then Rr X d MRm_frames 146 L st h else Rr X d MRm_frames 143 L st h := R_if_ne d_MRm_frames_140 (by decide)
theorem r_MRm_frames_143 {l0 l1 l2 l3 l5 l6 l7 : Value} {x : Int32} : Rr X d MRm_frames 143 [l0, l1, l2, l3, .int x, l5, l6, l7] st h = Rr X d MRm_frames 145 [l0, l1, l2, l3, .int x, l5, l6, l7] (.int x :: st) h := Rr_nx d_MRm_frames_143 rfl
theorem r_MRm_frames_145 {x : Int32} : Rr X d MRm_frames 145 L [.int x] h = some (some (.int x), h) := R_ir d_MRm_frames_145 rfl
theorem r_MRm_frames_146 {l1 l2 l3 l4 l5 l6 l7 : Value} {x : Nat} : Rr X d MRm_frames 146 [.ref x, l1, l2, l3, l4, l5, l6, l7] st h = Rr X d MRm_frames 147 [.ref x, l1, l2, l3, l4, l5, l6, l7] (.ref x :: st) h := Rr_nx d_MRm_frames_146 rfl
theorem r_MRm_frames_147 {l1 l2 l3 l4 l5 l6 l7 : Value} {x : Nat} : Rr X d MRm_frames 147 [.ref x, l1, l2, l3, l4, l5, l6, l7] st h = Rr X d MRm_frames 148 [.ref x, l1, l2, l3, l4, l5, l6, l7] (.ref x :: st) h := Rr_nx d_MRm_frames_147 rfl
theorem r_MRm_frames_148 {a : Nat} (hq : (qR a 10 57).isSome = true) : Rr X d MRm_frames 148 L (.ref a :: st) (Wd mu la ro et) = Rr X d MRm_frames 151 L (.ref (qRd a 10 57) :: st) (Wd mu la ro et) := R_gfR d_MRm_frames_148 ff_10_98 hq
theorem r_MRm_frames_151 {l0 l1 l2 l3 l4 l5 l6 : Value} {x : Int32} : Rr X d MRm_frames 151 [l0, l1, l2, l3, l4, l5, l6, .int x] st h = Rr X d MRm_frames 153 [l0, l1, l2, l3, l4, l5, l6, .int x] (.int x :: st) h := Rr_nx d_MRm_frames_151 rfl
theorem r_MRm_frames_153 {a : Nat} {j : Int32} (hq : (qJ a).isSome = true) : Rr X d MRm_frames 153 L (.int j :: .ref a :: st) (Wd mu la ro et) = if j < 0 ∨ qJd a ≤ j.toNatClampNeg then none else Rr X d MRm_frames 154 L (.long (la a j.toNatClampNeg) :: st) (Wd mu la ro et) := R_lalW d_MRm_frames_153 hq
theorem r_MRm_frames_154 {x : Int64} : Rr X d MRm_frames 154 L (.long x :: st) h = Rr X d MRm_frames 155 L (.int x.toInt32 :: st) h := Rr_nx d_MRm_frames_154 rfl
theorem r_MRm_frames_155 {l1 l2 l3 l4 l5 l6 l7 : Value} {x : Nat} : Rr X d MRm_frames 155 [.ref x, l1, l2, l3, l4, l5, l6, l7] st h = Rr X d MRm_frames 156 [.ref x, l1, l2, l3, l4, l5, l6, l7] (.ref x :: st) h := Rr_nx d_MRm_frames_155 rfl
theorem r_MRm_frames_156 {a : Nat} (hq : (qR a 10 57).isSome = true) : Rr X d MRm_frames 156 L (.ref a :: st) (Wd mu la ro et) = Rr X d MRm_frames 159 L (.ref (qRd a 10 57) :: st) (Wd mu la ro et) := R_gfR d_MRm_frames_156 ff_10_98 hq
theorem r_MRm_frames_159 {l0 l1 l2 l3 l4 l5 l6 : Value} {x : Int32} : Rr X d MRm_frames 159 [l0, l1, l2, l3, l4, l5, l6, .int x] st h = Rr X d MRm_frames 161 [l0, l1, l2, l3, l4, l5, l6, .int x] (.int x :: st) h := Rr_nx d_MRm_frames_159 rfl
theorem r_MRm_frames_161 : Rr X d MRm_frames 161 L st h = Rr X d MRm_frames 162 L (.int (1) :: st) h := Rr_nx d_MRm_frames_161 rfl
theorem r_MRm_frames_162 {x y : Int32} : Rr X d MRm_frames 162 L (.int y :: .int x :: st) h = Rr X d MRm_frames 163 L (.int (x + y) :: st) h := Rr_nx d_MRm_frames_162 rfl
theorem r_MRm_frames_163 {a : Nat} {j : Int32} (hq : (qJ a).isSome = true) : Rr X d MRm_frames 163 L (.int j :: .ref a :: st) (Wd mu la ro et) = if j < 0 ∨ qJd a ≤ j.toNatClampNeg then none else Rr X d MRm_frames 164 L (.long (la a j.toNatClampNeg) :: st) (Wd mu la ro et) := R_lalW d_MRm_frames_163 hq
theorem r_MRm_frames_164 {x : Int64} : Rr X d MRm_frames 164 L (.long x :: st) h = Rr X d MRm_frames 165 L (.int x.toInt32 :: st) h := Rr_nx d_MRm_frames_164 rfl
theorem r_MRm_frames_165 {y0 : Int32} {y1 : Int32} {a : Nat} (hO : qO a 10 = true) (hc : ckS st = true) : Rr X (d + 1) MRm_frames 165 L (.int y1 :: .int y0 :: .ref a :: st) (Wd mu la ro et) = (Rr X d MRm_addFrame 0 [.ref a, .int y0, .int y1] [] (Wd mu la ro et)).bind fun q => Rr X (d + 1) MRm_frames 168 L (psh q.1 st) q.2 := R_iv (av := [.int y1, .int y0]) d_MRm_frames_165 fc_10_345 hO (ckS_le hc) rfl (Nat.le_of_ble_eq_true rfl) (Nat.le_of_ble_eq_true rfl)
theorem r_MRm_frames_168 {l0 l1 l2 l3 l5 l6 l7 : Value} {x : Int32} : Rr X d MRm_frames 168 [l0, l1, l2, l3, .int x, l5, l6, l7] st h = Rr X d MRm_frames 171 (sL [l0, l1, l2, l3, .int x, l5, l6, l7] 4 (.int (x + (1)))) st h := Rr_nx d_MRm_frames_168 rfl
theorem r_MRm_frames_171 : Rr X d MRm_frames 171 L st h = Rr X d MRm_frames 58 L st h := R_goto d_MRm_frames_171 (by decide)
theorem r_MRm_frames_174 {l0 l1 l2 l4 l5 l6 l7 : Value} {x : Int32} : Rr X d MRm_frames 174 [l0, l1, l2, .int x, l4, l5, l6, l7] st h = Rr X d MRm_frames 175 [l0, l1, l2, .int x, l4, l5, l6, l7] (.int x :: st) h := Rr_nx d_MRm_frames_174 rfl
theorem r_MRm_frames_175 {x : Int32} : Rr X d MRm_frames 175 L [.int x] h = some (some (.int x), h) := R_ir d_MRm_frames_175 rfl
theorem d_MRm_cut_0 : decode MRm_cut.2.2.1 0 = .ok (.aload_n 0, 1) := by decide +kernel
theorem d_MRm_cut_1 : decode MRm_cut.2.2.1 1 = .ok (.getfield 339, 3) := by decide +kernel
theorem d_MRm_cut_4 : decode MRm_cut.2.2.1 4 = .ok (.istore_n 1, 1) := by decide +kernel
theorem d_MRm_cut_5 : decode MRm_cut.2.2.1 5 = .ok (.aload_n 0, 1) := by decide +kernel
theorem d_MRm_cut_6 : decode MRm_cut.2.2.1 6 = .ok (.iconst 0, 1) := by decide +kernel
theorem d_MRm_cut_7 : decode MRm_cut.2.2.1 7 = .ok (.putfield 339, 3) := by decide +kernel
theorem d_MRm_cut_10 : decode MRm_cut.2.2.1 10 = .ok (.iload_n 1, 1) := by decide +kernel
theorem d_MRm_cut_11 : decode MRm_cut.2.2.1 11 = .ok (.ireturn, 1) := by decide +kernel
theorem r_MRm_cut_0 {l1 : Value} {x : Nat} : Rr X d MRm_cut 0 [.ref x, l1] st h = Rr X d MRm_cut 1 [.ref x, l1] (.ref x :: st) h := Rr_nx d_MRm_cut_0 rfl
theorem r_MRm_cut_1 {a : Nat} (hq : qI a 10 47 = true) : Rr X d MRm_cut 1 L (.ref a :: st) (Wd mu la ro et) = Rr X d MRm_cut 4 L (.int (mu a 47) :: st) (Wd mu la ro et) := R_gfI d_MRm_cut_1 ff_10_339 hq
theorem r_MRm_cut_4 {l0 l1 : Value} {x : Int32} : Rr X d MRm_cut 4 [l0, l1] (.int x :: st) h = Rr X d MRm_cut 5 (sL [l0, l1] 1 (.int x)) st h := Rr_nx d_MRm_cut_4 rfl
theorem r_MRm_cut_5 {l1 : Value} {x : Nat} : Rr X d MRm_cut 5 [.ref x, l1] st h = Rr X d MRm_cut 6 [.ref x, l1] (.ref x :: st) h := Rr_nx d_MRm_cut_5 rfl
theorem r_MRm_cut_6 : Rr X d MRm_cut 6 L st h = Rr X d MRm_cut 7 L (.int (0) :: st) h := Rr_nx d_MRm_cut_6 rfl
theorem r_MRm_cut_7 {a : Nat} {x : Int32} (hq : qI a 10 47 = true) : Rr X d MRm_cut 7 L (.int x :: .ref a :: st) (Wd mu la ro et) = Rr X d MRm_cut 10 L st (Wd (up2 mu a 47 x) la ro et) := R_pfI d_MRm_cut_7 ff_10_339 hq
theorem r_MRm_cut_10 {l0 : Value} {x : Int32} : Rr X d MRm_cut 10 [l0, .int x] st h = Rr X d MRm_cut 11 [l0, .int x] (.int x :: st) h := Rr_nx d_MRm_cut_10 rfl
theorem r_MRm_cut_11 {x : Int32} : Rr X d MRm_cut 11 L [.int x] h = some (some (.int x), h) := R_ir d_MRm_cut_11 rfl
theorem d_MRm_off_0 : decode MRm_off.2.2.1 0 = .ok (.aload_n 0, 1) := by decide +kernel
theorem d_MRm_off_1 : decode MRm_off.2.2.1 1 = .ok (.iload_n 1, 1) := by decide +kernel
theorem d_MRm_off_2 : decode MRm_off.2.2.1 2 = .ok (.invokevirtual 287, 3) := by decide +kernel
theorem d_MRm_off_5 : decode MRm_off.2.2.1 5 = .ok (.ifCond .eq 22, 3) := by decide +kernel
theorem d_MRm_off_8 : decode MRm_off.2.2.1 8 = .ok (.iconst 0, 1) := by decide +kernel
theorem d_MRm_off_9 : decode MRm_off.2.2.1 9 = .ok (.iload_n 2, 1) := by decide +kernel
theorem d_MRm_off_10 : decode MRm_off.2.2.1 10 = .ok (.invokestatic 290, 3) := by decide +kernel
theorem d_MRm_off_13 : decode MRm_off.2.2.1 13 = .ok (.ifCond .eq 14, 3) := by decide +kernel
theorem d_MRm_off_16 : decode MRm_off.2.2.1 16 = .ok (.iload_n 3, 1) := by decide +kernel
theorem d_MRm_off_17 : decode MRm_off.2.2.1 17 = .ok (.bipush (-9), 2) := by decide +kernel
theorem d_MRm_off_19 : decode MRm_off.2.2.1 19 = .ok (.bipush 9, 2) := by decide +kernel
theorem d_MRm_off_21 : decode MRm_off.2.2.1 21 = .ok (.invokestatic 107, 3) := by decide +kernel
theorem d_MRm_off_24 : decode MRm_off.2.2.1 24 = .ok (.ifCond .ne 5, 3) := by decide +kernel
theorem d_MRm_off_27 : decode MRm_off.2.2.1 27 = .ok (.iconst (-1), 1) := by decide +kernel
theorem d_MRm_off_28 : decode MRm_off.2.2.1 28 = .ok (.ireturn, 1) := by decide +kernel
theorem d_MRm_off_29 : decode MRm_off.2.2.1 29 = .ok (.aload_n 0, 1) := by decide +kernel
theorem d_MRm_off_30 : decode MRm_off.2.2.1 30 = .ok (.getfield 339, 3) := by decide +kernel
theorem d_MRm_off_33 : decode MRm_off.2.2.1 33 = .ok (.ifCond .ne 8, 3) := by decide +kernel
theorem d_MRm_off_36 : decode MRm_off.2.2.1 36 = .ok (.bipush (-5), 2) := by decide +kernel
theorem d_MRm_off_38 : decode MRm_off.2.2.1 38 = .ok (.goto 17, 3) := by decide +kernel
theorem d_MRm_off_41 : decode MRm_off.2.2.1 41 = .ok (.aload_n 0, 1) := by decide +kernel
theorem d_MRm_off_42 : decode MRm_off.2.2.1 42 = .ok (.iload_n 1, 1) := by decide +kernel
theorem d_MRm_off_43 : decode MRm_off.2.2.1 43 = .ok (.bipush 10, 2) := by decide +kernel
theorem d_MRm_off_45 : decode MRm_off.2.2.1 45 = .ok (.idiv, 1) := by decide +kernel
theorem d_MRm_off_46 : decode MRm_off.2.2.1 46 = .ok (.iload_n 3, 1) := by decide +kernel
theorem d_MRm_off_47 : decode MRm_off.2.2.1 47 = .ok (.iload_n 1, 1) := by decide +kernel
theorem d_MRm_off_48 : decode MRm_off.2.2.1 48 = .ok (.bipush 10, 2) := by decide +kernel
theorem d_MRm_off_50 : decode MRm_off.2.2.1 50 = .ok (.irem, 1) := by decide +kernel
theorem d_MRm_off_51 : decode MRm_off.2.2.1 51 = .ok (.iload_n 2, 1) := by decide +kernel
theorem d_MRm_off_52 : decode MRm_off.2.2.1 52 = .ok (.invokevirtual 351, 3) := by decide +kernel
theorem d_MRm_off_55 : decode MRm_off.2.2.1 55 = .ok (.ireturn, 1) := by decide +kernel
theorem r_MRm_off_0 {l1 l2 l3 : Value} {x : Nat} : Rr X d MRm_off 0 [.ref x, l1, l2, l3] st h = Rr X d MRm_off 1 [.ref x, l1, l2, l3] (.ref x :: st) h := Rr_nx d_MRm_off_0 rfl
theorem r_MRm_off_1 {l0 l2 l3 : Value} {x : Int32} : Rr X d MRm_off 1 [l0, .int x, l2, l3] st h = Rr X d MRm_off 2 [l0, .int x, l2, l3] (.int x :: st) h := Rr_nx d_MRm_off_1 rfl
theorem r_MRm_off_2 {y0 : Int32} {a : Nat} (hO : qO a 10 = true) (hc : ckS st = true) : Rr X (d + 1) MRm_off 2 L (.int y0 :: .ref a :: st) (Wd mu la ro et) = (Rr X d MRm_isGoing 0 [.ref a, .int y0] [] (Wd mu la ro et)).bind fun q => Rr X (d + 1) MRm_off 5 L (psh q.1 st) q.2 := R_iv (av := [.int y0]) d_MRm_off_2 fc_10_287 hO (ckS_le hc) rfl (Nat.le_of_ble_eq_true rfl) (Nat.le_of_ble_eq_true rfl)
theorem r_MRm_off_5 {x : Int32} : Rr X d MRm_off 5 L (.int x :: st) h = if x = 0 then Rr X d MRm_off 27 L st h else Rr X d MRm_off 8 L st h := R_if_eq d_MRm_off_5 (by decide)
theorem r_MRm_off_8 : Rr X d MRm_off 8 L st h = Rr X d MRm_off 9 L (.int (0) :: st) h := Rr_nx d_MRm_off_8 rfl
theorem r_MRm_off_9 {l0 l1 l3 : Value} {x : Int32} : Rr X d MRm_off 9 [l0, l1, .int x, l3] st h = Rr X d MRm_off 10 [l0, l1, .int x, l3] (.int x :: st) h := Rr_nx d_MRm_off_9 rfl
theorem r_MRm_off_10 {y0 : Int32} {y1 : Int32} (hc : ckS st = true) : Rr X (d + 1) MRm_off 10 L (.int y1 :: .int y0 :: st) h = (Rr X d MRm_isStart 0 [.int y0, .int y1] [] h).bind fun q => Rr X (d + 1) MRm_off 13 L (psh q.1 st) q.2 := R_is (av := [.int y1, .int y0]) d_MRm_off_10 (Or.inl fc_10_290) (ckS_le hc) rfl (Nat.le_of_ble_eq_true rfl) (Nat.le_of_ble_eq_true rfl)
theorem r_MRm_off_13 {x : Int32} : Rr X d MRm_off 13 L (.int x :: st) h = if x = 0 then Rr X d MRm_off 27 L st h else Rr X d MRm_off 16 L st h := R_if_eq d_MRm_off_13 (by decide)
theorem r_MRm_off_16 {l0 l1 l2 : Value} {x : Int32} : Rr X d MRm_off 16 [l0, l1, l2, .int x] st h = Rr X d MRm_off 17 [l0, l1, l2, .int x] (.int x :: st) h := Rr_nx d_MRm_off_16 rfl
theorem r_MRm_off_17 : Rr X d MRm_off 17 L st h = Rr X d MRm_off 19 L (.int (-9) :: st) h := Rr_nx d_MRm_off_17 rfl
theorem r_MRm_off_19 : Rr X d MRm_off 19 L st h = Rr X d MRm_off 21 L (.int (9) :: st) h := Rr_nx d_MRm_off_19 rfl
theorem r_MRm_off_21 {y0 : Int32} {y1 : Int32} {y2 : Int32} (hc : ckS st = true) : Rr X (d + 1) MRm_off 21 L (.int y2 :: .int y1 :: .int y0 :: st) h = (Rr X d MRm_in 0 [.int y0, .int y1, .int y2] [] h).bind fun q => Rr X (d + 1) MRm_off 24 L (psh q.1 st) q.2 := R_is (av := [.int y2, .int y1, .int y0]) d_MRm_off_21 (Or.inl fc_10_107) (ckS_le hc) rfl (Nat.le_of_ble_eq_true rfl) (Nat.le_of_ble_eq_true rfl)
theorem r_MRm_off_24 {x : Int32} : Rr X d MRm_off 24 L (.int x :: st) h = if ¬ x = 0 then Rr X d MRm_off 29 L st h else Rr X d MRm_off 27 L st h := R_if_ne d_MRm_off_24 (by decide)
theorem r_MRm_off_27 : Rr X d MRm_off 27 L st h = Rr X d MRm_off 28 L (.int (-1) :: st) h := Rr_nx d_MRm_off_27 rfl
theorem r_MRm_off_28 {x : Int32} : Rr X d MRm_off 28 L [.int x] h = some (some (.int x), h) := R_ir d_MRm_off_28 rfl
theorem r_MRm_off_29 {l1 l2 l3 : Value} {x : Nat} : Rr X d MRm_off 29 [.ref x, l1, l2, l3] st h = Rr X d MRm_off 30 [.ref x, l1, l2, l3] (.ref x :: st) h := Rr_nx d_MRm_off_29 rfl
theorem r_MRm_off_30 {a : Nat} (hq : qI a 10 47 = true) : Rr X d MRm_off 30 L (.ref a :: st) (Wd mu la ro et) = Rr X d MRm_off 33 L (.int (mu a 47) :: st) (Wd mu la ro et) := R_gfI d_MRm_off_30 ff_10_339 hq
theorem r_MRm_off_33 {x : Int32} : Rr X d MRm_off 33 L (.int x :: st) h = if ¬ x = 0 then Rr X d MRm_off 41 L st h else Rr X d MRm_off 36 L st h := R_if_ne d_MRm_off_33 (by decide)
theorem r_MRm_off_36 : Rr X d MRm_off 36 L st h = Rr X d MRm_off 38 L (.int (-5) :: st) h := Rr_nx d_MRm_off_36 rfl
theorem r_MRm_off_38 : Rr X d MRm_off 38 L st h = Rr X d MRm_off 55 L st h := R_goto d_MRm_off_38 (by decide)
theorem r_MRm_off_41 {l1 l2 l3 : Value} {x : Nat} : Rr X d MRm_off 41 [.ref x, l1, l2, l3] st h = Rr X d MRm_off 42 [.ref x, l1, l2, l3] (.ref x :: st) h := Rr_nx d_MRm_off_41 rfl
theorem r_MRm_off_42 {l0 l2 l3 : Value} {x : Int32} : Rr X d MRm_off 42 [l0, .int x, l2, l3] st h = Rr X d MRm_off 43 [l0, .int x, l2, l3] (.int x :: st) h := Rr_nx d_MRm_off_42 rfl
theorem r_MRm_off_43 : Rr X d MRm_off 43 L st h = Rr X d MRm_off 45 L (.int (10) :: st) h := Rr_nx d_MRm_off_43 rfl
theorem r_MRm_off_45 {x y : Int32} : Rr X d MRm_off 45 L (.int y :: .int x :: st) h = if y = 0 then none else Rr X d MRm_off 46 L (.int (x / y) :: st) h := R_dv d_MRm_off_45
theorem r_MRm_off_46 {l0 l1 l2 : Value} {x : Int32} : Rr X d MRm_off 46 [l0, l1, l2, .int x] st h = Rr X d MRm_off 47 [l0, l1, l2, .int x] (.int x :: st) h := Rr_nx d_MRm_off_46 rfl
theorem r_MRm_off_47 {l0 l2 l3 : Value} {x : Int32} : Rr X d MRm_off 47 [l0, .int x, l2, l3] st h = Rr X d MRm_off 48 [l0, .int x, l2, l3] (.int x :: st) h := Rr_nx d_MRm_off_47 rfl
theorem r_MRm_off_48 : Rr X d MRm_off 48 L st h = Rr X d MRm_off 50 L (.int (10) :: st) h := Rr_nx d_MRm_off_48 rfl
theorem r_MRm_off_50 {x y : Int32} : Rr X d MRm_off 50 L (.int y :: .int x :: st) h = if y = 0 then none else Rr X d MRm_off 51 L (.int (x - x / y * y) :: st) h := R_rm d_MRm_off_50
theorem r_MRm_off_51 {l0 l1 l3 : Value} {x : Int32} : Rr X d MRm_off 51 [l0, l1, .int x, l3] st h = Rr X d MRm_off 52 [l0, l1, .int x, l3] (.int x :: st) h := Rr_nx d_MRm_off_51 rfl
theorem fc_10_351 : fC 10 351 = some (0, 10, 4, MRm_offBy) := rfl
theorem r_MRm_off_52 {y0 : Int32} {y1 : Int32} {y2 : Int32} {y3 : Int32} {a : Nat} (hO : qO a 10 = true) (hc : ckS st = true) : Rr X (d + 1) MRm_off 52 L (.int y3 :: .int y2 :: .int y1 :: .int y0 :: .ref a :: st) (Wd mu la ro et) = (Rr X d MRm_offBy 0 [.ref a, .int y0, .int y1, .int y2, .int y3, mkU, mkU, mkU] [] (Wd mu la ro et)).bind fun q => Rr X (d + 1) MRm_off 55 L (psh q.1 st) q.2 := R_iv (av := [.int y3, .int y2, .int y1, .int y0]) d_MRm_off_52 fc_10_351 hO (ckS_le hc) rfl (Nat.le_of_ble_eq_true rfl) (Nat.le_of_ble_eq_true rfl)
theorem r_MRm_off_55 {x : Int32} : Rr X d MRm_off 55 L [.int x] h = some (some (.int x), h) := R_ir d_MRm_off_55 rfl
theorem d_MRm_shape_0 : decode MRm_shape.2.2.1 0 = .ok (.aload_n 0, 1) := by decide +kernel
theorem d_MRm_shape_1 : decode MRm_shape.2.2.1 1 = .ok (.iload_n 1, 1) := by decide +kernel
theorem d_MRm_shape_2 : decode MRm_shape.2.2.1 2 = .ok (.invokevirtual 287, 3) := by decide +kernel
theorem d_MRm_shape_5 : decode MRm_shape.2.2.1 5 = .ok (.ifCond .eq 20, 3) := by decide +kernel
theorem d_MRm_shape_8 : decode MRm_shape.2.2.1 8 = .ok (.iconst 0, 1) := by decide +kernel
theorem d_MRm_shape_9 : decode MRm_shape.2.2.1 9 = .ok (.iload_n 2, 1) := by decide +kernel
theorem d_MRm_shape_10 : decode MRm_shape.2.2.1 10 = .ok (.invokestatic 290, 3) := by decide +kernel
theorem d_MRm_shape_13 : decode MRm_shape.2.2.1 13 = .ok (.ifCond .eq 12, 3) := by decide +kernel
theorem d_MRm_shape_16 : decode MRm_shape.2.2.1 16 = .ok (.iload_n 3, 1) := by decide +kernel
theorem d_MRm_shape_17 : decode MRm_shape.2.2.1 17 = .ok (.iconst 0, 1) := by decide +kernel
theorem d_MRm_shape_18 : decode MRm_shape.2.2.1 18 = .ok (.iconst 1, 1) := by decide +kernel
theorem d_MRm_shape_19 : decode MRm_shape.2.2.1 19 = .ok (.invokestatic 107, 3) := by decide +kernel
theorem d_MRm_shape_22 : decode MRm_shape.2.2.1 22 = .ok (.ifCond .ne 6, 3) := by decide +kernel
theorem d_MRm_shape_25 : decode MRm_shape.2.2.1 25 = .ok (.ldc 176, 2) := by decide +kernel
theorem d_MRm_shape_27 : decode MRm_shape.2.2.1 27 = .ok (.ireturn, 1) := by decide +kernel
theorem d_MRm_shape_28 : decode MRm_shape.2.2.1 28 = .ok (.aload_n 0, 1) := by decide +kernel
theorem d_MRm_shape_29 : decode MRm_shape.2.2.1 29 = .ok (.getfield 339, 3) := by decide +kernel
theorem d_MRm_shape_32 : decode MRm_shape.2.2.1 32 = .ok (.ifCond .ne 6, 3) := by decide +kernel
theorem d_MRm_shape_35 : decode MRm_shape.2.2.1 35 = .ok (.bipush (-5), 2) := by decide +kernel
theorem d_MRm_shape_37 : decode MRm_shape.2.2.1 37 = .ok (.ireturn, 1) := by decide +kernel
theorem d_MRm_shape_38 : decode MRm_shape.2.2.1 38 = .ok (.iconst 0, 1) := by decide +kernel
theorem d_MRm_shape_39 : decode MRm_shape.2.2.1 39 = .ok (.istore 4, 2) := by decide +kernel
theorem d_MRm_shape_41 : decode MRm_shape.2.2.1 41 = .ok (.iconst (-1), 1) := by decide +kernel
theorem d_MRm_shape_42 : decode MRm_shape.2.2.1 42 = .ok (.istore 5, 2) := by decide +kernel
theorem d_MRm_shape_44 : decode MRm_shape.2.2.1 44 = .ok (.bipush (-9), 2) := by decide +kernel
theorem d_MRm_shape_46 : decode MRm_shape.2.2.1 46 = .ok (.istore 6, 2) := by decide +kernel
theorem d_MRm_shape_48 : decode MRm_shape.2.2.1 48 = .ok (.iload 6, 2) := by decide +kernel
theorem d_MRm_shape_50 : decode MRm_shape.2.2.1 50 = .ok (.bipush 9, 2) := by decide +kernel
theorem d_MRm_shape_52 : decode MRm_shape.2.2.1 52 = .ok (.if_icmp .gt 49, 3) := by decide +kernel
theorem d_MRm_shape_55 : decode MRm_shape.2.2.1 55 = .ok (.aload_n 0, 1) := by decide +kernel
theorem d_MRm_shape_56 : decode MRm_shape.2.2.1 56 = .ok (.iload_n 1, 1) := by decide +kernel
theorem d_MRm_shape_57 : decode MRm_shape.2.2.1 57 = .ok (.bipush 10, 2) := by decide +kernel
theorem d_MRm_shape_59 : decode MRm_shape.2.2.1 59 = .ok (.idiv, 1) := by decide +kernel
theorem d_MRm_shape_60 : decode MRm_shape.2.2.1 60 = .ok (.iload 6, 2) := by decide +kernel
theorem d_MRm_shape_62 : decode MRm_shape.2.2.1 62 = .ok (.iload_n 1, 1) := by decide +kernel
theorem d_MRm_shape_63 : decode MRm_shape.2.2.1 63 = .ok (.bipush 10, 2) := by decide +kernel
theorem d_MRm_shape_65 : decode MRm_shape.2.2.1 65 = .ok (.irem, 1) := by decide +kernel
theorem d_MRm_shape_66 : decode MRm_shape.2.2.1 66 = .ok (.iload_n 2, 1) := by decide +kernel
theorem d_MRm_shape_67 : decode MRm_shape.2.2.1 67 = .ok (.invokevirtual 351, 3) := by decide +kernel
theorem d_MRm_shape_70 : decode MRm_shape.2.2.1 70 = .ok (.istore 7, 2) := by decide +kernel
theorem d_MRm_shape_72 : decode MRm_shape.2.2.1 72 = .ok (.iload 5, 2) := by decide +kernel
theorem d_MRm_shape_74 : decode MRm_shape.2.2.1 74 = .ok (.ifCond .lt 13, 3) := by decide +kernel
theorem d_MRm_shape_77 : decode MRm_shape.2.2.1 77 = .ok (.iload 7, 2) := by decide +kernel
theorem d_MRm_shape_79 : decode MRm_shape.2.2.1 79 = .ok (.iload 5, 2) := by decide +kernel
theorem d_MRm_shape_81 : decode MRm_shape.2.2.1 81 = .ok (.if_icmp .lt 6, 3) := by decide +kernel
theorem d_MRm_shape_84 : decode MRm_shape.2.2.1 84 = .ok (.goto 11, 3) := by decide +kernel
theorem d_MRm_shape_87 : decode MRm_shape.2.2.1 87 = .ok (.iload 6, 2) := by decide +kernel
theorem d_MRm_shape_89 : decode MRm_shape.2.2.1 89 = .ok (.istore 4, 2) := by decide +kernel
theorem d_MRm_shape_91 : decode MRm_shape.2.2.1 91 = .ok (.iload 7, 2) := by decide +kernel
theorem d_MRm_shape_93 : decode MRm_shape.2.2.1 93 = .ok (.istore 5, 2) := by decide +kernel
theorem d_MRm_shape_95 : decode MRm_shape.2.2.1 95 = .ok (.iinc 6 1, 3) := by decide +kernel
theorem d_MRm_shape_98 : decode MRm_shape.2.2.1 98 = .ok (.goto (-50), 3) := by decide +kernel
theorem d_MRm_shape_101 : decode MRm_shape.2.2.1 101 = .ok (.iload_n 3, 1) := by decide +kernel
theorem d_MRm_shape_102 : decode MRm_shape.2.2.1 102 = .ok (.ifCond .ne 8, 3) := by decide +kernel
theorem d_MRm_shape_105 : decode MRm_shape.2.2.1 105 = .ok (.iload 4, 2) := by decide +kernel
theorem d_MRm_shape_107 : decode MRm_shape.2.2.1 107 = .ok (.goto 5, 3) := by decide +kernel
theorem d_MRm_shape_110 : decode MRm_shape.2.2.1 110 = .ok (.iload 5, 2) := by decide +kernel
theorem d_MRm_shape_112 : decode MRm_shape.2.2.1 112 = .ok (.ireturn, 1) := by decide +kernel
theorem r_MRm_shape_0 {l1 l2 l3 l4 l5 l6 l7 : Value} {x : Nat} : Rr X d MRm_shape 0 [.ref x, l1, l2, l3, l4, l5, l6, l7] st h = Rr X d MRm_shape 1 [.ref x, l1, l2, l3, l4, l5, l6, l7] (.ref x :: st) h := Rr_nx d_MRm_shape_0 rfl
theorem r_MRm_shape_1 {l0 l2 l3 l4 l5 l6 l7 : Value} {x : Int32} : Rr X d MRm_shape 1 [l0, .int x, l2, l3, l4, l5, l6, l7] st h = Rr X d MRm_shape 2 [l0, .int x, l2, l3, l4, l5, l6, l7] (.int x :: st) h := Rr_nx d_MRm_shape_1 rfl
theorem r_MRm_shape_2 {y0 : Int32} {a : Nat} (hO : qO a 10 = true) (hc : ckS st = true) : Rr X (d + 1) MRm_shape 2 L (.int y0 :: .ref a :: st) (Wd mu la ro et) = (Rr X d MRm_isGoing 0 [.ref a, .int y0] [] (Wd mu la ro et)).bind fun q => Rr X (d + 1) MRm_shape 5 L (psh q.1 st) q.2 := R_iv (av := [.int y0]) d_MRm_shape_2 fc_10_287 hO (ckS_le hc) rfl (Nat.le_of_ble_eq_true rfl) (Nat.le_of_ble_eq_true rfl)
theorem r_MRm_shape_5 {x : Int32} : Rr X d MRm_shape 5 L (.int x :: st) h = if x = 0 then Rr X d MRm_shape 25 L st h else Rr X d MRm_shape 8 L st h := R_if_eq d_MRm_shape_5 (by decide)
theorem r_MRm_shape_8 : Rr X d MRm_shape 8 L st h = Rr X d MRm_shape 9 L (.int (0) :: st) h := Rr_nx d_MRm_shape_8 rfl
theorem r_MRm_shape_9 {l0 l1 l3 l4 l5 l6 l7 : Value} {x : Int32} : Rr X d MRm_shape 9 [l0, l1, .int x, l3, l4, l5, l6, l7] st h = Rr X d MRm_shape 10 [l0, l1, .int x, l3, l4, l5, l6, l7] (.int x :: st) h := Rr_nx d_MRm_shape_9 rfl
theorem r_MRm_shape_10 {y0 : Int32} {y1 : Int32} (hc : ckS st = true) : Rr X (d + 1) MRm_shape 10 L (.int y1 :: .int y0 :: st) h = (Rr X d MRm_isStart 0 [.int y0, .int y1] [] h).bind fun q => Rr X (d + 1) MRm_shape 13 L (psh q.1 st) q.2 := R_is (av := [.int y1, .int y0]) d_MRm_shape_10 (Or.inl fc_10_290) (ckS_le hc) rfl (Nat.le_of_ble_eq_true rfl) (Nat.le_of_ble_eq_true rfl)
theorem r_MRm_shape_13 {x : Int32} : Rr X d MRm_shape 13 L (.int x :: st) h = if x = 0 then Rr X d MRm_shape 25 L st h else Rr X d MRm_shape 16 L st h := R_if_eq d_MRm_shape_13 (by decide)
theorem r_MRm_shape_16 {l0 l1 l2 l4 l5 l6 l7 : Value} {x : Int32} : Rr X d MRm_shape 16 [l0, l1, l2, .int x, l4, l5, l6, l7] st h = Rr X d MRm_shape 17 [l0, l1, l2, .int x, l4, l5, l6, l7] (.int x :: st) h := Rr_nx d_MRm_shape_16 rfl
theorem r_MRm_shape_17 : Rr X d MRm_shape 17 L st h = Rr X d MRm_shape 18 L (.int (0) :: st) h := Rr_nx d_MRm_shape_17 rfl
theorem r_MRm_shape_18 : Rr X d MRm_shape 18 L st h = Rr X d MRm_shape 19 L (.int (1) :: st) h := Rr_nx d_MRm_shape_18 rfl
theorem r_MRm_shape_19 {y0 : Int32} {y1 : Int32} {y2 : Int32} (hc : ckS st = true) : Rr X (d + 1) MRm_shape 19 L (.int y2 :: .int y1 :: .int y0 :: st) h = (Rr X d MRm_in 0 [.int y0, .int y1, .int y2] [] h).bind fun q => Rr X (d + 1) MRm_shape 22 L (psh q.1 st) q.2 := R_is (av := [.int y2, .int y1, .int y0]) d_MRm_shape_19 (Or.inl fc_10_107) (ckS_le hc) rfl (Nat.le_of_ble_eq_true rfl) (Nat.le_of_ble_eq_true rfl)
theorem r_MRm_shape_22 {x : Int32} : Rr X d MRm_shape 22 L (.int x :: st) h = if ¬ x = 0 then Rr X d MRm_shape 28 L st h else Rr X d MRm_shape 25 L st h := R_if_ne d_MRm_shape_22 (by decide)
theorem r_MRm_shape_25 : Rr X d MRm_shape 25 L st h = Rr X d MRm_shape 27 L (.int (-2000000000) :: st) h := Rr_nx d_MRm_shape_25 rfl
theorem r_MRm_shape_27 {x : Int32} : Rr X d MRm_shape 27 L [.int x] h = some (some (.int x), h) := R_ir d_MRm_shape_27 rfl
theorem r_MRm_shape_28 {l1 l2 l3 l4 l5 l6 l7 : Value} {x : Nat} : Rr X d MRm_shape 28 [.ref x, l1, l2, l3, l4, l5, l6, l7] st h = Rr X d MRm_shape 29 [.ref x, l1, l2, l3, l4, l5, l6, l7] (.ref x :: st) h := Rr_nx d_MRm_shape_28 rfl
theorem r_MRm_shape_29 {a : Nat} (hq : qI a 10 47 = true) : Rr X d MRm_shape 29 L (.ref a :: st) (Wd mu la ro et) = Rr X d MRm_shape 32 L (.int (mu a 47) :: st) (Wd mu la ro et) := R_gfI d_MRm_shape_29 ff_10_339 hq
theorem r_MRm_shape_32 {x : Int32} : Rr X d MRm_shape 32 L (.int x :: st) h = if ¬ x = 0 then Rr X d MRm_shape 38 L st h else Rr X d MRm_shape 35 L st h := R_if_ne d_MRm_shape_32 (by decide)
theorem r_MRm_shape_35 : Rr X d MRm_shape 35 L st h = Rr X d MRm_shape 37 L (.int (-5) :: st) h := Rr_nx d_MRm_shape_35 rfl
theorem r_MRm_shape_37 {x : Int32} : Rr X d MRm_shape 37 L [.int x] h = some (some (.int x), h) := R_ir d_MRm_shape_37 rfl
theorem r_MRm_shape_38 : Rr X d MRm_shape 38 L st h = Rr X d MRm_shape 39 L (.int (0) :: st) h := Rr_nx d_MRm_shape_38 rfl
theorem r_MRm_shape_39 {l0 l1 l2 l3 l4 l5 l6 l7 : Value} {x : Int32} : Rr X d MRm_shape 39 [l0, l1, l2, l3, l4, l5, l6, l7] (.int x :: st) h = Rr X d MRm_shape 41 (sL [l0, l1, l2, l3, l4, l5, l6, l7] 4 (.int x)) st h := Rr_nx d_MRm_shape_39 rfl
theorem r_MRm_shape_41 : Rr X d MRm_shape 41 L st h = Rr X d MRm_shape 42 L (.int (-1) :: st) h := Rr_nx d_MRm_shape_41 rfl
theorem r_MRm_shape_42 {l0 l1 l2 l3 l4 l5 l6 l7 : Value} {x : Int32} : Rr X d MRm_shape 42 [l0, l1, l2, l3, l4, l5, l6, l7] (.int x :: st) h = Rr X d MRm_shape 44 (sL [l0, l1, l2, l3, l4, l5, l6, l7] 5 (.int x)) st h := Rr_nx d_MRm_shape_42 rfl
theorem r_MRm_shape_44 : Rr X d MRm_shape 44 L st h = Rr X d MRm_shape 46 L (.int (-9) :: st) h := Rr_nx d_MRm_shape_44 rfl
theorem r_MRm_shape_46 {l0 l1 l2 l3 l4 l5 l6 l7 : Value} {x : Int32} : Rr X d MRm_shape 46 [l0, l1, l2, l3, l4, l5, l6, l7] (.int x :: st) h = Rr X d MRm_shape 48 (sL [l0, l1, l2, l3, l4, l5, l6, l7] 6 (.int x)) st h := Rr_nx d_MRm_shape_46 rfl
theorem r_MRm_shape_48 {l0 l1 l2 l3 l4 l5 l7 : Value} {x : Int32} : Rr X d MRm_shape 48 [l0, l1, l2, l3, l4, l5, .int x, l7] st h = Rr X d MRm_shape 50 [l0, l1, l2, l3, l4, l5, .int x, l7] (.int x :: st) h := Rr_nx d_MRm_shape_48 rfl
theorem r_MRm_shape_50 : Rr X d MRm_shape 50 L st h = Rr X d MRm_shape 52 L (.int (9) :: st) h := Rr_nx d_MRm_shape_50 rfl
theorem r_MRm_shape_52 {x y : Int32} : Rr X d MRm_shape 52 L (.int y :: .int x :: st) h = if y < x then Rr X d MRm_shape 101 L st h else Rr X d MRm_shape 55 L st h := R_ic_gt d_MRm_shape_52 (by decide)
theorem r_MRm_shape_55 {l1 l2 l3 l4 l5 l6 l7 : Value} {x : Nat} : Rr X d MRm_shape 55 [.ref x, l1, l2, l3, l4, l5, l6, l7] st h = Rr X d MRm_shape 56 [.ref x, l1, l2, l3, l4, l5, l6, l7] (.ref x :: st) h := Rr_nx d_MRm_shape_55 rfl
theorem r_MRm_shape_56 {l0 l2 l3 l4 l5 l6 l7 : Value} {x : Int32} : Rr X d MRm_shape 56 [l0, .int x, l2, l3, l4, l5, l6, l7] st h = Rr X d MRm_shape 57 [l0, .int x, l2, l3, l4, l5, l6, l7] (.int x :: st) h := Rr_nx d_MRm_shape_56 rfl
theorem r_MRm_shape_57 : Rr X d MRm_shape 57 L st h = Rr X d MRm_shape 59 L (.int (10) :: st) h := Rr_nx d_MRm_shape_57 rfl
theorem r_MRm_shape_59 {x y : Int32} : Rr X d MRm_shape 59 L (.int y :: .int x :: st) h = if y = 0 then none else Rr X d MRm_shape 60 L (.int (x / y) :: st) h := R_dv d_MRm_shape_59
theorem r_MRm_shape_60 {l0 l1 l2 l3 l4 l5 l7 : Value} {x : Int32} : Rr X d MRm_shape 60 [l0, l1, l2, l3, l4, l5, .int x, l7] st h = Rr X d MRm_shape 62 [l0, l1, l2, l3, l4, l5, .int x, l7] (.int x :: st) h := Rr_nx d_MRm_shape_60 rfl
theorem r_MRm_shape_62 {l0 l2 l3 l4 l5 l6 l7 : Value} {x : Int32} : Rr X d MRm_shape 62 [l0, .int x, l2, l3, l4, l5, l6, l7] st h = Rr X d MRm_shape 63 [l0, .int x, l2, l3, l4, l5, l6, l7] (.int x :: st) h := Rr_nx d_MRm_shape_62 rfl
theorem r_MRm_shape_63 : Rr X d MRm_shape 63 L st h = Rr X d MRm_shape 65 L (.int (10) :: st) h := Rr_nx d_MRm_shape_63 rfl
theorem r_MRm_shape_65 {x y : Int32} : Rr X d MRm_shape 65 L (.int y :: .int x :: st) h = if y = 0 then none else Rr X d MRm_shape 66 L (.int (x - x / y * y) :: st) h := R_rm d_MRm_shape_65
theorem r_MRm_shape_66 {l0 l1 l3 l4 l5 l6 l7 : Value} {x : Int32} : Rr X d MRm_shape 66 [l0, l1, .int x, l3, l4, l5, l6, l7] st h = Rr X d MRm_shape 67 [l0, l1, .int x, l3, l4, l5, l6, l7] (.int x :: st) h := Rr_nx d_MRm_shape_66 rfl
theorem r_MRm_shape_67 {y0 : Int32} {y1 : Int32} {y2 : Int32} {y3 : Int32} {a : Nat} (hO : qO a 10 = true) (hc : ckS st = true) : Rr X (d + 1) MRm_shape 67 L (.int y3 :: .int y2 :: .int y1 :: .int y0 :: .ref a :: st) (Wd mu la ro et) = (Rr X d MRm_offBy 0 [.ref a, .int y0, .int y1, .int y2, .int y3, mkU, mkU, mkU] [] (Wd mu la ro et)).bind fun q => Rr X (d + 1) MRm_shape 70 L (psh q.1 st) q.2 := R_iv (av := [.int y3, .int y2, .int y1, .int y0]) d_MRm_shape_67 fc_10_351 hO (ckS_le hc) rfl (Nat.le_of_ble_eq_true rfl) (Nat.le_of_ble_eq_true rfl)
theorem r_MRm_shape_70 {l0 l1 l2 l3 l4 l5 l6 l7 : Value} {x : Int32} : Rr X d MRm_shape 70 [l0, l1, l2, l3, l4, l5, l6, l7] (.int x :: st) h = Rr X d MRm_shape 72 (sL [l0, l1, l2, l3, l4, l5, l6, l7] 7 (.int x)) st h := Rr_nx d_MRm_shape_70 rfl
theorem r_MRm_shape_72 {l0 l1 l2 l3 l4 l6 l7 : Value} {x : Int32} : Rr X d MRm_shape 72 [l0, l1, l2, l3, l4, .int x, l6, l7] st h = Rr X d MRm_shape 74 [l0, l1, l2, l3, l4, .int x, l6, l7] (.int x :: st) h := Rr_nx d_MRm_shape_72 rfl
theorem r_MRm_shape_74 {x : Int32} : Rr X d MRm_shape 74 L (.int x :: st) h = if x < 0 then Rr X d MRm_shape 87 L st h else Rr X d MRm_shape 77 L st h := R_if_lt d_MRm_shape_74 (by decide)
theorem r_MRm_shape_77 {l0 l1 l2 l3 l4 l5 l6 : Value} {x : Int32} : Rr X d MRm_shape 77 [l0, l1, l2, l3, l4, l5, l6, .int x] st h = Rr X d MRm_shape 79 [l0, l1, l2, l3, l4, l5, l6, .int x] (.int x :: st) h := Rr_nx d_MRm_shape_77 rfl
theorem r_MRm_shape_79 {l0 l1 l2 l3 l4 l6 l7 : Value} {x : Int32} : Rr X d MRm_shape 79 [l0, l1, l2, l3, l4, .int x, l6, l7] st h = Rr X d MRm_shape 81 [l0, l1, l2, l3, l4, .int x, l6, l7] (.int x :: st) h := Rr_nx d_MRm_shape_79 rfl
theorem r_MRm_shape_81 {x y : Int32} : Rr X d MRm_shape 81 L (.int y :: .int x :: st) h = if x < y then Rr X d MRm_shape 87 L st h else Rr X d MRm_shape 84 L st h := R_ic_lt d_MRm_shape_81 (by decide)
theorem r_MRm_shape_84 : Rr X d MRm_shape 84 L st h = Rr X d MRm_shape 95 L st h := R_goto d_MRm_shape_84 (by decide)
theorem r_MRm_shape_87 {l0 l1 l2 l3 l4 l5 l7 : Value} {x : Int32} : Rr X d MRm_shape 87 [l0, l1, l2, l3, l4, l5, .int x, l7] st h = Rr X d MRm_shape 89 [l0, l1, l2, l3, l4, l5, .int x, l7] (.int x :: st) h := Rr_nx d_MRm_shape_87 rfl
theorem r_MRm_shape_89 {l0 l1 l2 l3 l4 l5 l6 l7 : Value} {x : Int32} : Rr X d MRm_shape 89 [l0, l1, l2, l3, l4, l5, l6, l7] (.int x :: st) h = Rr X d MRm_shape 91 (sL [l0, l1, l2, l3, l4, l5, l6, l7] 4 (.int x)) st h := Rr_nx d_MRm_shape_89 rfl
theorem r_MRm_shape_91 {l0 l1 l2 l3 l4 l5 l6 : Value} {x : Int32} : Rr X d MRm_shape 91 [l0, l1, l2, l3, l4, l5, l6, .int x] st h = Rr X d MRm_shape 93 [l0, l1, l2, l3, l4, l5, l6, .int x] (.int x :: st) h := Rr_nx d_MRm_shape_91 rfl
theorem r_MRm_shape_93 {l0 l1 l2 l3 l4 l5 l6 l7 : Value} {x : Int32} : Rr X d MRm_shape 93 [l0, l1, l2, l3, l4, l5, l6, l7] (.int x :: st) h = Rr X d MRm_shape 95 (sL [l0, l1, l2, l3, l4, l5, l6, l7] 5 (.int x)) st h := Rr_nx d_MRm_shape_93 rfl
theorem r_MRm_shape_95 {l0 l1 l2 l3 l4 l5 l7 : Value} {x : Int32} : Rr X d MRm_shape 95 [l0, l1, l2, l3, l4, l5, .int x, l7] st h = Rr X d MRm_shape 98 (sL [l0, l1, l2, l3, l4, l5, .int x, l7] 6 (.int (x + (1)))) st h := Rr_nx d_MRm_shape_95 rfl
theorem r_MRm_shape_98 : Rr X d MRm_shape 98 L st h = Rr X d MRm_shape 48 L st h := R_goto d_MRm_shape_98 (by decide)
theorem r_MRm_shape_101 {l0 l1 l2 l4 l5 l6 l7 : Value} {x : Int32} : Rr X d MRm_shape 101 [l0, l1, l2, .int x, l4, l5, l6, l7] st h = Rr X d MRm_shape 102 [l0, l1, l2, .int x, l4, l5, l6, l7] (.int x :: st) h := Rr_nx d_MRm_shape_101 rfl
theorem r_MRm_shape_102 {x : Int32} : Rr X d MRm_shape 102 L (.int x :: st) h = if ¬ x = 0 then Rr X d MRm_shape 110 L st h else Rr X d MRm_shape 105 L st h := R_if_ne d_MRm_shape_102 (by decide)
theorem r_MRm_shape_105 {l0 l1 l2 l3 l5 l6 l7 : Value} {x : Int32} : Rr X d MRm_shape 105 [l0, l1, l2, l3, .int x, l5, l6, l7] st h = Rr X d MRm_shape 107 [l0, l1, l2, l3, .int x, l5, l6, l7] (.int x :: st) h := Rr_nx d_MRm_shape_105 rfl
theorem r_MRm_shape_107 : Rr X d MRm_shape 107 L st h = Rr X d MRm_shape 112 L st h := R_goto d_MRm_shape_107 (by decide)
theorem r_MRm_shape_110 {l0 l1 l2 l3 l4 l6 l7 : Value} {x : Int32} : Rr X d MRm_shape 110 [l0, l1, l2, l3, l4, .int x, l6, l7] st h = Rr X d MRm_shape 112 [l0, l1, l2, l3, l4, .int x, l6, l7] (.int x :: st) h := Rr_nx d_MRm_shape_110 rfl
theorem r_MRm_shape_112 {x : Int32} : Rr X d MRm_shape 112 L [.int x] h = some (some (.int x), h) := R_ir d_MRm_shape_112 rfl
theorem d_MRm_span_0 : decode MRm_span.2.2.1 0 = .ok (.aload_n 0, 1) := by decide +kernel
theorem d_MRm_span_1 : decode MRm_span.2.2.1 1 = .ok (.iload_n 1, 1) := by decide +kernel
theorem d_MRm_span_2 : decode MRm_span.2.2.1 2 = .ok (.invokevirtual 287, 3) := by decide +kernel
theorem d_MRm_span_5 : decode MRm_span.2.2.1 5 = .ok (.ifCond .eq 15, 3) := by decide +kernel
theorem d_MRm_span_8 : decode MRm_span.2.2.1 8 = .ok (.iconst 0, 1) := by decide +kernel
theorem d_MRm_span_9 : decode MRm_span.2.2.1 9 = .ok (.iload_n 2, 1) := by decide +kernel
theorem d_MRm_span_10 : decode MRm_span.2.2.1 10 = .ok (.invokestatic 290, 3) := by decide +kernel
theorem d_MRm_span_13 : decode MRm_span.2.2.1 13 = .ok (.ifCond .eq 7, 3) := by decide +kernel
theorem d_MRm_span_16 : decode MRm_span.2.2.1 16 = .ok (.iload_n 3, 1) := by decide +kernel
theorem d_MRm_span_17 : decode MRm_span.2.2.1 17 = .ok (.ifCond .ge 5, 3) := by decide +kernel
theorem d_MRm_span_20 : decode MRm_span.2.2.1 20 = .ok (.iconst (-1), 1) := by decide +kernel
theorem d_MRm_span_21 : decode MRm_span.2.2.1 21 = .ok (.ireturn, 1) := by decide +kernel
theorem d_MRm_span_22 : decode MRm_span.2.2.1 22 = .ok (.aload_n 0, 1) := by decide +kernel
theorem d_MRm_span_23 : decode MRm_span.2.2.1 23 = .ok (.getfield 339, 3) := by decide +kernel
theorem d_MRm_span_26 : decode MRm_span.2.2.1 26 = .ok (.ifCond .ne 6, 3) := by decide +kernel
theorem d_MRm_span_29 : decode MRm_span.2.2.1 29 = .ok (.bipush (-5), 2) := by decide +kernel
theorem d_MRm_span_31 : decode MRm_span.2.2.1 31 = .ok (.ireturn, 1) := by decide +kernel
theorem d_MRm_span_32 : decode MRm_span.2.2.1 32 = .ok (.iconst 0, 1) := by decide +kernel
theorem d_MRm_span_33 : decode MRm_span.2.2.1 33 = .ok (.istore 4, 2) := by decide +kernel
theorem d_MRm_span_35 : decode MRm_span.2.2.1 35 = .ok (.bipush (-9), 2) := by decide +kernel
theorem d_MRm_span_37 : decode MRm_span.2.2.1 37 = .ok (.istore 5, 2) := by decide +kernel
theorem d_MRm_span_39 : decode MRm_span.2.2.1 39 = .ok (.iload 5, 2) := by decide +kernel
theorem d_MRm_span_41 : decode MRm_span.2.2.1 41 = .ok (.bipush 9, 2) := by decide +kernel
theorem d_MRm_span_43 : decode MRm_span.2.2.1 43 = .ok (.if_icmp .gt 38, 3) := by decide +kernel
theorem d_MRm_span_46 : decode MRm_span.2.2.1 46 = .ok (.iload 4, 2) := by decide +kernel
theorem d_MRm_span_48 : decode MRm_span.2.2.1 48 = .ok (.aload_n 0, 1) := by decide +kernel
theorem d_MRm_span_49 : decode MRm_span.2.2.1 49 = .ok (.iload_n 1, 1) := by decide +kernel
theorem d_MRm_span_50 : decode MRm_span.2.2.1 50 = .ok (.bipush 10, 2) := by decide +kernel
theorem d_MRm_span_52 : decode MRm_span.2.2.1 52 = .ok (.idiv, 1) := by decide +kernel
theorem d_MRm_span_53 : decode MRm_span.2.2.1 53 = .ok (.iload 5, 2) := by decide +kernel
theorem d_MRm_span_55 : decode MRm_span.2.2.1 55 = .ok (.iload_n 1, 1) := by decide +kernel
theorem d_MRm_span_56 : decode MRm_span.2.2.1 56 = .ok (.bipush 10, 2) := by decide +kernel
theorem d_MRm_span_58 : decode MRm_span.2.2.1 58 = .ok (.irem, 1) := by decide +kernel
theorem d_MRm_span_59 : decode MRm_span.2.2.1 59 = .ok (.iload_n 2, 1) := by decide +kernel
theorem d_MRm_span_60 : decode MRm_span.2.2.1 60 = .ok (.invokevirtual 351, 3) := by decide +kernel
theorem d_MRm_span_63 : decode MRm_span.2.2.1 63 = .ok (.iload_n 3, 1) := by decide +kernel
theorem d_MRm_span_64 : decode MRm_span.2.2.1 64 = .ok (.if_icmp .gt 7, 3) := by decide +kernel
theorem d_MRm_span_67 : decode MRm_span.2.2.1 67 = .ok (.iconst 1, 1) := by decide +kernel
theorem d_MRm_span_68 : decode MRm_span.2.2.1 68 = .ok (.goto 4, 3) := by decide +kernel
theorem d_MRm_span_71 : decode MRm_span.2.2.1 71 = .ok (.iconst 0, 1) := by decide +kernel
theorem d_MRm_span_72 : decode MRm_span.2.2.1 72 = .ok (.iadd, 1) := by decide +kernel
theorem d_MRm_span_73 : decode MRm_span.2.2.1 73 = .ok (.istore 4, 2) := by decide +kernel
theorem d_MRm_span_75 : decode MRm_span.2.2.1 75 = .ok (.iinc 5 1, 3) := by decide +kernel
theorem d_MRm_span_78 : decode MRm_span.2.2.1 78 = .ok (.goto (-39), 3) := by decide +kernel
theorem d_MRm_span_81 : decode MRm_span.2.2.1 81 = .ok (.iload 4, 2) := by decide +kernel
theorem d_MRm_span_83 : decode MRm_span.2.2.1 83 = .ok (.ireturn, 1) := by decide +kernel
theorem r_MRm_span_0 {l1 l2 l3 l4 l5 : Value} {x : Nat} : Rr X d MRm_span 0 [.ref x, l1, l2, l3, l4, l5] st h = Rr X d MRm_span 1 [.ref x, l1, l2, l3, l4, l5] (.ref x :: st) h := Rr_nx d_MRm_span_0 rfl
theorem r_MRm_span_1 {l0 l2 l3 l4 l5 : Value} {x : Int32} : Rr X d MRm_span 1 [l0, .int x, l2, l3, l4, l5] st h = Rr X d MRm_span 2 [l0, .int x, l2, l3, l4, l5] (.int x :: st) h := Rr_nx d_MRm_span_1 rfl
theorem r_MRm_span_2 {y0 : Int32} {a : Nat} (hO : qO a 10 = true) (hc : ckS st = true) : Rr X (d + 1) MRm_span 2 L (.int y0 :: .ref a :: st) (Wd mu la ro et) = (Rr X d MRm_isGoing 0 [.ref a, .int y0] [] (Wd mu la ro et)).bind fun q => Rr X (d + 1) MRm_span 5 L (psh q.1 st) q.2 := R_iv (av := [.int y0]) d_MRm_span_2 fc_10_287 hO (ckS_le hc) rfl (Nat.le_of_ble_eq_true rfl) (Nat.le_of_ble_eq_true rfl)
theorem r_MRm_span_5 {x : Int32} : Rr X d MRm_span 5 L (.int x :: st) h = if x = 0 then Rr X d MRm_span 20 L st h else Rr X d MRm_span 8 L st h := R_if_eq d_MRm_span_5 (by decide)
theorem r_MRm_span_8 : Rr X d MRm_span 8 L st h = Rr X d MRm_span 9 L (.int (0) :: st) h := Rr_nx d_MRm_span_8 rfl
theorem r_MRm_span_9 {l0 l1 l3 l4 l5 : Value} {x : Int32} : Rr X d MRm_span 9 [l0, l1, .int x, l3, l4, l5] st h = Rr X d MRm_span 10 [l0, l1, .int x, l3, l4, l5] (.int x :: st) h := Rr_nx d_MRm_span_9 rfl
theorem r_MRm_span_10 {y0 : Int32} {y1 : Int32} (hc : ckS st = true) : Rr X (d + 1) MRm_span 10 L (.int y1 :: .int y0 :: st) h = (Rr X d MRm_isStart 0 [.int y0, .int y1] [] h).bind fun q => Rr X (d + 1) MRm_span 13 L (psh q.1 st) q.2 := R_is (av := [.int y1, .int y0]) d_MRm_span_10 (Or.inl fc_10_290) (ckS_le hc) rfl (Nat.le_of_ble_eq_true rfl) (Nat.le_of_ble_eq_true rfl)
theorem r_MRm_span_13 {x : Int32} : Rr X d MRm_span 13 L (.int x :: st) h = if x = 0 then Rr X d MRm_span 20 L st h else Rr X d MRm_span 16 L st h := R_if_eq d_MRm_span_13 (by decide)
theorem r_MRm_span_16 {l0 l1 l2 l4 l5 : Value} {x : Int32} : Rr X d MRm_span 16 [l0, l1, l2, .int x, l4, l5] st h = Rr X d MRm_span 17 [l0, l1, l2, .int x, l4, l5] (.int x :: st) h := Rr_nx d_MRm_span_16 rfl
theorem r_MRm_span_17 {x : Int32} : Rr X d MRm_span 17 L (.int x :: st) h = if 0 ≤ x then Rr X d MRm_span 22 L st h else Rr X d MRm_span 20 L st h := R_if_ge d_MRm_span_17 (by decide)
theorem r_MRm_span_20 : Rr X d MRm_span 20 L st h = Rr X d MRm_span 21 L (.int (-1) :: st) h := Rr_nx d_MRm_span_20 rfl
theorem r_MRm_span_21 {x : Int32} : Rr X d MRm_span 21 L [.int x] h = some (some (.int x), h) := R_ir d_MRm_span_21 rfl
theorem r_MRm_span_22 {l1 l2 l3 l4 l5 : Value} {x : Nat} : Rr X d MRm_span 22 [.ref x, l1, l2, l3, l4, l5] st h = Rr X d MRm_span 23 [.ref x, l1, l2, l3, l4, l5] (.ref x :: st) h := Rr_nx d_MRm_span_22 rfl
theorem r_MRm_span_23 {a : Nat} (hq : qI a 10 47 = true) : Rr X d MRm_span 23 L (.ref a :: st) (Wd mu la ro et) = Rr X d MRm_span 26 L (.int (mu a 47) :: st) (Wd mu la ro et) := R_gfI d_MRm_span_23 ff_10_339 hq
theorem r_MRm_span_26 {x : Int32} : Rr X d MRm_span 26 L (.int x :: st) h = if ¬ x = 0 then Rr X d MRm_span 32 L st h else Rr X d MRm_span 29 L st h := R_if_ne d_MRm_span_26 (by decide)
theorem r_MRm_span_29 : Rr X d MRm_span 29 L st h = Rr X d MRm_span 31 L (.int (-5) :: st) h := Rr_nx d_MRm_span_29 rfl
theorem r_MRm_span_31 {x : Int32} : Rr X d MRm_span 31 L [.int x] h = some (some (.int x), h) := R_ir d_MRm_span_31 rfl
theorem r_MRm_span_32 : Rr X d MRm_span 32 L st h = Rr X d MRm_span 33 L (.int (0) :: st) h := Rr_nx d_MRm_span_32 rfl
theorem r_MRm_span_33 {l0 l1 l2 l3 l4 l5 : Value} {x : Int32} : Rr X d MRm_span 33 [l0, l1, l2, l3, l4, l5] (.int x :: st) h = Rr X d MRm_span 35 (sL [l0, l1, l2, l3, l4, l5] 4 (.int x)) st h := Rr_nx d_MRm_span_33 rfl
theorem r_MRm_span_35 : Rr X d MRm_span 35 L st h = Rr X d MRm_span 37 L (.int (-9) :: st) h := Rr_nx d_MRm_span_35 rfl
theorem r_MRm_span_37 {l0 l1 l2 l3 l4 l5 : Value} {x : Int32} : Rr X d MRm_span 37 [l0, l1, l2, l3, l4, l5] (.int x :: st) h = Rr X d MRm_span 39 (sL [l0, l1, l2, l3, l4, l5] 5 (.int x)) st h := Rr_nx d_MRm_span_37 rfl
theorem r_MRm_span_39 {l0 l1 l2 l3 l4 : Value} {x : Int32} : Rr X d MRm_span 39 [l0, l1, l2, l3, l4, .int x] st h = Rr X d MRm_span 41 [l0, l1, l2, l3, l4, .int x] (.int x :: st) h := Rr_nx d_MRm_span_39 rfl
theorem r_MRm_span_41 : Rr X d MRm_span 41 L st h = Rr X d MRm_span 43 L (.int (9) :: st) h := Rr_nx d_MRm_span_41 rfl
theorem r_MRm_span_43 {x y : Int32} : Rr X d MRm_span 43 L (.int y :: .int x :: st) h = if y < x then Rr X d MRm_span 81 L st h else Rr X d MRm_span 46 L st h := R_ic_gt d_MRm_span_43 (by decide)
theorem r_MRm_span_46 {l0 l1 l2 l3 l5 : Value} {x : Int32} : Rr X d MRm_span 46 [l0, l1, l2, l3, .int x, l5] st h = Rr X d MRm_span 48 [l0, l1, l2, l3, .int x, l5] (.int x :: st) h := Rr_nx d_MRm_span_46 rfl
theorem r_MRm_span_48 {l1 l2 l3 l4 l5 : Value} {x : Nat} : Rr X d MRm_span 48 [.ref x, l1, l2, l3, l4, l5] st h = Rr X d MRm_span 49 [.ref x, l1, l2, l3, l4, l5] (.ref x :: st) h := Rr_nx d_MRm_span_48 rfl
theorem r_MRm_span_49 {l0 l2 l3 l4 l5 : Value} {x : Int32} : Rr X d MRm_span 49 [l0, .int x, l2, l3, l4, l5] st h = Rr X d MRm_span 50 [l0, .int x, l2, l3, l4, l5] (.int x :: st) h := Rr_nx d_MRm_span_49 rfl
theorem r_MRm_span_50 : Rr X d MRm_span 50 L st h = Rr X d MRm_span 52 L (.int (10) :: st) h := Rr_nx d_MRm_span_50 rfl
theorem r_MRm_span_52 {x y : Int32} : Rr X d MRm_span 52 L (.int y :: .int x :: st) h = if y = 0 then none else Rr X d MRm_span 53 L (.int (x / y) :: st) h := R_dv d_MRm_span_52
theorem r_MRm_span_53 {l0 l1 l2 l3 l4 : Value} {x : Int32} : Rr X d MRm_span 53 [l0, l1, l2, l3, l4, .int x] st h = Rr X d MRm_span 55 [l0, l1, l2, l3, l4, .int x] (.int x :: st) h := Rr_nx d_MRm_span_53 rfl
theorem r_MRm_span_55 {l0 l2 l3 l4 l5 : Value} {x : Int32} : Rr X d MRm_span 55 [l0, .int x, l2, l3, l4, l5] st h = Rr X d MRm_span 56 [l0, .int x, l2, l3, l4, l5] (.int x :: st) h := Rr_nx d_MRm_span_55 rfl
theorem r_MRm_span_56 : Rr X d MRm_span 56 L st h = Rr X d MRm_span 58 L (.int (10) :: st) h := Rr_nx d_MRm_span_56 rfl
theorem r_MRm_span_58 {x y : Int32} : Rr X d MRm_span 58 L (.int y :: .int x :: st) h = if y = 0 then none else Rr X d MRm_span 59 L (.int (x - x / y * y) :: st) h := R_rm d_MRm_span_58
theorem r_MRm_span_59 {l0 l1 l3 l4 l5 : Value} {x : Int32} : Rr X d MRm_span 59 [l0, l1, .int x, l3, l4, l5] st h = Rr X d MRm_span 60 [l0, l1, .int x, l3, l4, l5] (.int x :: st) h := Rr_nx d_MRm_span_59 rfl
theorem r_MRm_span_60 {y0 : Int32} {y1 : Int32} {y2 : Int32} {y3 : Int32} {a : Nat} (hO : qO a 10 = true) (hc : ckS st = true) : Rr X (d + 1) MRm_span 60 L (.int y3 :: .int y2 :: .int y1 :: .int y0 :: .ref a :: st) (Wd mu la ro et) = (Rr X d MRm_offBy 0 [.ref a, .int y0, .int y1, .int y2, .int y3, mkU, mkU, mkU] [] (Wd mu la ro et)).bind fun q => Rr X (d + 1) MRm_span 63 L (psh q.1 st) q.2 := R_iv (av := [.int y3, .int y2, .int y1, .int y0]) d_MRm_span_60 fc_10_351 hO (ckS_le hc) rfl (Nat.le_of_ble_eq_true rfl) (Nat.le_of_ble_eq_true rfl)
theorem r_MRm_span_63 {l0 l1 l2 l4 l5 : Value} {x : Int32} : Rr X d MRm_span 63 [l0, l1, l2, .int x, l4, l5] st h = Rr X d MRm_span 64 [l0, l1, l2, .int x, l4, l5] (.int x :: st) h := Rr_nx d_MRm_span_63 rfl
theorem r_MRm_span_64 {x y : Int32} : Rr X d MRm_span 64 L (.int y :: .int x :: st) h = if y < x then Rr X d MRm_span 71 L st h else Rr X d MRm_span 67 L st h := R_ic_gt d_MRm_span_64 (by decide)
theorem r_MRm_span_67 : Rr X d MRm_span 67 L st h = Rr X d MRm_span 68 L (.int (1) :: st) h := Rr_nx d_MRm_span_67 rfl
theorem r_MRm_span_68 : Rr X d MRm_span 68 L st h = Rr X d MRm_span 72 L st h := R_goto d_MRm_span_68 (by decide)
theorem r_MRm_span_71 : Rr X d MRm_span 71 L st h = Rr X d MRm_span 72 L (.int (0) :: st) h := Rr_nx d_MRm_span_71 rfl
theorem r_MRm_span_72 {x y : Int32} : Rr X d MRm_span 72 L (.int y :: .int x :: st) h = Rr X d MRm_span 73 L (.int (x + y) :: st) h := Rr_nx d_MRm_span_72 rfl
theorem r_MRm_span_73 {l0 l1 l2 l3 l4 l5 : Value} {x : Int32} : Rr X d MRm_span 73 [l0, l1, l2, l3, l4, l5] (.int x :: st) h = Rr X d MRm_span 75 (sL [l0, l1, l2, l3, l4, l5] 4 (.int x)) st h := Rr_nx d_MRm_span_73 rfl
theorem r_MRm_span_75 {l0 l1 l2 l3 l4 : Value} {x : Int32} : Rr X d MRm_span 75 [l0, l1, l2, l3, l4, .int x] st h = Rr X d MRm_span 78 (sL [l0, l1, l2, l3, l4, .int x] 5 (.int (x + (1)))) st h := Rr_nx d_MRm_span_75 rfl
theorem r_MRm_span_78 : Rr X d MRm_span 78 L st h = Rr X d MRm_span 39 L st h := R_goto d_MRm_span_78 (by decide)
theorem r_MRm_span_81 {l0 l1 l2 l3 l5 : Value} {x : Int32} : Rr X d MRm_span 81 [l0, l1, l2, l3, .int x, l5] st h = Rr X d MRm_span 83 [l0, l1, l2, l3, .int x, l5] (.int x :: st) h := Rr_nx d_MRm_span_81 rfl
theorem r_MRm_span_83 {x : Int32} : Rr X d MRm_span 83 L [.int x] h = some (some (.int x), h) := R_ir d_MRm_span_83 rfl
theorem d_MRm_which_0 : decode MRm_which.2.2.1 0 = .ok (.aload_n 0, 1) := by decide +kernel
theorem d_MRm_which_1 : decode MRm_which.2.2.1 1 = .ok (.iload_n 1, 1) := by decide +kernel
theorem d_MRm_which_2 : decode MRm_which.2.2.1 2 = .ok (.invokevirtual 173, 3) := by decide +kernel
theorem d_MRm_which_5 : decode MRm_which.2.2.1 5 = .ok (.ifCond .eq 11, 3) := by decide +kernel
theorem d_MRm_which_8 : decode MRm_which.2.2.1 8 = .ok (.iconst 0, 1) := by decide +kernel
theorem d_MRm_which_9 : decode MRm_which.2.2.1 9 = .ok (.iload_n 2, 1) := by decide +kernel
theorem d_MRm_which_10 : decode MRm_which.2.2.1 10 = .ok (.invokestatic 290, 3) := by decide +kernel
theorem d_MRm_which_13 : decode MRm_which.2.2.1 13 = .ok (.ifCond .ne 5, 3) := by decide +kernel
theorem d_MRm_which_16 : decode MRm_which.2.2.1 16 = .ok (.iconst (-1), 1) := by decide +kernel
theorem d_MRm_which_17 : decode MRm_which.2.2.1 17 = .ok (.ireturn, 1) := by decide +kernel
theorem d_MRm_which_18 : decode MRm_which.2.2.1 18 = .ok (.aload_n 0, 1) := by decide +kernel
theorem d_MRm_which_19 : decode MRm_which.2.2.1 19 = .ok (.getfield 339, 3) := by decide +kernel
theorem d_MRm_which_22 : decode MRm_which.2.2.1 22 = .ok (.ifCond .eq 10, 3) := by decide +kernel
theorem d_MRm_which_25 : decode MRm_which.2.2.1 25 = .ok (.aload_n 0, 1) := by decide +kernel
theorem d_MRm_which_26 : decode MRm_which.2.2.1 26 = .ok (.getfield 250, 3) := by decide +kernel
theorem d_MRm_which_29 : decode MRm_which.2.2.1 29 = .ok (.ifCond .ne 6, 3) := by decide +kernel
theorem d_MRm_which_32 : decode MRm_which.2.2.1 32 = .ok (.bipush (-5), 2) := by decide +kernel
theorem d_MRm_which_34 : decode MRm_which.2.2.1 34 = .ok (.ireturn, 1) := by decide +kernel
theorem d_MRm_which_35 : decode MRm_which.2.2.1 35 = .ok (.iconst 0, 1) := by decide +kernel
theorem d_MRm_which_36 : decode MRm_which.2.2.1 36 = .ok (.istore_n 3, 1) := by decide +kernel
theorem d_MRm_which_37 : decode MRm_which.2.2.1 37 = .ok (.iconst (-1), 1) := by decide +kernel
theorem d_MRm_which_38 : decode MRm_which.2.2.1 38 = .ok (.istore 4, 2) := by decide +kernel
theorem d_MRm_which_40 : decode MRm_which.2.2.1 40 = .ok (.iconst 0, 1) := by decide +kernel
theorem d_MRm_which_41 : decode MRm_which.2.2.1 41 = .ok (.istore 5, 2) := by decide +kernel
theorem d_MRm_which_43 : decode MRm_which.2.2.1 43 = .ok (.iload 5, 2) := by decide +kernel
theorem d_MRm_which_45 : decode MRm_which.2.2.1 45 = .ok (.aload_n 0, 1) := by decide +kernel
theorem d_MRm_which_46 : decode MRm_which.2.2.1 46 = .ok (.getfield 250, 3) := by decide +kernel
theorem d_MRm_which_49 : decode MRm_which.2.2.1 49 = .ok (.if_icmp .ge 46, 3) := by decide +kernel
theorem d_MRm_which_52 : decode MRm_which.2.2.1 52 = .ok (.aload_n 0, 1) := by decide +kernel
theorem d_MRm_which_53 : decode MRm_which.2.2.1 53 = .ok (.iload_n 1, 1) := by decide +kernel
theorem d_MRm_which_54 : decode MRm_which.2.2.1 54 = .ok (.aload_n 0, 1) := by decide +kernel
theorem d_MRm_which_55 : decode MRm_which.2.2.1 55 = .ok (.iload_n 1, 1) := by decide +kernel
theorem d_MRm_which_56 : decode MRm_which.2.2.1 56 = .ok (.invokevirtual 177, 3) := by decide +kernel
theorem d_MRm_which_59 : decode MRm_which.2.2.1 59 = .ok (.iload 5, 2) := by decide +kernel
theorem d_MRm_which_61 : decode MRm_which.2.2.1 61 = .ok (.iload_n 2, 1) := by decide +kernel
theorem d_MRm_which_62 : decode MRm_which.2.2.1 62 = .ok (.invokevirtual 351, 3) := by decide +kernel
theorem d_MRm_which_65 : decode MRm_which.2.2.1 65 = .ok (.istore 6, 2) := by decide +kernel
theorem d_MRm_which_67 : decode MRm_which.2.2.1 67 = .ok (.iload 4, 2) := by decide +kernel
theorem d_MRm_which_69 : decode MRm_which.2.2.1 69 = .ok (.ifCond .lt 13, 3) := by decide +kernel
theorem d_MRm_which_72 : decode MRm_which.2.2.1 72 = .ok (.iload 6, 2) := by decide +kernel
theorem d_MRm_which_74 : decode MRm_which.2.2.1 74 = .ok (.iload 4, 2) := by decide +kernel
theorem d_MRm_which_76 : decode MRm_which.2.2.1 76 = .ok (.if_icmp .lt 6, 3) := by decide +kernel
theorem d_MRm_which_79 : decode MRm_which.2.2.1 79 = .ok (.goto 10, 3) := by decide +kernel
theorem d_MRm_which_82 : decode MRm_which.2.2.1 82 = .ok (.iload 5, 2) := by decide +kernel
theorem d_MRm_which_84 : decode MRm_which.2.2.1 84 = .ok (.istore_n 3, 1) := by decide +kernel
theorem d_MRm_which_85 : decode MRm_which.2.2.1 85 = .ok (.iload 6, 2) := by decide +kernel
theorem d_MRm_which_87 : decode MRm_which.2.2.1 87 = .ok (.istore 4, 2) := by decide +kernel
theorem d_MRm_which_89 : decode MRm_which.2.2.1 89 = .ok (.iinc 5 1, 3) := by decide +kernel
theorem d_MRm_which_92 : decode MRm_which.2.2.1 92 = .ok (.goto (-49), 3) := by decide +kernel
theorem d_MRm_which_95 : decode MRm_which.2.2.1 95 = .ok (.iload_n 3, 1) := by decide +kernel
theorem d_MRm_which_96 : decode MRm_which.2.2.1 96 = .ok (.ireturn, 1) := by decide +kernel
theorem r_MRm_which_0 {l1 l2 l3 l4 l5 l6 : Value} {x : Nat} : Rr X d MRm_which 0 [.ref x, l1, l2, l3, l4, l5, l6] st h = Rr X d MRm_which 1 [.ref x, l1, l2, l3, l4, l5, l6] (.ref x :: st) h := Rr_nx d_MRm_which_0 rfl
theorem r_MRm_which_1 {l0 l2 l3 l4 l5 l6 : Value} {x : Int32} : Rr X d MRm_which 1 [l0, .int x, l2, l3, l4, l5, l6] st h = Rr X d MRm_which 2 [l0, .int x, l2, l3, l4, l5, l6] (.int x :: st) h := Rr_nx d_MRm_which_1 rfl
theorem r_MRm_which_2 {y0 : Int32} {a : Nat} (hO : qO a 10 = true) (hc : ckS st = true) : Rr X (d + 1) MRm_which 2 L (.int y0 :: .ref a :: st) (Wd mu la ro et) = (Rr X d MRm_isStone 0 [.ref a, .int y0] [] (Wd mu la ro et)).bind fun q => Rr X (d + 1) MRm_which 5 L (psh q.1 st) q.2 := R_iv (av := [.int y0]) d_MRm_which_2 fc_10_173 hO (ckS_le hc) rfl (Nat.le_of_ble_eq_true rfl) (Nat.le_of_ble_eq_true rfl)
theorem r_MRm_which_5 {x : Int32} : Rr X d MRm_which 5 L (.int x :: st) h = if x = 0 then Rr X d MRm_which 16 L st h else Rr X d MRm_which 8 L st h := R_if_eq d_MRm_which_5 (by decide)
theorem r_MRm_which_8 : Rr X d MRm_which 8 L st h = Rr X d MRm_which 9 L (.int (0) :: st) h := Rr_nx d_MRm_which_8 rfl
theorem r_MRm_which_9 {l0 l1 l3 l4 l5 l6 : Value} {x : Int32} : Rr X d MRm_which 9 [l0, l1, .int x, l3, l4, l5, l6] st h = Rr X d MRm_which 10 [l0, l1, .int x, l3, l4, l5, l6] (.int x :: st) h := Rr_nx d_MRm_which_9 rfl
theorem r_MRm_which_10 {y0 : Int32} {y1 : Int32} (hc : ckS st = true) : Rr X (d + 1) MRm_which 10 L (.int y1 :: .int y0 :: st) h = (Rr X d MRm_isStart 0 [.int y0, .int y1] [] h).bind fun q => Rr X (d + 1) MRm_which 13 L (psh q.1 st) q.2 := R_is (av := [.int y1, .int y0]) d_MRm_which_10 (Or.inl fc_10_290) (ckS_le hc) rfl (Nat.le_of_ble_eq_true rfl) (Nat.le_of_ble_eq_true rfl)
theorem r_MRm_which_13 {x : Int32} : Rr X d MRm_which 13 L (.int x :: st) h = if ¬ x = 0 then Rr X d MRm_which 18 L st h else Rr X d MRm_which 16 L st h := R_if_ne d_MRm_which_13 (by decide)
theorem r_MRm_which_16 : Rr X d MRm_which 16 L st h = Rr X d MRm_which 17 L (.int (-1) :: st) h := Rr_nx d_MRm_which_16 rfl
theorem r_MRm_which_17 {x : Int32} : Rr X d MRm_which 17 L [.int x] h = some (some (.int x), h) := R_ir d_MRm_which_17 rfl
theorem r_MRm_which_18 {l1 l2 l3 l4 l5 l6 : Value} {x : Nat} : Rr X d MRm_which 18 [.ref x, l1, l2, l3, l4, l5, l6] st h = Rr X d MRm_which 19 [.ref x, l1, l2, l3, l4, l5, l6] (.ref x :: st) h := Rr_nx d_MRm_which_18 rfl
theorem r_MRm_which_19 {a : Nat} (hq : qI a 10 47 = true) : Rr X d MRm_which 19 L (.ref a :: st) (Wd mu la ro et) = Rr X d MRm_which 22 L (.int (mu a 47) :: st) (Wd mu la ro et) := R_gfI d_MRm_which_19 ff_10_339 hq
theorem r_MRm_which_22 {x : Int32} : Rr X d MRm_which 22 L (.int x :: st) h = if x = 0 then Rr X d MRm_which 32 L st h else Rr X d MRm_which 25 L st h := R_if_eq d_MRm_which_22 (by decide)
theorem r_MRm_which_25 {l1 l2 l3 l4 l5 l6 : Value} {x : Nat} : Rr X d MRm_which 25 [.ref x, l1, l2, l3, l4, l5, l6] st h = Rr X d MRm_which 26 [.ref x, l1, l2, l3, l4, l5, l6] (.ref x :: st) h := Rr_nx d_MRm_which_25 rfl
theorem r_MRm_which_26 {a : Nat} (hq : qI a 10 29 = true) : Rr X d MRm_which 26 L (.ref a :: st) (Wd mu la ro et) = Rr X d MRm_which 29 L (.int (mu a 29) :: st) (Wd mu la ro et) := R_gfI d_MRm_which_26 ff_10_250 hq
theorem r_MRm_which_29 {x : Int32} : Rr X d MRm_which 29 L (.int x :: st) h = if ¬ x = 0 then Rr X d MRm_which 35 L st h else Rr X d MRm_which 32 L st h := R_if_ne d_MRm_which_29 (by decide)
theorem r_MRm_which_32 : Rr X d MRm_which 32 L st h = Rr X d MRm_which 34 L (.int (-5) :: st) h := Rr_nx d_MRm_which_32 rfl
theorem r_MRm_which_34 {x : Int32} : Rr X d MRm_which 34 L [.int x] h = some (some (.int x), h) := R_ir d_MRm_which_34 rfl
theorem r_MRm_which_35 : Rr X d MRm_which 35 L st h = Rr X d MRm_which 36 L (.int (0) :: st) h := Rr_nx d_MRm_which_35 rfl
theorem r_MRm_which_36 {l0 l1 l2 l3 l4 l5 l6 : Value} {x : Int32} : Rr X d MRm_which 36 [l0, l1, l2, l3, l4, l5, l6] (.int x :: st) h = Rr X d MRm_which 37 (sL [l0, l1, l2, l3, l4, l5, l6] 3 (.int x)) st h := Rr_nx d_MRm_which_36 rfl
theorem r_MRm_which_37 : Rr X d MRm_which 37 L st h = Rr X d MRm_which 38 L (.int (-1) :: st) h := Rr_nx d_MRm_which_37 rfl
theorem r_MRm_which_38 {l0 l1 l2 l3 l4 l5 l6 : Value} {x : Int32} : Rr X d MRm_which 38 [l0, l1, l2, l3, l4, l5, l6] (.int x :: st) h = Rr X d MRm_which 40 (sL [l0, l1, l2, l3, l4, l5, l6] 4 (.int x)) st h := Rr_nx d_MRm_which_38 rfl
theorem r_MRm_which_40 : Rr X d MRm_which 40 L st h = Rr X d MRm_which 41 L (.int (0) :: st) h := Rr_nx d_MRm_which_40 rfl
theorem r_MRm_which_41 {l0 l1 l2 l3 l4 l5 l6 : Value} {x : Int32} : Rr X d MRm_which 41 [l0, l1, l2, l3, l4, l5, l6] (.int x :: st) h = Rr X d MRm_which 43 (sL [l0, l1, l2, l3, l4, l5, l6] 5 (.int x)) st h := Rr_nx d_MRm_which_41 rfl
theorem r_MRm_which_43 {l0 l1 l2 l3 l4 l6 : Value} {x : Int32} : Rr X d MRm_which 43 [l0, l1, l2, l3, l4, .int x, l6] st h = Rr X d MRm_which 45 [l0, l1, l2, l3, l4, .int x, l6] (.int x :: st) h := Rr_nx d_MRm_which_43 rfl
theorem r_MRm_which_45 {l1 l2 l3 l4 l5 l6 : Value} {x : Nat} : Rr X d MRm_which 45 [.ref x, l1, l2, l3, l4, l5, l6] st h = Rr X d MRm_which 46 [.ref x, l1, l2, l3, l4, l5, l6] (.ref x :: st) h := Rr_nx d_MRm_which_45 rfl
theorem r_MRm_which_46 {a : Nat} (hq : qI a 10 29 = true) : Rr X d MRm_which 46 L (.ref a :: st) (Wd mu la ro et) = Rr X d MRm_which 49 L (.int (mu a 29) :: st) (Wd mu la ro et) := R_gfI d_MRm_which_46 ff_10_250 hq
theorem r_MRm_which_49 {x y : Int32} : Rr X d MRm_which 49 L (.int y :: .int x :: st) h = if y ≤ x then Rr X d MRm_which 95 L st h else Rr X d MRm_which 52 L st h := R_ic_ge d_MRm_which_49 (by decide)
theorem r_MRm_which_52 {l1 l2 l3 l4 l5 l6 : Value} {x : Nat} : Rr X d MRm_which 52 [.ref x, l1, l2, l3, l4, l5, l6] st h = Rr X d MRm_which 53 [.ref x, l1, l2, l3, l4, l5, l6] (.ref x :: st) h := Rr_nx d_MRm_which_52 rfl
theorem r_MRm_which_53 {l0 l2 l3 l4 l5 l6 : Value} {x : Int32} : Rr X d MRm_which 53 [l0, .int x, l2, l3, l4, l5, l6] st h = Rr X d MRm_which 54 [l0, .int x, l2, l3, l4, l5, l6] (.int x :: st) h := Rr_nx d_MRm_which_53 rfl
theorem r_MRm_which_54 {l1 l2 l3 l4 l5 l6 : Value} {x : Nat} : Rr X d MRm_which 54 [.ref x, l1, l2, l3, l4, l5, l6] st h = Rr X d MRm_which 55 [.ref x, l1, l2, l3, l4, l5, l6] (.ref x :: st) h := Rr_nx d_MRm_which_54 rfl
theorem r_MRm_which_55 {l0 l2 l3 l4 l5 l6 : Value} {x : Int32} : Rr X d MRm_which 55 [l0, .int x, l2, l3, l4, l5, l6] st h = Rr X d MRm_which 56 [l0, .int x, l2, l3, l4, l5, l6] (.int x :: st) h := Rr_nx d_MRm_which_55 rfl
theorem r_MRm_which_56 {y0 : Int32} {a : Nat} (hO : qO a 10 = true) (hc : ckS st = true) : Rr X (d + 1) MRm_which 56 L (.int y0 :: .ref a :: st) (Wd mu la ro et) = (Rr X d MRm_keenOf 0 [.ref a, .int y0] [] (Wd mu la ro et)).bind fun q => Rr X (d + 1) MRm_which 59 L (psh q.1 st) q.2 := R_iv (av := [.int y0]) d_MRm_which_56 fc_10_177 hO (ckS_le hc) rfl (Nat.le_of_ble_eq_true rfl) (Nat.le_of_ble_eq_true rfl)
theorem r_MRm_which_59 {l0 l1 l2 l3 l4 l6 : Value} {x : Int32} : Rr X d MRm_which 59 [l0, l1, l2, l3, l4, .int x, l6] st h = Rr X d MRm_which 61 [l0, l1, l2, l3, l4, .int x, l6] (.int x :: st) h := Rr_nx d_MRm_which_59 rfl
theorem r_MRm_which_61 {l0 l1 l3 l4 l5 l6 : Value} {x : Int32} : Rr X d MRm_which 61 [l0, l1, .int x, l3, l4, l5, l6] st h = Rr X d MRm_which 62 [l0, l1, .int x, l3, l4, l5, l6] (.int x :: st) h := Rr_nx d_MRm_which_61 rfl
theorem r_MRm_which_62 {y0 : Int32} {y1 : Int32} {y2 : Int32} {y3 : Int32} {a : Nat} (hO : qO a 10 = true) (hc : ckS st = true) : Rr X (d + 1) MRm_which 62 L (.int y3 :: .int y2 :: .int y1 :: .int y0 :: .ref a :: st) (Wd mu la ro et) = (Rr X d MRm_offBy 0 [.ref a, .int y0, .int y1, .int y2, .int y3, mkU, mkU, mkU] [] (Wd mu la ro et)).bind fun q => Rr X (d + 1) MRm_which 65 L (psh q.1 st) q.2 := R_iv (av := [.int y3, .int y2, .int y1, .int y0]) d_MRm_which_62 fc_10_351 hO (ckS_le hc) rfl (Nat.le_of_ble_eq_true rfl) (Nat.le_of_ble_eq_true rfl)
theorem r_MRm_which_65 {l0 l1 l2 l3 l4 l5 l6 : Value} {x : Int32} : Rr X d MRm_which 65 [l0, l1, l2, l3, l4, l5, l6] (.int x :: st) h = Rr X d MRm_which 67 (sL [l0, l1, l2, l3, l4, l5, l6] 6 (.int x)) st h := Rr_nx d_MRm_which_65 rfl
theorem r_MRm_which_67 {l0 l1 l2 l3 l5 l6 : Value} {x : Int32} : Rr X d MRm_which 67 [l0, l1, l2, l3, .int x, l5, l6] st h = Rr X d MRm_which 69 [l0, l1, l2, l3, .int x, l5, l6] (.int x :: st) h := Rr_nx d_MRm_which_67 rfl
theorem r_MRm_which_69 {x : Int32} : Rr X d MRm_which 69 L (.int x :: st) h = if x < 0 then Rr X d MRm_which 82 L st h else Rr X d MRm_which 72 L st h := R_if_lt d_MRm_which_69 (by decide)
theorem r_MRm_which_72 {l0 l1 l2 l3 l4 l5 : Value} {x : Int32} : Rr X d MRm_which 72 [l0, l1, l2, l3, l4, l5, .int x] st h = Rr X d MRm_which 74 [l0, l1, l2, l3, l4, l5, .int x] (.int x :: st) h := Rr_nx d_MRm_which_72 rfl
theorem r_MRm_which_74 {l0 l1 l2 l3 l5 l6 : Value} {x : Int32} : Rr X d MRm_which 74 [l0, l1, l2, l3, .int x, l5, l6] st h = Rr X d MRm_which 76 [l0, l1, l2, l3, .int x, l5, l6] (.int x :: st) h := Rr_nx d_MRm_which_74 rfl
theorem r_MRm_which_76 {x y : Int32} : Rr X d MRm_which 76 L (.int y :: .int x :: st) h = if x < y then Rr X d MRm_which 82 L st h else Rr X d MRm_which 79 L st h := R_ic_lt d_MRm_which_76 (by decide)
theorem r_MRm_which_79 : Rr X d MRm_which 79 L st h = Rr X d MRm_which 89 L st h := R_goto d_MRm_which_79 (by decide)
theorem r_MRm_which_82 {l0 l1 l2 l3 l4 l6 : Value} {x : Int32} : Rr X d MRm_which 82 [l0, l1, l2, l3, l4, .int x, l6] st h = Rr X d MRm_which 84 [l0, l1, l2, l3, l4, .int x, l6] (.int x :: st) h := Rr_nx d_MRm_which_82 rfl
theorem r_MRm_which_84 {l0 l1 l2 l3 l4 l5 l6 : Value} {x : Int32} : Rr X d MRm_which 84 [l0, l1, l2, l3, l4, l5, l6] (.int x :: st) h = Rr X d MRm_which 85 (sL [l0, l1, l2, l3, l4, l5, l6] 3 (.int x)) st h := Rr_nx d_MRm_which_84 rfl
theorem r_MRm_which_85 {l0 l1 l2 l3 l4 l5 : Value} {x : Int32} : Rr X d MRm_which 85 [l0, l1, l2, l3, l4, l5, .int x] st h = Rr X d MRm_which 87 [l0, l1, l2, l3, l4, l5, .int x] (.int x :: st) h := Rr_nx d_MRm_which_85 rfl
theorem r_MRm_which_87 {l0 l1 l2 l3 l4 l5 l6 : Value} {x : Int32} : Rr X d MRm_which 87 [l0, l1, l2, l3, l4, l5, l6] (.int x :: st) h = Rr X d MRm_which 89 (sL [l0, l1, l2, l3, l4, l5, l6] 4 (.int x)) st h := Rr_nx d_MRm_which_87 rfl
theorem r_MRm_which_89 {l0 l1 l2 l3 l4 l6 : Value} {x : Int32} : Rr X d MRm_which 89 [l0, l1, l2, l3, l4, .int x, l6] st h = Rr X d MRm_which 92 (sL [l0, l1, l2, l3, l4, .int x, l6] 5 (.int (x + (1)))) st h := Rr_nx d_MRm_which_89 rfl
theorem r_MRm_which_92 : Rr X d MRm_which 92 L st h = Rr X d MRm_which 43 L st h := R_goto d_MRm_which_92 (by decide)
theorem r_MRm_which_95 {l0 l1 l2 l4 l5 l6 : Value} {x : Int32} : Rr X d MRm_which 95 [l0, l1, l2, .int x, l4, l5, l6] st h = Rr X d MRm_which 96 [l0, l1, l2, .int x, l4, l5, l6] (.int x :: st) h := Rr_nx d_MRm_which_95 rfl
theorem r_MRm_which_96 {x : Int32} : Rr X d MRm_which 96 L [.int x] h = some (some (.int x), h) := R_ir d_MRm_which_96 rfl
theorem d_MRm_chance_0 : decode MRm_chance.2.2.1 0 = .ok (.iload_n 1, 1) := by decide +kernel
theorem d_MRm_chance_1 : decode MRm_chance.2.2.1 1 = .ok (.iconst 1, 1) := by decide +kernel
theorem d_MRm_chance_2 : decode MRm_chance.2.2.1 2 = .ok (.bipush 40, 2) := by decide +kernel
theorem d_MRm_chance_4 : decode MRm_chance.2.2.1 4 = .ok (.invokestatic 107, 3) := by decide +kernel
theorem d_MRm_chance_7 : decode MRm_chance.2.2.1 7 = .ok (.ifCond .eq 12, 3) := by decide +kernel
theorem d_MRm_chance_10 : decode MRm_chance.2.2.1 10 = .ok (.iload_n 2, 1) := by decide +kernel
theorem d_MRm_chance_11 : decode MRm_chance.2.2.1 11 = .ok (.iconst 0, 1) := by decide +kernel
theorem d_MRm_chance_12 : decode MRm_chance.2.2.1 12 = .ok (.iload_n 1, 1) := by decide +kernel
theorem d_MRm_chance_13 : decode MRm_chance.2.2.1 13 = .ok (.invokestatic 107, 3) := by decide +kernel
theorem d_MRm_chance_16 : decode MRm_chance.2.2.1 16 = .ok (.ifCond .ne 5, 3) := by decide +kernel
theorem d_MRm_chance_19 : decode MRm_chance.2.2.1 19 = .ok (.iconst (-1), 1) := by decide +kernel
theorem d_MRm_chance_20 : decode MRm_chance.2.2.1 20 = .ok (.ireturn, 1) := by decide +kernel
theorem d_MRm_chance_21 : decode MRm_chance.2.2.1 21 = .ok (.iload_n 2, 1) := by decide +kernel
theorem d_MRm_chance_22 : decode MRm_chance.2.2.1 22 = .ok (.iload_n 1, 1) := by decide +kernel
theorem d_MRm_chance_23 : decode MRm_chance.2.2.1 23 = .ok (.iload_n 2, 1) := by decide +kernel
theorem d_MRm_chance_24 : decode MRm_chance.2.2.1 24 = .ok (.isub, 1) := by decide +kernel
theorem d_MRm_chance_25 : decode MRm_chance.2.2.1 25 = .ok (.if_icmp .le 7, 3) := by decide +kernel
theorem d_MRm_chance_28 : decode MRm_chance.2.2.1 28 = .ok (.iload_n 2, 1) := by decide +kernel
theorem d_MRm_chance_29 : decode MRm_chance.2.2.1 29 = .ok (.goto 6, 3) := by decide +kernel
theorem d_MRm_chance_32 : decode MRm_chance.2.2.1 32 = .ok (.iload_n 1, 1) := by decide +kernel
theorem d_MRm_chance_33 : decode MRm_chance.2.2.1 33 = .ok (.iload_n 2, 1) := by decide +kernel
theorem d_MRm_chance_34 : decode MRm_chance.2.2.1 34 = .ok (.isub, 1) := by decide +kernel
theorem d_MRm_chance_35 : decode MRm_chance.2.2.1 35 = .ok (.istore_n 3, 1) := by decide +kernel
theorem d_MRm_chance_36 : decode MRm_chance.2.2.1 36 = .ok (.iconst 0, 1) := by decide +kernel
theorem d_MRm_chance_37 : decode MRm_chance.2.2.1 37 = .ok (.istore 4, 2) := by decide +kernel
theorem d_MRm_chance_39 : decode MRm_chance.2.2.1 39 = .ok (.iload 4, 2) := by decide +kernel
theorem d_MRm_chance_41 : decode MRm_chance.2.2.1 41 = .ok (.bipush 40, 2) := by decide +kernel
theorem d_MRm_chance_43 : decode MRm_chance.2.2.1 43 = .ok (.if_icmp .gt 26, 3) := by decide +kernel
theorem d_MRm_chance_46 : decode MRm_chance.2.2.1 46 = .ok (.aload_n 0, 1) := by decide +kernel
theorem d_MRm_chance_47 : decode MRm_chance.2.2.1 47 = .ok (.getfield 82, 3) := by decide +kernel
theorem d_MRm_chance_50 : decode MRm_chance.2.2.1 50 = .ok (.iload 4, 2) := by decide +kernel
theorem d_MRm_chance_52 : decode MRm_chance.2.2.1 52 = .ok (.iload 4, 2) := by decide +kernel
theorem d_MRm_chance_54 : decode MRm_chance.2.2.1 54 = .ok (.ifCond .ne 7, 3) := by decide +kernel
theorem d_MRm_chance_57 : decode MRm_chance.2.2.1 57 = .ok (.lconst 1, 1) := by decide +kernel
theorem d_MRm_chance_58 : decode MRm_chance.2.2.1 58 = .ok (.goto 4, 3) := by decide +kernel
theorem d_MRm_chance_61 : decode MRm_chance.2.2.1 61 = .ok (.lconst 0, 1) := by decide +kernel
theorem d_MRm_chance_62 : decode MRm_chance.2.2.1 62 = .ok (.lastore, 1) := by decide +kernel
theorem d_MRm_chance_63 : decode MRm_chance.2.2.1 63 = .ok (.iinc 4 1, 3) := by decide +kernel
theorem d_MRm_chance_66 : decode MRm_chance.2.2.1 66 = .ok (.goto (-27), 3) := by decide +kernel
theorem d_MRm_chance_69 : decode MRm_chance.2.2.1 69 = .ok (.iconst 0, 1) := by decide +kernel
theorem d_MRm_chance_70 : decode MRm_chance.2.2.1 70 = .ok (.istore 4, 2) := by decide +kernel
theorem d_MRm_chance_72 : decode MRm_chance.2.2.1 72 = .ok (.iload 4, 2) := by decide +kernel
theorem d_MRm_chance_74 : decode MRm_chance.2.2.1 74 = .ok (.iload_n 1, 1) := by decide +kernel
theorem d_MRm_chance_75 : decode MRm_chance.2.2.1 75 = .ok (.if_icmp .ge 42, 3) := by decide +kernel
theorem d_MRm_chance_78 : decode MRm_chance.2.2.1 78 = .ok (.iload_n 1, 1) := by decide +kernel
theorem d_MRm_chance_79 : decode MRm_chance.2.2.1 79 = .ok (.istore 5, 2) := by decide +kernel
theorem d_MRm_chance_81 : decode MRm_chance.2.2.1 81 = .ok (.iload 5, 2) := by decide +kernel
theorem d_MRm_chance_83 : decode MRm_chance.2.2.1 83 = .ok (.ifCond .le 28, 3) := by decide +kernel
theorem d_MRm_chance_86 : decode MRm_chance.2.2.1 86 = .ok (.aload_n 0, 1) := by decide +kernel
theorem d_MRm_chance_87 : decode MRm_chance.2.2.1 87 = .ok (.getfield 82, 3) := by decide +kernel
theorem d_MRm_chance_90 : decode MRm_chance.2.2.1 90 = .ok (.iload 5, 2) := by decide +kernel
theorem d_MRm_chance_92 : decode MRm_chance.2.2.1 92 = .ok (.dup2, 1) := by decide +kernel
theorem d_MRm_chance_93 : decode MRm_chance.2.2.1 93 = .ok (.laload, 1) := by decide +kernel
theorem d_MRm_chance_94 : decode MRm_chance.2.2.1 94 = .ok (.aload_n 0, 1) := by decide +kernel
theorem d_MRm_chance_95 : decode MRm_chance.2.2.1 95 = .ok (.getfield 82, 3) := by decide +kernel
theorem d_MRm_chance_98 : decode MRm_chance.2.2.1 98 = .ok (.iload 5, 2) := by decide +kernel
theorem d_MRm_chance_100 : decode MRm_chance.2.2.1 100 = .ok (.iconst 1, 1) := by decide +kernel
theorem d_MRm_chance_101 : decode MRm_chance.2.2.1 101 = .ok (.isub, 1) := by decide +kernel
theorem d_MRm_chance_102 : decode MRm_chance.2.2.1 102 = .ok (.laload, 1) := by decide +kernel
theorem d_MRm_chance_103 : decode MRm_chance.2.2.1 103 = .ok (.ladd, 1) := by decide +kernel
theorem d_MRm_chance_104 : decode MRm_chance.2.2.1 104 = .ok (.lastore, 1) := by decide +kernel
theorem d_MRm_chance_105 : decode MRm_chance.2.2.1 105 = .ok (.iinc 5 (-1), 3) := by decide +kernel
theorem d_MRm_chance_108 : decode MRm_chance.2.2.1 108 = .ok (.goto (-27), 3) := by decide +kernel
theorem d_MRm_chance_111 : decode MRm_chance.2.2.1 111 = .ok (.iinc 4 1, 3) := by decide +kernel
theorem d_MRm_chance_114 : decode MRm_chance.2.2.1 114 = .ok (.goto (-42), 3) := by decide +kernel
theorem d_MRm_chance_117 : decode MRm_chance.2.2.1 117 = .ok (.lconst 0, 1) := by decide +kernel
theorem d_MRm_chance_118 : decode MRm_chance.2.2.1 118 = .ok (.lstore 4, 2) := by decide +kernel
theorem d_MRm_chance_120 : decode MRm_chance.2.2.1 120 = .ok (.lconst 0, 1) := by decide +kernel
theorem d_MRm_chance_121 : decode MRm_chance.2.2.1 121 = .ok (.lstore 6, 2) := by decide +kernel
theorem d_MRm_chance_123 : decode MRm_chance.2.2.1 123 = .ok (.iconst 0, 1) := by decide +kernel
theorem d_MRm_chance_124 : decode MRm_chance.2.2.1 124 = .ok (.istore 8, 2) := by decide +kernel
theorem d_MRm_chance_126 : decode MRm_chance.2.2.1 126 = .ok (.iload 8, 2) := by decide +kernel
theorem d_MRm_chance_128 : decode MRm_chance.2.2.1 128 = .ok (.iload_n 1, 1) := by decide +kernel
theorem d_MRm_chance_129 : decode MRm_chance.2.2.1 129 = .ok (.if_icmp .gt 47, 3) := by decide +kernel
theorem d_MRm_chance_132 : decode MRm_chance.2.2.1 132 = .ok (.lload 4, 2) := by decide +kernel
theorem d_MRm_chance_134 : decode MRm_chance.2.2.1 134 = .ok (.aload_n 0, 1) := by decide +kernel
theorem d_MRm_chance_135 : decode MRm_chance.2.2.1 135 = .ok (.getfield 82, 3) := by decide +kernel
theorem d_MRm_chance_138 : decode MRm_chance.2.2.1 138 = .ok (.iload 8, 2) := by decide +kernel
theorem d_MRm_chance_140 : decode MRm_chance.2.2.1 140 = .ok (.laload, 1) := by decide +kernel
theorem d_MRm_chance_141 : decode MRm_chance.2.2.1 141 = .ok (.ladd, 1) := by decide +kernel
theorem d_MRm_chance_142 : decode MRm_chance.2.2.1 142 = .ok (.lstore 4, 2) := by decide +kernel
theorem d_MRm_chance_144 : decode MRm_chance.2.2.1 144 = .ok (.iload 8, 2) := by decide +kernel
theorem d_MRm_chance_146 : decode MRm_chance.2.2.1 146 = .ok (.iload_n 3, 1) := by decide +kernel
theorem d_MRm_chance_147 : decode MRm_chance.2.2.1 147 = .ok (.if_icmp .ge 11, 3) := by decide +kernel
theorem d_MRm_chance_150 : decode MRm_chance.2.2.1 150 = .ok (.iload_n 1, 1) := by decide +kernel
theorem d_MRm_chance_151 : decode MRm_chance.2.2.1 151 = .ok (.iload 8, 2) := by decide +kernel
theorem d_MRm_chance_153 : decode MRm_chance.2.2.1 153 = .ok (.isub, 1) := by decide +kernel
theorem d_MRm_chance_154 : decode MRm_chance.2.2.1 154 = .ok (.iload_n 3, 1) := by decide +kernel
theorem d_MRm_chance_155 : decode MRm_chance.2.2.1 155 = .ok (.if_icmp .lt 15, 3) := by decide +kernel
theorem d_MRm_chance_158 : decode MRm_chance.2.2.1 158 = .ok (.lload 6, 2) := by decide +kernel
theorem d_MRm_chance_160 : decode MRm_chance.2.2.1 160 = .ok (.aload_n 0, 1) := by decide +kernel
theorem d_MRm_chance_161 : decode MRm_chance.2.2.1 161 = .ok (.getfield 82, 3) := by decide +kernel
theorem d_MRm_chance_164 : decode MRm_chance.2.2.1 164 = .ok (.iload 8, 2) := by decide +kernel
theorem d_MRm_chance_166 : decode MRm_chance.2.2.1 166 = .ok (.laload, 1) := by decide +kernel
theorem d_MRm_chance_167 : decode MRm_chance.2.2.1 167 = .ok (.ladd, 1) := by decide +kernel
theorem d_MRm_chance_168 : decode MRm_chance.2.2.1 168 = .ok (.lstore 6, 2) := by decide +kernel
theorem d_MRm_chance_170 : decode MRm_chance.2.2.1 170 = .ok (.iinc 8 1, 3) := by decide +kernel
theorem d_MRm_chance_173 : decode MRm_chance.2.2.1 173 = .ok (.goto (-47), 3) := by decide +kernel
theorem d_MRm_chance_176 : decode MRm_chance.2.2.1 176 = .ok (.lload 6, 2) := by decide +kernel
theorem d_MRm_chance_178 : decode MRm_chance.2.2.1 178 = .ok (.ldc2_w 354, 3) := by decide +kernel
theorem d_MRm_chance_181 : decode MRm_chance.2.2.1 181 = .ok (.lmul, 1) := by decide +kernel
theorem d_MRm_chance_182 : decode MRm_chance.2.2.1 182 = .ok (.lload 4, 2) := by decide +kernel
theorem d_MRm_chance_184 : decode MRm_chance.2.2.1 184 = .ok (.ldiv, 1) := by decide +kernel
theorem d_MRm_chance_185 : decode MRm_chance.2.2.1 185 = .ok (.l2i, 1) := by decide +kernel
theorem d_MRm_chance_186 : decode MRm_chance.2.2.1 186 = .ok (.ireturn, 1) := by decide +kernel
theorem r_MRm_chance_0 {l0 l2 l3 l4 l5 l6 l7 l8 : Value} {x : Int32} : Rr X d MRm_chance 0 [l0, .int x, l2, l3, l4, l5, l6, l7, l8] st h = Rr X d MRm_chance 1 [l0, .int x, l2, l3, l4, l5, l6, l7, l8] (.int x :: st) h := Rr_nx d_MRm_chance_0 rfl
theorem r_MRm_chance_1 : Rr X d MRm_chance 1 L st h = Rr X d MRm_chance 2 L (.int (1) :: st) h := Rr_nx d_MRm_chance_1 rfl
theorem r_MRm_chance_2 : Rr X d MRm_chance 2 L st h = Rr X d MRm_chance 4 L (.int (40) :: st) h := Rr_nx d_MRm_chance_2 rfl
theorem r_MRm_chance_4 {y0 : Int32} {y1 : Int32} {y2 : Int32} (hc : ckS st = true) : Rr X (d + 1) MRm_chance 4 L (.int y2 :: .int y1 :: .int y0 :: st) h = (Rr X d MRm_in 0 [.int y0, .int y1, .int y2] [] h).bind fun q => Rr X (d + 1) MRm_chance 7 L (psh q.1 st) q.2 := R_is (av := [.int y2, .int y1, .int y0]) d_MRm_chance_4 (Or.inl fc_10_107) (ckS_le hc) rfl (Nat.le_of_ble_eq_true rfl) (Nat.le_of_ble_eq_true rfl)
theorem r_MRm_chance_7 {x : Int32} : Rr X d MRm_chance 7 L (.int x :: st) h = if x = 0 then Rr X d MRm_chance 19 L st h else Rr X d MRm_chance 10 L st h := R_if_eq d_MRm_chance_7 (by decide)
theorem r_MRm_chance_10 {l0 l1 l3 l4 l5 l6 l7 l8 : Value} {x : Int32} : Rr X d MRm_chance 10 [l0, l1, .int x, l3, l4, l5, l6, l7, l8] st h = Rr X d MRm_chance 11 [l0, l1, .int x, l3, l4, l5, l6, l7, l8] (.int x :: st) h := Rr_nx d_MRm_chance_10 rfl
theorem r_MRm_chance_11 : Rr X d MRm_chance 11 L st h = Rr X d MRm_chance 12 L (.int (0) :: st) h := Rr_nx d_MRm_chance_11 rfl
theorem r_MRm_chance_12 {l0 l2 l3 l4 l5 l6 l7 l8 : Value} {x : Int32} : Rr X d MRm_chance 12 [l0, .int x, l2, l3, l4, l5, l6, l7, l8] st h = Rr X d MRm_chance 13 [l0, .int x, l2, l3, l4, l5, l6, l7, l8] (.int x :: st) h := Rr_nx d_MRm_chance_12 rfl
theorem r_MRm_chance_13 {y0 : Int32} {y1 : Int32} {y2 : Int32} (hc : ckS st = true) : Rr X (d + 1) MRm_chance 13 L (.int y2 :: .int y1 :: .int y0 :: st) h = (Rr X d MRm_in 0 [.int y0, .int y1, .int y2] [] h).bind fun q => Rr X (d + 1) MRm_chance 16 L (psh q.1 st) q.2 := R_is (av := [.int y2, .int y1, .int y0]) d_MRm_chance_13 (Or.inl fc_10_107) (ckS_le hc) rfl (Nat.le_of_ble_eq_true rfl) (Nat.le_of_ble_eq_true rfl)
theorem r_MRm_chance_16 {x : Int32} : Rr X d MRm_chance 16 L (.int x :: st) h = if ¬ x = 0 then Rr X d MRm_chance 21 L st h else Rr X d MRm_chance 19 L st h := R_if_ne d_MRm_chance_16 (by decide)
theorem r_MRm_chance_19 : Rr X d MRm_chance 19 L st h = Rr X d MRm_chance 20 L (.int (-1) :: st) h := Rr_nx d_MRm_chance_19 rfl
theorem r_MRm_chance_20 {x : Int32} : Rr X d MRm_chance 20 L [.int x] h = some (some (.int x), h) := R_ir d_MRm_chance_20 rfl
theorem r_MRm_chance_21 {l0 l1 l3 l4 l5 l6 l7 l8 : Value} {x : Int32} : Rr X d MRm_chance 21 [l0, l1, .int x, l3, l4, l5, l6, l7, l8] st h = Rr X d MRm_chance 22 [l0, l1, .int x, l3, l4, l5, l6, l7, l8] (.int x :: st) h := Rr_nx d_MRm_chance_21 rfl
theorem r_MRm_chance_22 {l0 l2 l3 l4 l5 l6 l7 l8 : Value} {x : Int32} : Rr X d MRm_chance 22 [l0, .int x, l2, l3, l4, l5, l6, l7, l8] st h = Rr X d MRm_chance 23 [l0, .int x, l2, l3, l4, l5, l6, l7, l8] (.int x :: st) h := Rr_nx d_MRm_chance_22 rfl
theorem r_MRm_chance_23 {l0 l1 l3 l4 l5 l6 l7 l8 : Value} {x : Int32} : Rr X d MRm_chance 23 [l0, l1, .int x, l3, l4, l5, l6, l7, l8] st h = Rr X d MRm_chance 24 [l0, l1, .int x, l3, l4, l5, l6, l7, l8] (.int x :: st) h := Rr_nx d_MRm_chance_23 rfl
theorem r_MRm_chance_24 {x y : Int32} : Rr X d MRm_chance 24 L (.int y :: .int x :: st) h = Rr X d MRm_chance 25 L (.int (x - y) :: st) h := Rr_nx d_MRm_chance_24 rfl
theorem r_MRm_chance_25 {x y : Int32} : Rr X d MRm_chance 25 L (.int y :: .int x :: st) h = if x ≤ y then Rr X d MRm_chance 32 L st h else Rr X d MRm_chance 28 L st h := R_ic_le d_MRm_chance_25 (by decide)
theorem r_MRm_chance_28 {l0 l1 l3 l4 l5 l6 l7 l8 : Value} {x : Int32} : Rr X d MRm_chance 28 [l0, l1, .int x, l3, l4, l5, l6, l7, l8] st h = Rr X d MRm_chance 29 [l0, l1, .int x, l3, l4, l5, l6, l7, l8] (.int x :: st) h := Rr_nx d_MRm_chance_28 rfl
theorem r_MRm_chance_29 : Rr X d MRm_chance 29 L st h = Rr X d MRm_chance 35 L st h := R_goto d_MRm_chance_29 (by decide)
theorem r_MRm_chance_32 {l0 l2 l3 l4 l5 l6 l7 l8 : Value} {x : Int32} : Rr X d MRm_chance 32 [l0, .int x, l2, l3, l4, l5, l6, l7, l8] st h = Rr X d MRm_chance 33 [l0, .int x, l2, l3, l4, l5, l6, l7, l8] (.int x :: st) h := Rr_nx d_MRm_chance_32 rfl
theorem r_MRm_chance_33 {l0 l1 l3 l4 l5 l6 l7 l8 : Value} {x : Int32} : Rr X d MRm_chance 33 [l0, l1, .int x, l3, l4, l5, l6, l7, l8] st h = Rr X d MRm_chance 34 [l0, l1, .int x, l3, l4, l5, l6, l7, l8] (.int x :: st) h := Rr_nx d_MRm_chance_33 rfl
theorem r_MRm_chance_34 {x y : Int32} : Rr X d MRm_chance 34 L (.int y :: .int x :: st) h = Rr X d MRm_chance 35 L (.int (x - y) :: st) h := Rr_nx d_MRm_chance_34 rfl
theorem r_MRm_chance_35 {l0 l1 l2 l3 l4 l5 l6 l7 l8 : Value} {x : Int32} : Rr X d MRm_chance 35 [l0, l1, l2, l3, l4, l5, l6, l7, l8] (.int x :: st) h = Rr X d MRm_chance 36 (sL [l0, l1, l2, l3, l4, l5, l6, l7, l8] 3 (.int x)) st h := Rr_nx d_MRm_chance_35 rfl
theorem r_MRm_chance_36 : Rr X d MRm_chance 36 L st h = Rr X d MRm_chance 37 L (.int (0) :: st) h := Rr_nx d_MRm_chance_36 rfl
theorem r_MRm_chance_37 {l0 l1 l2 l3 l4 l5 l6 l7 l8 : Value} {x : Int32} : Rr X d MRm_chance 37 [l0, l1, l2, l3, l4, l5, l6, l7, l8] (.int x :: st) h = Rr X d MRm_chance 39 (sL [l0, l1, l2, l3, l4, l5, l6, l7, l8] 4 (.int x)) st h := Rr_nx d_MRm_chance_37 rfl
theorem r_MRm_chance_39 {l0 l1 l2 l3 l5 l6 l7 l8 : Value} {x : Int32} : Rr X d MRm_chance 39 [l0, l1, l2, l3, .int x, l5, l6, l7, l8] st h = Rr X d MRm_chance 41 [l0, l1, l2, l3, .int x, l5, l6, l7, l8] (.int x :: st) h := Rr_nx d_MRm_chance_39 rfl
theorem r_MRm_chance_41 : Rr X d MRm_chance 41 L st h = Rr X d MRm_chance 43 L (.int (40) :: st) h := Rr_nx d_MRm_chance_41 rfl
theorem r_MRm_chance_43 {x y : Int32} : Rr X d MRm_chance 43 L (.int y :: .int x :: st) h = if y < x then Rr X d MRm_chance 69 L st h else Rr X d MRm_chance 46 L st h := R_ic_gt d_MRm_chance_43 (by decide)
theorem r_MRm_chance_46 {l1 l2 l3 l4 l5 l6 l7 l8 : Value} {x : Nat} : Rr X d MRm_chance 46 [.ref x, l1, l2, l3, l4, l5, l6, l7, l8] st h = Rr X d MRm_chance 47 [.ref x, l1, l2, l3, l4, l5, l6, l7, l8] (.ref x :: st) h := Rr_nx d_MRm_chance_46 rfl
theorem ff_10_82 : fF 10 82 = some (10, 50, 1, 1) := rfl
theorem r_MRm_chance_47 {a : Nat} (hq : (qR a 10 50).isSome = true) : Rr X d MRm_chance 47 L (.ref a :: st) (Wd mu la ro et) = Rr X d MRm_chance 50 L (.ref (qRd a 10 50) :: st) (Wd mu la ro et) := R_gfR d_MRm_chance_47 ff_10_82 hq
theorem r_MRm_chance_50 {l0 l1 l2 l3 l5 l6 l7 l8 : Value} {x : Int32} : Rr X d MRm_chance 50 [l0, l1, l2, l3, .int x, l5, l6, l7, l8] st h = Rr X d MRm_chance 52 [l0, l1, l2, l3, .int x, l5, l6, l7, l8] (.int x :: st) h := Rr_nx d_MRm_chance_50 rfl
theorem r_MRm_chance_52 {l0 l1 l2 l3 l5 l6 l7 l8 : Value} {x : Int32} : Rr X d MRm_chance 52 [l0, l1, l2, l3, .int x, l5, l6, l7, l8] st h = Rr X d MRm_chance 54 [l0, l1, l2, l3, .int x, l5, l6, l7, l8] (.int x :: st) h := Rr_nx d_MRm_chance_52 rfl
theorem r_MRm_chance_54 {x : Int32} : Rr X d MRm_chance 54 L (.int x :: st) h = if ¬ x = 0 then Rr X d MRm_chance 61 L st h else Rr X d MRm_chance 57 L st h := R_if_ne d_MRm_chance_54 (by decide)
theorem r_MRm_chance_57 : Rr X d MRm_chance 57 L st h = Rr X d MRm_chance 58 L (.long 1 :: st) h := Rr_nx d_MRm_chance_57 rfl
theorem r_MRm_chance_58 : Rr X d MRm_chance 58 L st h = Rr X d MRm_chance 62 L st h := R_goto d_MRm_chance_58 (by decide)
theorem r_MRm_chance_61 : Rr X d MRm_chance 61 L st h = Rr X d MRm_chance 62 L (.long 0 :: st) h := Rr_nx d_MRm_chance_61 rfl
theorem r_MRm_chance_62 {a : Nat} {j : Int32} {x : Int64} (hq : (qJ a).isSome = true) : Rr X d MRm_chance 62 L (.long x :: .int j :: .ref a :: st) (Wd mu la ro et) = if j < 0 ∨ qJd a ≤ j.toNatClampNeg then none else Rr X d MRm_chance 63 L st (Wd mu (upJ la a j.toNatClampNeg x) ro et) := R_lasW d_MRm_chance_62 hq
theorem r_MRm_chance_63 {l0 l1 l2 l3 l5 l6 l7 l8 : Value} {x : Int32} : Rr X d MRm_chance 63 [l0, l1, l2, l3, .int x, l5, l6, l7, l8] st h = Rr X d MRm_chance 66 (sL [l0, l1, l2, l3, .int x, l5, l6, l7, l8] 4 (.int (x + (1)))) st h := Rr_nx d_MRm_chance_63 rfl
theorem r_MRm_chance_66 : Rr X d MRm_chance 66 L st h = Rr X d MRm_chance 39 L st h := R_goto d_MRm_chance_66 (by decide)
theorem r_MRm_chance_69 : Rr X d MRm_chance 69 L st h = Rr X d MRm_chance 70 L (.int (0) :: st) h := Rr_nx d_MRm_chance_69 rfl
theorem r_MRm_chance_70 {l0 l1 l2 l3 l4 l5 l6 l7 l8 : Value} {x : Int32} : Rr X d MRm_chance 70 [l0, l1, l2, l3, l4, l5, l6, l7, l8] (.int x :: st) h = Rr X d MRm_chance 72 (sL [l0, l1, l2, l3, l4, l5, l6, l7, l8] 4 (.int x)) st h := Rr_nx d_MRm_chance_70 rfl
theorem r_MRm_chance_72 {l0 l1 l2 l3 l5 l6 l7 l8 : Value} {x : Int32} : Rr X d MRm_chance 72 [l0, l1, l2, l3, .int x, l5, l6, l7, l8] st h = Rr X d MRm_chance 74 [l0, l1, l2, l3, .int x, l5, l6, l7, l8] (.int x :: st) h := Rr_nx d_MRm_chance_72 rfl
theorem r_MRm_chance_74 {l0 l2 l3 l4 l5 l6 l7 l8 : Value} {x : Int32} : Rr X d MRm_chance 74 [l0, .int x, l2, l3, l4, l5, l6, l7, l8] st h = Rr X d MRm_chance 75 [l0, .int x, l2, l3, l4, l5, l6, l7, l8] (.int x :: st) h := Rr_nx d_MRm_chance_74 rfl
theorem r_MRm_chance_75 {x y : Int32} : Rr X d MRm_chance 75 L (.int y :: .int x :: st) h = if y ≤ x then Rr X d MRm_chance 117 L st h else Rr X d MRm_chance 78 L st h := R_ic_ge d_MRm_chance_75 (by decide)
theorem r_MRm_chance_78 {l0 l2 l3 l4 l5 l6 l7 l8 : Value} {x : Int32} : Rr X d MRm_chance 78 [l0, .int x, l2, l3, l4, l5, l6, l7, l8] st h = Rr X d MRm_chance 79 [l0, .int x, l2, l3, l4, l5, l6, l7, l8] (.int x :: st) h := Rr_nx d_MRm_chance_78 rfl
theorem r_MRm_chance_79 {l0 l1 l2 l3 l4 l5 l6 l7 l8 : Value} {x : Int32} : Rr X d MRm_chance 79 [l0, l1, l2, l3, l4, l5, l6, l7, l8] (.int x :: st) h = Rr X d MRm_chance 81 (sL [l0, l1, l2, l3, l4, l5, l6, l7, l8] 5 (.int x)) st h := Rr_nx d_MRm_chance_79 rfl
theorem r_MRm_chance_81 {l0 l1 l2 l3 l4 l6 l7 l8 : Value} {x : Int32} : Rr X d MRm_chance 81 [l0, l1, l2, l3, l4, .int x, l6, l7, l8] st h = Rr X d MRm_chance 83 [l0, l1, l2, l3, l4, .int x, l6, l7, l8] (.int x :: st) h := Rr_nx d_MRm_chance_81 rfl
theorem r_MRm_chance_83 {x : Int32} : Rr X d MRm_chance 83 L (.int x :: st) h = if x ≤ 0 then Rr X d MRm_chance 111 L st h else Rr X d MRm_chance 86 L st h := R_if_le d_MRm_chance_83 (by decide)
theorem r_MRm_chance_86 {l1 l2 l3 l4 l5 l6 l7 l8 : Value} {x : Nat} : Rr X d MRm_chance 86 [.ref x, l1, l2, l3, l4, l5, l6, l7, l8] st h = Rr X d MRm_chance 87 [.ref x, l1, l2, l3, l4, l5, l6, l7, l8] (.ref x :: st) h := Rr_nx d_MRm_chance_86 rfl
theorem r_MRm_chance_87 {a : Nat} (hq : (qR a 10 50).isSome = true) : Rr X d MRm_chance 87 L (.ref a :: st) (Wd mu la ro et) = Rr X d MRm_chance 90 L (.ref (qRd a 10 50) :: st) (Wd mu la ro et) := R_gfR d_MRm_chance_87 ff_10_82 hq
theorem r_MRm_chance_90 {l0 l1 l2 l3 l4 l6 l7 l8 : Value} {x : Int32} : Rr X d MRm_chance 90 [l0, l1, l2, l3, l4, .int x, l6, l7, l8] st h = Rr X d MRm_chance 92 [l0, l1, l2, l3, l4, .int x, l6, l7, l8] (.int x :: st) h := Rr_nx d_MRm_chance_90 rfl
theorem r_MRm_chance_92 {x : Int32} {y : Nat} : Rr X d MRm_chance 92 L (.int x :: .ref y :: st) h = Rr X d MRm_chance 93 L (.int x :: .ref y :: .int x :: .ref y :: st) h := Rr_nx d_MRm_chance_92 rfl
theorem r_MRm_chance_93 {a : Nat} {j : Int32} (hq : (qJ a).isSome = true) : Rr X d MRm_chance 93 L (.int j :: .ref a :: st) (Wd mu la ro et) = if j < 0 ∨ qJd a ≤ j.toNatClampNeg then none else Rr X d MRm_chance 94 L (.long (la a j.toNatClampNeg) :: st) (Wd mu la ro et) := R_lalW d_MRm_chance_93 hq
theorem r_MRm_chance_94 {l1 l2 l3 l4 l5 l6 l7 l8 : Value} {x : Nat} : Rr X d MRm_chance 94 [.ref x, l1, l2, l3, l4, l5, l6, l7, l8] st h = Rr X d MRm_chance 95 [.ref x, l1, l2, l3, l4, l5, l6, l7, l8] (.ref x :: st) h := Rr_nx d_MRm_chance_94 rfl
theorem r_MRm_chance_95 {a : Nat} (hq : (qR a 10 50).isSome = true) : Rr X d MRm_chance 95 L (.ref a :: st) (Wd mu la ro et) = Rr X d MRm_chance 98 L (.ref (qRd a 10 50) :: st) (Wd mu la ro et) := R_gfR d_MRm_chance_95 ff_10_82 hq
theorem r_MRm_chance_98 {l0 l1 l2 l3 l4 l6 l7 l8 : Value} {x : Int32} : Rr X d MRm_chance 98 [l0, l1, l2, l3, l4, .int x, l6, l7, l8] st h = Rr X d MRm_chance 100 [l0, l1, l2, l3, l4, .int x, l6, l7, l8] (.int x :: st) h := Rr_nx d_MRm_chance_98 rfl
theorem r_MRm_chance_100 : Rr X d MRm_chance 100 L st h = Rr X d MRm_chance 101 L (.int (1) :: st) h := Rr_nx d_MRm_chance_100 rfl
theorem r_MRm_chance_101 {x y : Int32} : Rr X d MRm_chance 101 L (.int y :: .int x :: st) h = Rr X d MRm_chance 102 L (.int (x - y) :: st) h := Rr_nx d_MRm_chance_101 rfl
theorem r_MRm_chance_102 {a : Nat} {j : Int32} (hq : (qJ a).isSome = true) : Rr X d MRm_chance 102 L (.int j :: .ref a :: st) (Wd mu la ro et) = if j < 0 ∨ qJd a ≤ j.toNatClampNeg then none else Rr X d MRm_chance 103 L (.long (la a j.toNatClampNeg) :: st) (Wd mu la ro et) := R_lalW d_MRm_chance_102 hq
theorem r_MRm_chance_103 {x y : Int64} : Rr X d MRm_chance 103 L (.long y :: .long x :: st) h = Rr X d MRm_chance 104 L (.long (x + y) :: st) h := Rr_nx d_MRm_chance_103 rfl
theorem r_MRm_chance_104 {a : Nat} {j : Int32} {x : Int64} (hq : (qJ a).isSome = true) : Rr X d MRm_chance 104 L (.long x :: .int j :: .ref a :: st) (Wd mu la ro et) = if j < 0 ∨ qJd a ≤ j.toNatClampNeg then none else Rr X d MRm_chance 105 L st (Wd mu (upJ la a j.toNatClampNeg x) ro et) := R_lasW d_MRm_chance_104 hq
theorem r_MRm_chance_105 {l0 l1 l2 l3 l4 l6 l7 l8 : Value} {x : Int32} : Rr X d MRm_chance 105 [l0, l1, l2, l3, l4, .int x, l6, l7, l8] st h = Rr X d MRm_chance 108 (sL [l0, l1, l2, l3, l4, .int x, l6, l7, l8] 5 (.int (x + (-1)))) st h := Rr_nx d_MRm_chance_105 rfl
theorem r_MRm_chance_108 : Rr X d MRm_chance 108 L st h = Rr X d MRm_chance 81 L st h := R_goto d_MRm_chance_108 (by decide)
theorem r_MRm_chance_111 {l0 l1 l2 l3 l5 l6 l7 l8 : Value} {x : Int32} : Rr X d MRm_chance 111 [l0, l1, l2, l3, .int x, l5, l6, l7, l8] st h = Rr X d MRm_chance 114 (sL [l0, l1, l2, l3, .int x, l5, l6, l7, l8] 4 (.int (x + (1)))) st h := Rr_nx d_MRm_chance_111 rfl
theorem r_MRm_chance_114 : Rr X d MRm_chance 114 L st h = Rr X d MRm_chance 72 L st h := R_goto d_MRm_chance_114 (by decide)
theorem r_MRm_chance_117 : Rr X d MRm_chance 117 L st h = Rr X d MRm_chance 118 L (.long 0 :: st) h := Rr_nx d_MRm_chance_117 rfl
theorem r_MRm_chance_118 {l0 l1 l2 l3 l4 l5 l6 l7 l8 : Value} {x : Int64} : Rr X d MRm_chance 118 [l0, l1, l2, l3, l4, l5, l6, l7, l8] (.long x :: st) h = Rr X d MRm_chance 120 ((sL [l0, l1, l2, l3, l4, l5, l6, l7, l8] 4 (.long x)).set 5 mkU) st h := Rr_nx d_MRm_chance_118 rfl
theorem r_MRm_chance_120 : Rr X d MRm_chance 120 L st h = Rr X d MRm_chance 121 L (.long 0 :: st) h := Rr_nx d_MRm_chance_120 rfl
theorem r_MRm_chance_121 {l0 l1 l2 l3 l4 l5 l6 l7 l8 : Value} {x : Int64} : Rr X d MRm_chance 121 [l0, l1, l2, l3, l4, l5, l6, l7, l8] (.long x :: st) h = Rr X d MRm_chance 123 ((sL [l0, l1, l2, l3, l4, l5, l6, l7, l8] 6 (.long x)).set 7 mkU) st h := Rr_nx d_MRm_chance_121 rfl
theorem r_MRm_chance_123 : Rr X d MRm_chance 123 L st h = Rr X d MRm_chance 124 L (.int (0) :: st) h := Rr_nx d_MRm_chance_123 rfl
theorem r_MRm_chance_124 {l0 l1 l2 l3 l4 l5 l6 l7 l8 : Value} {x : Int32} : Rr X d MRm_chance 124 [l0, l1, l2, l3, l4, l5, l6, l7, l8] (.int x :: st) h = Rr X d MRm_chance 126 (sL [l0, l1, l2, l3, l4, l5, l6, l7, l8] 8 (.int x)) st h := Rr_nx d_MRm_chance_124 rfl
theorem r_MRm_chance_126 {l0 l1 l2 l3 l4 l5 l6 l7 : Value} {x : Int32} : Rr X d MRm_chance 126 [l0, l1, l2, l3, l4, l5, l6, l7, .int x] st h = Rr X d MRm_chance 128 [l0, l1, l2, l3, l4, l5, l6, l7, .int x] (.int x :: st) h := Rr_nx d_MRm_chance_126 rfl
theorem r_MRm_chance_128 {l0 l2 l3 l4 l5 l6 l7 l8 : Value} {x : Int32} : Rr X d MRm_chance 128 [l0, .int x, l2, l3, l4, l5, l6, l7, l8] st h = Rr X d MRm_chance 129 [l0, .int x, l2, l3, l4, l5, l6, l7, l8] (.int x :: st) h := Rr_nx d_MRm_chance_128 rfl
theorem r_MRm_chance_129 {x y : Int32} : Rr X d MRm_chance 129 L (.int y :: .int x :: st) h = if y < x then Rr X d MRm_chance 176 L st h else Rr X d MRm_chance 132 L st h := R_ic_gt d_MRm_chance_129 (by decide)
theorem r_MRm_chance_132 {l0 l1 l2 l3 l5 l6 l7 l8 : Value} {x : Int64} : Rr X d MRm_chance 132 [l0, l1, l2, l3, .long x, l5, l6, l7, l8] st h = Rr X d MRm_chance 134 [l0, l1, l2, l3, .long x, l5, l6, l7, l8] (.long x :: st) h := Rr_nx d_MRm_chance_132 rfl
theorem r_MRm_chance_134 {l1 l2 l3 l4 l5 l6 l7 l8 : Value} {x : Nat} : Rr X d MRm_chance 134 [.ref x, l1, l2, l3, l4, l5, l6, l7, l8] st h = Rr X d MRm_chance 135 [.ref x, l1, l2, l3, l4, l5, l6, l7, l8] (.ref x :: st) h := Rr_nx d_MRm_chance_134 rfl
theorem r_MRm_chance_135 {a : Nat} (hq : (qR a 10 50).isSome = true) : Rr X d MRm_chance 135 L (.ref a :: st) (Wd mu la ro et) = Rr X d MRm_chance 138 L (.ref (qRd a 10 50) :: st) (Wd mu la ro et) := R_gfR d_MRm_chance_135 ff_10_82 hq
theorem r_MRm_chance_138 {l0 l1 l2 l3 l4 l5 l6 l7 : Value} {x : Int32} : Rr X d MRm_chance 138 [l0, l1, l2, l3, l4, l5, l6, l7, .int x] st h = Rr X d MRm_chance 140 [l0, l1, l2, l3, l4, l5, l6, l7, .int x] (.int x :: st) h := Rr_nx d_MRm_chance_138 rfl
theorem r_MRm_chance_140 {a : Nat} {j : Int32} (hq : (qJ a).isSome = true) : Rr X d MRm_chance 140 L (.int j :: .ref a :: st) (Wd mu la ro et) = if j < 0 ∨ qJd a ≤ j.toNatClampNeg then none else Rr X d MRm_chance 141 L (.long (la a j.toNatClampNeg) :: st) (Wd mu la ro et) := R_lalW d_MRm_chance_140 hq
theorem r_MRm_chance_141 {x y : Int64} : Rr X d MRm_chance 141 L (.long y :: .long x :: st) h = Rr X d MRm_chance 142 L (.long (x + y) :: st) h := Rr_nx d_MRm_chance_141 rfl
theorem r_MRm_chance_142 {l0 l1 l2 l3 l4 l5 l6 l7 l8 : Value} {x : Int64} : Rr X d MRm_chance 142 [l0, l1, l2, l3, l4, l5, l6, l7, l8] (.long x :: st) h = Rr X d MRm_chance 144 ((sL [l0, l1, l2, l3, l4, l5, l6, l7, l8] 4 (.long x)).set 5 mkU) st h := Rr_nx d_MRm_chance_142 rfl
theorem r_MRm_chance_144 {l0 l1 l2 l3 l4 l5 l6 l7 : Value} {x : Int32} : Rr X d MRm_chance 144 [l0, l1, l2, l3, l4, l5, l6, l7, .int x] st h = Rr X d MRm_chance 146 [l0, l1, l2, l3, l4, l5, l6, l7, .int x] (.int x :: st) h := Rr_nx d_MRm_chance_144 rfl
theorem r_MRm_chance_146 {l0 l1 l2 l4 l5 l6 l7 l8 : Value} {x : Int32} : Rr X d MRm_chance 146 [l0, l1, l2, .int x, l4, l5, l6, l7, l8] st h = Rr X d MRm_chance 147 [l0, l1, l2, .int x, l4, l5, l6, l7, l8] (.int x :: st) h := Rr_nx d_MRm_chance_146 rfl
theorem r_MRm_chance_147 {x y : Int32} : Rr X d MRm_chance 147 L (.int y :: .int x :: st) h = if y ≤ x then Rr X d MRm_chance 158 L st h else Rr X d MRm_chance 150 L st h := R_ic_ge d_MRm_chance_147 (by decide)
theorem r_MRm_chance_150 {l0 l2 l3 l4 l5 l6 l7 l8 : Value} {x : Int32} : Rr X d MRm_chance 150 [l0, .int x, l2, l3, l4, l5, l6, l7, l8] st h = Rr X d MRm_chance 151 [l0, .int x, l2, l3, l4, l5, l6, l7, l8] (.int x :: st) h := Rr_nx d_MRm_chance_150 rfl
theorem r_MRm_chance_151 {l0 l1 l2 l3 l4 l5 l6 l7 : Value} {x : Int32} : Rr X d MRm_chance 151 [l0, l1, l2, l3, l4, l5, l6, l7, .int x] st h = Rr X d MRm_chance 153 [l0, l1, l2, l3, l4, l5, l6, l7, .int x] (.int x :: st) h := Rr_nx d_MRm_chance_151 rfl
theorem r_MRm_chance_153 {x y : Int32} : Rr X d MRm_chance 153 L (.int y :: .int x :: st) h = Rr X d MRm_chance 154 L (.int (x - y) :: st) h := Rr_nx d_MRm_chance_153 rfl
theorem r_MRm_chance_154 {l0 l1 l2 l4 l5 l6 l7 l8 : Value} {x : Int32} : Rr X d MRm_chance 154 [l0, l1, l2, .int x, l4, l5, l6, l7, l8] st h = Rr X d MRm_chance 155 [l0, l1, l2, .int x, l4, l5, l6, l7, l8] (.int x :: st) h := Rr_nx d_MRm_chance_154 rfl
theorem r_MRm_chance_155 {x y : Int32} : Rr X d MRm_chance 155 L (.int y :: .int x :: st) h = if x < y then Rr X d MRm_chance 170 L st h else Rr X d MRm_chance 158 L st h := R_ic_lt d_MRm_chance_155 (by decide)
theorem r_MRm_chance_158 {l0 l1 l2 l3 l4 l5 l7 l8 : Value} {x : Int64} : Rr X d MRm_chance 158 [l0, l1, l2, l3, l4, l5, .long x, l7, l8] st h = Rr X d MRm_chance 160 [l0, l1, l2, l3, l4, l5, .long x, l7, l8] (.long x :: st) h := Rr_nx d_MRm_chance_158 rfl
theorem r_MRm_chance_160 {l1 l2 l3 l4 l5 l6 l7 l8 : Value} {x : Nat} : Rr X d MRm_chance 160 [.ref x, l1, l2, l3, l4, l5, l6, l7, l8] st h = Rr X d MRm_chance 161 [.ref x, l1, l2, l3, l4, l5, l6, l7, l8] (.ref x :: st) h := Rr_nx d_MRm_chance_160 rfl
theorem r_MRm_chance_161 {a : Nat} (hq : (qR a 10 50).isSome = true) : Rr X d MRm_chance 161 L (.ref a :: st) (Wd mu la ro et) = Rr X d MRm_chance 164 L (.ref (qRd a 10 50) :: st) (Wd mu la ro et) := R_gfR d_MRm_chance_161 ff_10_82 hq
theorem r_MRm_chance_164 {l0 l1 l2 l3 l4 l5 l6 l7 : Value} {x : Int32} : Rr X d MRm_chance 164 [l0, l1, l2, l3, l4, l5, l6, l7, .int x] st h = Rr X d MRm_chance 166 [l0, l1, l2, l3, l4, l5, l6, l7, .int x] (.int x :: st) h := Rr_nx d_MRm_chance_164 rfl
theorem r_MRm_chance_166 {a : Nat} {j : Int32} (hq : (qJ a).isSome = true) : Rr X d MRm_chance 166 L (.int j :: .ref a :: st) (Wd mu la ro et) = if j < 0 ∨ qJd a ≤ j.toNatClampNeg then none else Rr X d MRm_chance 167 L (.long (la a j.toNatClampNeg) :: st) (Wd mu la ro et) := R_lalW d_MRm_chance_166 hq
theorem r_MRm_chance_167 {x y : Int64} : Rr X d MRm_chance 167 L (.long y :: .long x :: st) h = Rr X d MRm_chance 168 L (.long (x + y) :: st) h := Rr_nx d_MRm_chance_167 rfl
theorem r_MRm_chance_168 {l0 l1 l2 l3 l4 l5 l6 l7 l8 : Value} {x : Int64} : Rr X d MRm_chance 168 [l0, l1, l2, l3, l4, l5, l6, l7, l8] (.long x :: st) h = Rr X d MRm_chance 170 ((sL [l0, l1, l2, l3, l4, l5, l6, l7, l8] 6 (.long x)).set 7 mkU) st h := Rr_nx d_MRm_chance_168 rfl
theorem r_MRm_chance_170 {l0 l1 l2 l3 l4 l5 l6 l7 : Value} {x : Int32} : Rr X d MRm_chance 170 [l0, l1, l2, l3, l4, l5, l6, l7, .int x] st h = Rr X d MRm_chance 173 (sL [l0, l1, l2, l3, l4, l5, l6, l7, .int x] 8 (.int (x + (1)))) st h := Rr_nx d_MRm_chance_170 rfl
theorem r_MRm_chance_173 : Rr X d MRm_chance 173 L st h = Rr X d MRm_chance 126 L st h := R_goto d_MRm_chance_173 (by decide)
theorem r_MRm_chance_176 {l0 l1 l2 l3 l4 l5 l7 l8 : Value} {x : Int64} : Rr X d MRm_chance 176 [l0, l1, l2, l3, l4, l5, .long x, l7, l8] st h = Rr X d MRm_chance 178 [l0, l1, l2, l3, l4, l5, .long x, l7, l8] (.long x :: st) h := Rr_nx d_MRm_chance_176 rfl
theorem r_MRm_chance_178 : Rr X d MRm_chance 178 L st h = Rr X d MRm_chance 181 L (.long (1000) :: st) h := Rr_nx d_MRm_chance_178 rfl
theorem r_MRm_chance_181 {x y : Int64} : Rr X d MRm_chance 181 L (.long y :: .long x :: st) h = Rr X d MRm_chance 182 L (.long (x * y) :: st) h := Rr_nx d_MRm_chance_181 rfl
theorem r_MRm_chance_182 {l0 l1 l2 l3 l5 l6 l7 l8 : Value} {x : Int64} : Rr X d MRm_chance 182 [l0, l1, l2, l3, .long x, l5, l6, l7, l8] st h = Rr X d MRm_chance 184 [l0, l1, l2, l3, .long x, l5, l6, l7, l8] (.long x :: st) h := Rr_nx d_MRm_chance_182 rfl
theorem r_MRm_chance_184 {x y : Int64} : Rr X d MRm_chance 184 L (.long y :: .long x :: st) h = if y = 0 then none else Rr X d MRm_chance 185 L (.long (x / y) :: st) h := R_ldv d_MRm_chance_184
theorem r_MRm_chance_185 {x : Int64} : Rr X d MRm_chance 185 L (.long x :: st) h = Rr X d MRm_chance 186 L (.int x.toInt32 :: st) h := Rr_nx d_MRm_chance_185 rfl
theorem r_MRm_chance_186 {x : Int32} : Rr X d MRm_chance 186 L [.int x] h = some (some (.int x), h) := R_ir d_MRm_chance_186 rfl
theorem d_MRm_isBody_0 : decode MRm_isBody.2.2.1 0 = .ok (.iload_n 1, 1) := by decide +kernel
theorem d_MRm_isBody_1 : decode MRm_isBody.2.2.1 1 = .ok (.iconst 0, 1) := by decide +kernel
theorem d_MRm_isBody_2 : decode MRm_isBody.2.2.1 2 = .ok (.aload_n 0, 1) := by decide +kernel
theorem d_MRm_isBody_3 : decode MRm_isBody.2.2.1 3 = .ok (.getfield 356, 3) := by decide +kernel
theorem d_MRm_isBody_6 : decode MRm_isBody.2.2.1 6 = .ok (.iconst 1, 1) := by decide +kernel
theorem d_MRm_isBody_7 : decode MRm_isBody.2.2.1 7 = .ok (.isub, 1) := by decide +kernel
theorem d_MRm_isBody_8 : decode MRm_isBody.2.2.1 8 = .ok (.invokestatic 107, 3) := by decide +kernel
theorem d_MRm_isBody_11 : decode MRm_isBody.2.2.1 11 = .ok (.ireturn, 1) := by decide +kernel
theorem r_MRm_isBody_0 {l0 : Value} {x : Int32} : Rr X d MRm_isBody 0 [l0, .int x] st h = Rr X d MRm_isBody 1 [l0, .int x] (.int x :: st) h := Rr_nx d_MRm_isBody_0 rfl
theorem r_MRm_isBody_1 : Rr X d MRm_isBody 1 L st h = Rr X d MRm_isBody 2 L (.int (0) :: st) h := Rr_nx d_MRm_isBody_1 rfl
theorem r_MRm_isBody_2 {l1 : Value} {x : Nat} : Rr X d MRm_isBody 2 [.ref x, l1] st h = Rr X d MRm_isBody 3 [.ref x, l1] (.ref x :: st) h := Rr_nx d_MRm_isBody_2 rfl
theorem ff_10_356 : fF 10 356 = some (10, 51, 0, 0) := rfl
theorem r_MRm_isBody_3 {a : Nat} (hq : qI a 10 51 = true) : Rr X d MRm_isBody 3 L (.ref a :: st) (Wd mu la ro et) = Rr X d MRm_isBody 6 L (.int (mu a 51) :: st) (Wd mu la ro et) := R_gfI d_MRm_isBody_3 ff_10_356 hq
theorem r_MRm_isBody_6 : Rr X d MRm_isBody 6 L st h = Rr X d MRm_isBody 7 L (.int (1) :: st) h := Rr_nx d_MRm_isBody_6 rfl
theorem r_MRm_isBody_7 {x y : Int32} : Rr X d MRm_isBody 7 L (.int y :: .int x :: st) h = Rr X d MRm_isBody 8 L (.int (x - y) :: st) h := Rr_nx d_MRm_isBody_7 rfl
theorem r_MRm_isBody_8 {y0 : Int32} {y1 : Int32} {y2 : Int32} (hc : ckS st = true) : Rr X (d + 1) MRm_isBody 8 L (.int y2 :: .int y1 :: .int y0 :: st) h = (Rr X d MRm_in 0 [.int y0, .int y1, .int y2] [] h).bind fun q => Rr X (d + 1) MRm_isBody 11 L (psh q.1 st) q.2 := R_is (av := [.int y2, .int y1, .int y0]) d_MRm_isBody_8 (Or.inl fc_10_107) (ckS_le hc) rfl (Nat.le_of_ble_eq_true rfl) (Nat.le_of_ble_eq_true rfl)
theorem r_MRm_isBody_11 {x : Int32} : Rr X d MRm_isBody 11 L [.int x] h = if x = 0 ∨ x = 1 then some (some (.int x), h) else none := R_zr d_MRm_isBody_11 rfl
theorem d_MRm_trace_0 : decode MRm_trace.2.2.1 0 = .ok (.iload_n 1, 1) := by decide +kernel
theorem d_MRm_trace_1 : decode MRm_trace.2.2.1 1 = .ok (.ifCond .lt 26, 3) := by decide +kernel
theorem d_MRm_trace_4 : decode MRm_trace.2.2.1 4 = .ok (.iload_n 1, 1) := by decide +kernel
theorem d_MRm_trace_5 : decode MRm_trace.2.2.1 5 = .ok (.aload_n 0, 1) := by decide +kernel
theorem d_MRm_trace_6 : decode MRm_trace.2.2.1 6 = .ok (.getfield 359, 3) := by decide +kernel
theorem d_MRm_trace_9 : decode MRm_trace.2.2.1 9 = .ok (.if_icmp .ge 18, 3) := by decide +kernel
theorem d_MRm_trace_12 : decode MRm_trace.2.2.1 12 = .ok (.iload_n 1, 1) := by decide +kernel
theorem d_MRm_trace_13 : decode MRm_trace.2.2.1 13 = .ok (.bipush 24, 2) := by decide +kernel
theorem d_MRm_trace_15 : decode MRm_trace.2.2.1 15 = .ok (.if_icmp .ge 12, 3) := by decide +kernel
theorem d_MRm_trace_18 : decode MRm_trace.2.2.1 18 = .ok (.aload_n 0, 1) := by decide +kernel
theorem d_MRm_trace_19 : decode MRm_trace.2.2.1 19 = .ok (.getfield 89, 3) := by decide +kernel
theorem d_MRm_trace_22 : decode MRm_trace.2.2.1 22 = .ok (.iload_n 1, 1) := by decide +kernel
theorem d_MRm_trace_23 : decode MRm_trace.2.2.1 23 = .ok (.iaload, 1) := by decide +kernel
theorem d_MRm_trace_24 : decode MRm_trace.2.2.1 24 = .ok (.goto 4, 3) := by decide +kernel
theorem d_MRm_trace_27 : decode MRm_trace.2.2.1 27 = .ok (.iconst (-1), 1) := by decide +kernel
theorem d_MRm_trace_28 : decode MRm_trace.2.2.1 28 = .ok (.ireturn, 1) := by decide +kernel
theorem r_MRm_trace_0 {l0 : Value} {x : Int32} : Rr X d MRm_trace 0 [l0, .int x] st h = Rr X d MRm_trace 1 [l0, .int x] (.int x :: st) h := Rr_nx d_MRm_trace_0 rfl
theorem r_MRm_trace_1 {x : Int32} : Rr X d MRm_trace 1 L (.int x :: st) h = if x < 0 then Rr X d MRm_trace 27 L st h else Rr X d MRm_trace 4 L st h := R_if_lt d_MRm_trace_1 (by decide)
theorem r_MRm_trace_4 {l0 : Value} {x : Int32} : Rr X d MRm_trace 4 [l0, .int x] st h = Rr X d MRm_trace 5 [l0, .int x] (.int x :: st) h := Rr_nx d_MRm_trace_4 rfl
theorem r_MRm_trace_5 {l1 : Value} {x : Nat} : Rr X d MRm_trace 5 [.ref x, l1] st h = Rr X d MRm_trace 6 [.ref x, l1] (.ref x :: st) h := Rr_nx d_MRm_trace_5 rfl
theorem ff_10_359 : fF 10 359 = some (10, 53, 0, 0) := rfl
theorem r_MRm_trace_6 {a : Nat} (hq : qI a 10 53 = true) : Rr X d MRm_trace 6 L (.ref a :: st) (Wd mu la ro et) = Rr X d MRm_trace 9 L (.int (mu a 53) :: st) (Wd mu la ro et) := R_gfI d_MRm_trace_6 ff_10_359 hq
theorem r_MRm_trace_9 {x y : Int32} : Rr X d MRm_trace 9 L (.int y :: .int x :: st) h = if y ≤ x then Rr X d MRm_trace 27 L st h else Rr X d MRm_trace 12 L st h := R_ic_ge d_MRm_trace_9 (by decide)
theorem r_MRm_trace_12 {l0 : Value} {x : Int32} : Rr X d MRm_trace 12 [l0, .int x] st h = Rr X d MRm_trace 13 [l0, .int x] (.int x :: st) h := Rr_nx d_MRm_trace_12 rfl
theorem r_MRm_trace_13 : Rr X d MRm_trace 13 L st h = Rr X d MRm_trace 15 L (.int (24) :: st) h := Rr_nx d_MRm_trace_13 rfl
theorem r_MRm_trace_15 {x y : Int32} : Rr X d MRm_trace 15 L (.int y :: .int x :: st) h = if y ≤ x then Rr X d MRm_trace 27 L st h else Rr X d MRm_trace 18 L st h := R_ic_ge d_MRm_trace_15 (by decide)
theorem r_MRm_trace_18 {l1 : Value} {x : Nat} : Rr X d MRm_trace 18 [.ref x, l1] st h = Rr X d MRm_trace 19 [.ref x, l1] (.ref x :: st) h := Rr_nx d_MRm_trace_18 rfl
theorem ff_10_89 : fF 10 89 = some (10, 54, 1, 1) := rfl
theorem r_MRm_trace_19 {a : Nat} (hq : (qR a 10 54).isSome = true) : Rr X d MRm_trace 19 L (.ref a :: st) (Wd mu la ro et) = Rr X d MRm_trace 22 L (.ref (qRd a 10 54) :: st) (Wd mu la ro et) := R_gfR d_MRm_trace_19 ff_10_89 hq
theorem r_MRm_trace_22 {l0 : Value} {x : Int32} : Rr X d MRm_trace 22 [l0, .int x] st h = Rr X d MRm_trace 23 [l0, .int x] (.int x :: st) h := Rr_nx d_MRm_trace_22 rfl
theorem r_MRm_trace_23 {a : Nat} {j : Int32} (hq : (qA a 0).isSome = true) : Rr X d MRm_trace 23 L (.int j :: .ref a :: st) (Wd mu la ro et) = if j < 0 ∨ qAd a 0 ≤ j.toNatClampNeg then none else Rr X d MRm_trace 24 L (.int (mu a j.toNatClampNeg) :: st) (Wd mu la ro et) := R_ialW d_MRm_trace_23 hq
theorem r_MRm_trace_24 : Rr X d MRm_trace 24 L st h = Rr X d MRm_trace 28 L st h := R_goto d_MRm_trace_24 (by decide)
theorem r_MRm_trace_27 : Rr X d MRm_trace 27 L st h = Rr X d MRm_trace 28 L (.int (-1) :: st) h := Rr_nx d_MRm_trace_27 rfl
theorem r_MRm_trace_28 {x : Int32} : Rr X d MRm_trace 28 L [.int x] h = some (some (.int x), h) := R_ir d_MRm_trace_28 rfl
theorem d_MRm_body_0 : decode MRm_body.2.2.1 0 = .ok (.iload_n 1, 1) := by decide +kernel
theorem d_MRm_body_1 : decode MRm_body.2.2.1 1 = .ok (.iconst 0, 1) := by decide +kernel
theorem d_MRm_body_2 : decode MRm_body.2.2.1 2 = .ok (.bipush 7, 2) := by decide +kernel
theorem d_MRm_body_4 : decode MRm_body.2.2.1 4 = .ok (.invokestatic 107, 3) := by decide +kernel
theorem d_MRm_body_7 : decode MRm_body.2.2.1 7 = .ok (.ifCond .ne 5, 3) := by decide +kernel
theorem d_MRm_body_10 : decode MRm_body.2.2.1 10 = .ok (.iconst (-1), 1) := by decide +kernel
theorem d_MRm_body_11 : decode MRm_body.2.2.1 11 = .ok (.ireturn, 1) := by decide +kernel
theorem d_MRm_body_12 : decode MRm_body.2.2.1 12 = .ok (.aload_n 0, 1) := by decide +kernel
theorem d_MRm_body_13 : decode MRm_body.2.2.1 13 = .ok (.getfield 356, 3) := by decide +kernel
theorem d_MRm_body_16 : decode MRm_body.2.2.1 16 = .ok (.bipush 50, 2) := by decide +kernel
theorem d_MRm_body_18 : decode MRm_body.2.2.1 18 = .ok (.if_icmp .ne 6, 3) := by decide +kernel
theorem d_MRm_body_21 : decode MRm_body.2.2.1 21 = .ok (.bipush (-3), 2) := by decide +kernel
theorem d_MRm_body_23 : decode MRm_body.2.2.1 23 = .ok (.ireturn, 1) := by decide +kernel
theorem d_MRm_body_24 : decode MRm_body.2.2.1 24 = .ok (.aload_n 0, 1) := by decide +kernel
theorem d_MRm_body_25 : decode MRm_body.2.2.1 25 = .ok (.getfield 86, 3) := by decide +kernel
theorem d_MRm_body_28 : decode MRm_body.2.2.1 28 = .ok (.aload_n 0, 1) := by decide +kernel
theorem d_MRm_body_29 : decode MRm_body.2.2.1 29 = .ok (.getfield 356, 3) := by decide +kernel
theorem d_MRm_body_32 : decode MRm_body.2.2.1 32 = .ok (.iload_n 1, 1) := by decide +kernel
theorem d_MRm_body_33 : decode MRm_body.2.2.1 33 = .ok (.iastore, 1) := by decide +kernel
theorem d_MRm_body_34 : decode MRm_body.2.2.1 34 = .ok (.aload_n 0, 1) := by decide +kernel
theorem d_MRm_body_35 : decode MRm_body.2.2.1 35 = .ok (.dup, 1) := by decide +kernel
theorem d_MRm_body_36 : decode MRm_body.2.2.1 36 = .ok (.getfield 356, 3) := by decide +kernel
theorem d_MRm_body_39 : decode MRm_body.2.2.1 39 = .ok (.iconst 1, 1) := by decide +kernel
theorem d_MRm_body_40 : decode MRm_body.2.2.1 40 = .ok (.iadd, 1) := by decide +kernel
theorem d_MRm_body_41 : decode MRm_body.2.2.1 41 = .ok (.putfield 356, 3) := by decide +kernel
theorem d_MRm_body_44 : decode MRm_body.2.2.1 44 = .ok (.aload_n 0, 1) := by decide +kernel
theorem d_MRm_body_45 : decode MRm_body.2.2.1 45 = .ok (.getfield 356, 3) := by decide +kernel
theorem d_MRm_body_48 : decode MRm_body.2.2.1 48 = .ok (.iconst 1, 1) := by decide +kernel
theorem d_MRm_body_49 : decode MRm_body.2.2.1 49 = .ok (.isub, 1) := by decide +kernel
theorem d_MRm_body_50 : decode MRm_body.2.2.1 50 = .ok (.ireturn, 1) := by decide +kernel
theorem r_MRm_body_0 {l0 : Value} {x : Int32} : Rr X d MRm_body 0 [l0, .int x] st h = Rr X d MRm_body 1 [l0, .int x] (.int x :: st) h := Rr_nx d_MRm_body_0 rfl
theorem r_MRm_body_1 : Rr X d MRm_body 1 L st h = Rr X d MRm_body 2 L (.int (0) :: st) h := Rr_nx d_MRm_body_1 rfl
theorem r_MRm_body_2 : Rr X d MRm_body 2 L st h = Rr X d MRm_body 4 L (.int (7) :: st) h := Rr_nx d_MRm_body_2 rfl
theorem r_MRm_body_4 {y0 : Int32} {y1 : Int32} {y2 : Int32} (hc : ckS st = true) : Rr X (d + 1) MRm_body 4 L (.int y2 :: .int y1 :: .int y0 :: st) h = (Rr X d MRm_in 0 [.int y0, .int y1, .int y2] [] h).bind fun q => Rr X (d + 1) MRm_body 7 L (psh q.1 st) q.2 := R_is (av := [.int y2, .int y1, .int y0]) d_MRm_body_4 (Or.inl fc_10_107) (ckS_le hc) rfl (Nat.le_of_ble_eq_true rfl) (Nat.le_of_ble_eq_true rfl)
theorem r_MRm_body_7 {x : Int32} : Rr X d MRm_body 7 L (.int x :: st) h = if ¬ x = 0 then Rr X d MRm_body 12 L st h else Rr X d MRm_body 10 L st h := R_if_ne d_MRm_body_7 (by decide)
theorem r_MRm_body_10 : Rr X d MRm_body 10 L st h = Rr X d MRm_body 11 L (.int (-1) :: st) h := Rr_nx d_MRm_body_10 rfl
theorem r_MRm_body_11 {x : Int32} : Rr X d MRm_body 11 L [.int x] h = some (some (.int x), h) := R_ir d_MRm_body_11 rfl
theorem r_MRm_body_12 {l1 : Value} {x : Nat} : Rr X d MRm_body 12 [.ref x, l1] st h = Rr X d MRm_body 13 [.ref x, l1] (.ref x :: st) h := Rr_nx d_MRm_body_12 rfl
theorem r_MRm_body_13 {a : Nat} (hq : qI a 10 51 = true) : Rr X d MRm_body 13 L (.ref a :: st) (Wd mu la ro et) = Rr X d MRm_body 16 L (.int (mu a 51) :: st) (Wd mu la ro et) := R_gfI d_MRm_body_13 ff_10_356 hq
theorem r_MRm_body_16 : Rr X d MRm_body 16 L st h = Rr X d MRm_body 18 L (.int (50) :: st) h := Rr_nx d_MRm_body_16 rfl
theorem r_MRm_body_18 {x y : Int32} : Rr X d MRm_body 18 L (.int y :: .int x :: st) h = if ¬ x = y then Rr X d MRm_body 24 L st h else Rr X d MRm_body 21 L st h := R_ic_ne d_MRm_body_18 (by decide)
theorem r_MRm_body_21 : Rr X d MRm_body 21 L st h = Rr X d MRm_body 23 L (.int (-3) :: st) h := Rr_nx d_MRm_body_21 rfl
theorem r_MRm_body_23 {x : Int32} : Rr X d MRm_body 23 L [.int x] h = some (some (.int x), h) := R_ir d_MRm_body_23 rfl
theorem r_MRm_body_24 {l1 : Value} {x : Nat} : Rr X d MRm_body 24 [.ref x, l1] st h = Rr X d MRm_body 25 [.ref x, l1] (.ref x :: st) h := Rr_nx d_MRm_body_24 rfl
theorem ff_10_86 : fF 10 86 = some (10, 52, 1, 1) := rfl
theorem r_MRm_body_25 {a : Nat} (hq : (qR a 10 52).isSome = true) : Rr X d MRm_body 25 L (.ref a :: st) (Wd mu la ro et) = Rr X d MRm_body 28 L (.ref (qRd a 10 52) :: st) (Wd mu la ro et) := R_gfR d_MRm_body_25 ff_10_86 hq
theorem r_MRm_body_28 {l1 : Value} {x : Nat} : Rr X d MRm_body 28 [.ref x, l1] st h = Rr X d MRm_body 29 [.ref x, l1] (.ref x :: st) h := Rr_nx d_MRm_body_28 rfl
theorem r_MRm_body_29 {a : Nat} (hq : qI a 10 51 = true) : Rr X d MRm_body 29 L (.ref a :: st) (Wd mu la ro et) = Rr X d MRm_body 32 L (.int (mu a 51) :: st) (Wd mu la ro et) := R_gfI d_MRm_body_29 ff_10_356 hq
theorem r_MRm_body_32 {l0 : Value} {x : Int32} : Rr X d MRm_body 32 [l0, .int x] st h = Rr X d MRm_body 33 [l0, .int x] (.int x :: st) h := Rr_nx d_MRm_body_32 rfl
theorem r_MRm_body_33 {a : Nat} {j x : Int32} (hq : (qA a 0).isSome = true) : Rr X d MRm_body 33 L (.int x :: .int j :: .ref a :: st) (Wd mu la ro et) = if j < 0 ∨ qAd a 0 ≤ j.toNatClampNeg then none else Rr X d MRm_body 34 L st (Wd (up2 mu a j.toNatClampNeg (x)) la ro et) := R_iasW d_MRm_body_33 hq
theorem r_MRm_body_34 {l1 : Value} {x : Nat} : Rr X d MRm_body 34 [.ref x, l1] st h = Rr X d MRm_body 35 [.ref x, l1] (.ref x :: st) h := Rr_nx d_MRm_body_34 rfl
theorem r_MRm_body_35 {x : Nat} : Rr X d MRm_body 35 L (.ref x :: st) h = Rr X d MRm_body 36 L (.ref x :: .ref x :: st) h := Rr_nx d_MRm_body_35 rfl
theorem r_MRm_body_35i {x : Int32} : Rr X d MRm_body 35 L (.int x :: st) h = Rr X d MRm_body 36 L (.int x :: .int x :: st) h := Rr_nx d_MRm_body_35 rfl
theorem r_MRm_body_36 {a : Nat} (hq : qI a 10 51 = true) : Rr X d MRm_body 36 L (.ref a :: st) (Wd mu la ro et) = Rr X d MRm_body 39 L (.int (mu a 51) :: st) (Wd mu la ro et) := R_gfI d_MRm_body_36 ff_10_356 hq
theorem r_MRm_body_39 : Rr X d MRm_body 39 L st h = Rr X d MRm_body 40 L (.int (1) :: st) h := Rr_nx d_MRm_body_39 rfl
theorem r_MRm_body_40 {x y : Int32} : Rr X d MRm_body 40 L (.int y :: .int x :: st) h = Rr X d MRm_body 41 L (.int (x + y) :: st) h := Rr_nx d_MRm_body_40 rfl
theorem r_MRm_body_41 {a : Nat} {x : Int32} (hq : qI a 10 51 = true) : Rr X d MRm_body 41 L (.int x :: .ref a :: st) (Wd mu la ro et) = Rr X d MRm_body 44 L st (Wd (up2 mu a 51 x) la ro et) := R_pfI d_MRm_body_41 ff_10_356 hq
theorem r_MRm_body_44 {l1 : Value} {x : Nat} : Rr X d MRm_body 44 [.ref x, l1] st h = Rr X d MRm_body 45 [.ref x, l1] (.ref x :: st) h := Rr_nx d_MRm_body_44 rfl
theorem r_MRm_body_45 {a : Nat} (hq : qI a 10 51 = true) : Rr X d MRm_body 45 L (.ref a :: st) (Wd mu la ro et) = Rr X d MRm_body 48 L (.int (mu a 51) :: st) (Wd mu la ro et) := R_gfI d_MRm_body_45 ff_10_356 hq
theorem r_MRm_body_48 : Rr X d MRm_body 48 L st h = Rr X d MRm_body 49 L (.int (1) :: st) h := Rr_nx d_MRm_body_48 rfl
theorem r_MRm_body_49 {x y : Int32} : Rr X d MRm_body 49 L (.int y :: .int x :: st) h = Rr X d MRm_body 50 L (.int (x - y) :: st) h := Rr_nx d_MRm_body_49 rfl
theorem r_MRm_body_50 {x : Int32} : Rr X d MRm_body 50 L [.int x] h = some (some (.int x), h) := R_ir d_MRm_body_50 rfl
theorem d_MRm_act_0 : decode MRm_act.2.2.1 0 = .ok (.aload_n 0, 1) := by decide +kernel
theorem d_MRm_act_1 : decode MRm_act.2.2.1 1 = .ok (.iconst 0, 1) := by decide +kernel
theorem d_MRm_act_2 : decode MRm_act.2.2.1 2 = .ok (.putfield 359, 3) := by decide +kernel
theorem d_MRm_act_5 : decode MRm_act.2.2.1 5 = .ok (.aload_n 0, 1) := by decide +kernel
theorem d_MRm_act_6 : decode MRm_act.2.2.1 6 = .ok (.iload_n 1, 1) := by decide +kernel
theorem d_MRm_act_7 : decode MRm_act.2.2.1 7 = .ok (.invokevirtual 395, 3) := by decide +kernel
theorem d_MRm_act_10 : decode MRm_act.2.2.1 10 = .ok (.ifCond .eq 12, 3) := by decide +kernel
theorem d_MRm_act_13 : decode MRm_act.2.2.1 13 = .ok (.iload_n 2, 1) := by decide +kernel
theorem d_MRm_act_14 : decode MRm_act.2.2.1 14 = .ok (.iconst 0, 1) := by decide +kernel
theorem d_MRm_act_15 : decode MRm_act.2.2.1 15 = .ok (.iconst 3, 1) := by decide +kernel
theorem d_MRm_act_16 : decode MRm_act.2.2.1 16 = .ok (.invokestatic 107, 3) := by decide +kernel
theorem d_MRm_act_19 : decode MRm_act.2.2.1 19 = .ok (.ifCond .ne 5, 3) := by decide +kernel
theorem d_MRm_act_22 : decode MRm_act.2.2.1 22 = .ok (.iconst 0, 1) := by decide +kernel
theorem d_MRm_act_23 : decode MRm_act.2.2.1 23 = .ok (.ireturn, 1) := by decide +kernel
theorem d_MRm_act_24 : decode MRm_act.2.2.1 24 = .ok (.iload_n 2, 1) := by decide +kernel
theorem d_MRm_act_25 : decode MRm_act.2.2.1 25 = .ok (.ifCond .ne 12, 3) := by decide +kernel
theorem d_MRm_act_28 : decode MRm_act.2.2.1 28 = .ok (.aload_n 0, 1) := by decide +kernel
theorem d_MRm_act_29 : decode MRm_act.2.2.1 29 = .ok (.iload_n 1, 1) := by decide +kernel
theorem d_MRm_act_30 : decode MRm_act.2.2.1 30 = .ok (.iload_n 3, 1) := by decide +kernel
theorem d_MRm_act_31 : decode MRm_act.2.2.1 31 = .ok (.invokevirtual 371, 3) := by decide +kernel
theorem d_MRm_act_34 : decode MRm_act.2.2.1 34 = .ok (.goto 37, 3) := by decide +kernel
theorem d_MRm_act_37 : decode MRm_act.2.2.1 37 = .ok (.iload_n 2, 1) := by decide +kernel
theorem d_MRm_act_38 : decode MRm_act.2.2.1 38 = .ok (.iconst 1, 1) := by decide +kernel
theorem d_MRm_act_39 : decode MRm_act.2.2.1 39 = .ok (.if_icmp .ne 12, 3) := by decide +kernel
theorem d_MRm_act_42 : decode MRm_act.2.2.1 42 = .ok (.aload_n 0, 1) := by decide +kernel
theorem d_MRm_act_43 : decode MRm_act.2.2.1 43 = .ok (.iload_n 1, 1) := by decide +kernel
theorem d_MRm_act_44 : decode MRm_act.2.2.1 44 = .ok (.iload_n 3, 1) := by decide +kernel
theorem d_MRm_act_45 : decode MRm_act.2.2.1 45 = .ok (.invokevirtual 389, 3) := by decide +kernel
theorem d_MRm_act_48 : decode MRm_act.2.2.1 48 = .ok (.goto 23, 3) := by decide +kernel
theorem d_MRm_act_51 : decode MRm_act.2.2.1 51 = .ok (.iload_n 2, 1) := by decide +kernel
theorem d_MRm_act_52 : decode MRm_act.2.2.1 52 = .ok (.iconst 2, 1) := by decide +kernel
theorem d_MRm_act_53 : decode MRm_act.2.2.1 53 = .ok (.if_icmp .ne 12, 3) := by decide +kernel
theorem d_MRm_act_56 : decode MRm_act.2.2.1 56 = .ok (.aload_n 0, 1) := by decide +kernel
theorem d_MRm_act_57 : decode MRm_act.2.2.1 57 = .ok (.iload_n 1, 1) := by decide +kernel
theorem d_MRm_act_58 : decode MRm_act.2.2.1 58 = .ok (.iload_n 3, 1) := by decide +kernel
theorem d_MRm_act_59 : decode MRm_act.2.2.1 59 = .ok (.invokevirtual 380, 3) := by decide +kernel
theorem d_MRm_act_62 : decode MRm_act.2.2.1 62 = .ok (.goto 9, 3) := by decide +kernel
theorem d_MRm_act_65 : decode MRm_act.2.2.1 65 = .ok (.aload_n 0, 1) := by decide +kernel
theorem d_MRm_act_66 : decode MRm_act.2.2.1 66 = .ok (.iload_n 1, 1) := by decide +kernel
theorem d_MRm_act_67 : decode MRm_act.2.2.1 67 = .ok (.iload_n 3, 1) := by decide +kernel
theorem d_MRm_act_68 : decode MRm_act.2.2.1 68 = .ok (.invokevirtual 398, 3) := by decide +kernel
theorem d_MRm_act_71 : decode MRm_act.2.2.1 71 = .ok (.ireturn, 1) := by decide +kernel
theorem r_MRm_act_0 {l1 l2 l3 : Value} {x : Nat} : Rr X d MRm_act 0 [.ref x, l1, l2, l3] st h = Rr X d MRm_act 1 [.ref x, l1, l2, l3] (.ref x :: st) h := Rr_nx d_MRm_act_0 rfl
theorem r_MRm_act_1 : Rr X d MRm_act 1 L st h = Rr X d MRm_act 2 L (.int (0) :: st) h := Rr_nx d_MRm_act_1 rfl
theorem r_MRm_act_2 {a : Nat} {x : Int32} (hq : qI a 10 53 = true) : Rr X d MRm_act 2 L (.int x :: .ref a :: st) (Wd mu la ro et) = Rr X d MRm_act 5 L st (Wd (up2 mu a 53 x) la ro et) := R_pfI d_MRm_act_2 ff_10_359 hq
theorem r_MRm_act_5 {l1 l2 l3 : Value} {x : Nat} : Rr X d MRm_act 5 [.ref x, l1, l2, l3] st h = Rr X d MRm_act 6 [.ref x, l1, l2, l3] (.ref x :: st) h := Rr_nx d_MRm_act_5 rfl
theorem r_MRm_act_6 {l0 l2 l3 : Value} {x : Int32} : Rr X d MRm_act 6 [l0, .int x, l2, l3] st h = Rr X d MRm_act 7 [l0, .int x, l2, l3] (.int x :: st) h := Rr_nx d_MRm_act_6 rfl
theorem fc_10_395 : fC 10 395 = some (0, 10, 1, MRm_isBody) := rfl
theorem r_MRm_act_7 {y0 : Int32} {a : Nat} (hO : qO a 10 = true) (hc : ckS st = true) : Rr X (d + 1) MRm_act 7 L (.int y0 :: .ref a :: st) (Wd mu la ro et) = (Rr X d MRm_isBody 0 [.ref a, .int y0] [] (Wd mu la ro et)).bind fun q => Rr X (d + 1) MRm_act 10 L (psh q.1 st) q.2 := R_iv (av := [.int y0]) d_MRm_act_7 fc_10_395 hO (ckS_le hc) rfl (Nat.le_of_ble_eq_true rfl) (Nat.le_of_ble_eq_true rfl)
theorem r_MRm_act_10 {x : Int32} : Rr X d MRm_act 10 L (.int x :: st) h = if x = 0 then Rr X d MRm_act 22 L st h else Rr X d MRm_act 13 L st h := R_if_eq d_MRm_act_10 (by decide)
theorem r_MRm_act_13 {l0 l1 l3 : Value} {x : Int32} : Rr X d MRm_act 13 [l0, l1, .int x, l3] st h = Rr X d MRm_act 14 [l0, l1, .int x, l3] (.int x :: st) h := Rr_nx d_MRm_act_13 rfl
theorem r_MRm_act_14 : Rr X d MRm_act 14 L st h = Rr X d MRm_act 15 L (.int (0) :: st) h := Rr_nx d_MRm_act_14 rfl
theorem r_MRm_act_15 : Rr X d MRm_act 15 L st h = Rr X d MRm_act 16 L (.int (3) :: st) h := Rr_nx d_MRm_act_15 rfl
theorem r_MRm_act_16 {y0 : Int32} {y1 : Int32} {y2 : Int32} (hc : ckS st = true) : Rr X (d + 1) MRm_act 16 L (.int y2 :: .int y1 :: .int y0 :: st) h = (Rr X d MRm_in 0 [.int y0, .int y1, .int y2] [] h).bind fun q => Rr X (d + 1) MRm_act 19 L (psh q.1 st) q.2 := R_is (av := [.int y2, .int y1, .int y0]) d_MRm_act_16 (Or.inl fc_10_107) (ckS_le hc) rfl (Nat.le_of_ble_eq_true rfl) (Nat.le_of_ble_eq_true rfl)
theorem r_MRm_act_19 {x : Int32} : Rr X d MRm_act 19 L (.int x :: st) h = if ¬ x = 0 then Rr X d MRm_act 24 L st h else Rr X d MRm_act 22 L st h := R_if_ne d_MRm_act_19 (by decide)
theorem r_MRm_act_22 : Rr X d MRm_act 22 L st h = Rr X d MRm_act 23 L (.int (0) :: st) h := Rr_nx d_MRm_act_22 rfl
theorem r_MRm_act_23 {x : Int32} : Rr X d MRm_act 23 L [.int x] h = some (some (.int x), h) := R_ir d_MRm_act_23 rfl
theorem r_MRm_act_24 {l0 l1 l3 : Value} {x : Int32} : Rr X d MRm_act 24 [l0, l1, .int x, l3] st h = Rr X d MRm_act 25 [l0, l1, .int x, l3] (.int x :: st) h := Rr_nx d_MRm_act_24 rfl
theorem r_MRm_act_25 {x : Int32} : Rr X d MRm_act 25 L (.int x :: st) h = if ¬ x = 0 then Rr X d MRm_act 37 L st h else Rr X d MRm_act 28 L st h := R_if_ne d_MRm_act_25 (by decide)
theorem r_MRm_act_28 {l1 l2 l3 : Value} {x : Nat} : Rr X d MRm_act 28 [.ref x, l1, l2, l3] st h = Rr X d MRm_act 29 [.ref x, l1, l2, l3] (.ref x :: st) h := Rr_nx d_MRm_act_28 rfl
theorem r_MRm_act_29 {l0 l2 l3 : Value} {x : Int32} : Rr X d MRm_act 29 [l0, .int x, l2, l3] st h = Rr X d MRm_act 30 [l0, .int x, l2, l3] (.int x :: st) h := Rr_nx d_MRm_act_29 rfl
theorem r_MRm_act_30 {l0 l1 l2 : Value} {x : Int32} : Rr X d MRm_act 30 [l0, l1, l2, .int x] st h = Rr X d MRm_act 31 [l0, l1, l2, .int x] (.int x :: st) h := Rr_nx d_MRm_act_30 rfl
theorem fc_10_371 : fC 10 371 = some (0, 10, 2, MRm_rolls) := rfl
theorem r_MRm_act_31 {y0 : Int32} {y1 : Int32} {a : Nat} (hO : qO a 10 = true) (hc : ckS st = true) : Rr X (d + 1) MRm_act 31 L (.int y1 :: .int y0 :: .ref a :: st) (Wd mu la ro et) = (Rr X d MRm_rolls 0 [.ref a, .int y0, .int y1] [] (Wd mu la ro et)).bind fun q => Rr X (d + 1) MRm_act 34 L (psh q.1 st) q.2 := R_iv (av := [.int y1, .int y0]) d_MRm_act_31 fc_10_371 hO (ckS_le hc) rfl (Nat.le_of_ble_eq_true rfl) (Nat.le_of_ble_eq_true rfl)
theorem r_MRm_act_34 : Rr X d MRm_act 34 L st h = Rr X d MRm_act 71 L st h := R_goto d_MRm_act_34 (by decide)
theorem r_MRm_act_37 {l0 l1 l3 : Value} {x : Int32} : Rr X d MRm_act 37 [l0, l1, .int x, l3] st h = Rr X d MRm_act 38 [l0, l1, .int x, l3] (.int x :: st) h := Rr_nx d_MRm_act_37 rfl
theorem r_MRm_act_38 : Rr X d MRm_act 38 L st h = Rr X d MRm_act 39 L (.int (1) :: st) h := Rr_nx d_MRm_act_38 rfl
theorem r_MRm_act_39 {x y : Int32} : Rr X d MRm_act 39 L (.int y :: .int x :: st) h = if ¬ x = y then Rr X d MRm_act 51 L st h else Rr X d MRm_act 42 L st h := R_ic_ne d_MRm_act_39 (by decide)
theorem r_MRm_act_42 {l1 l2 l3 : Value} {x : Nat} : Rr X d MRm_act 42 [.ref x, l1, l2, l3] st h = Rr X d MRm_act 43 [.ref x, l1, l2, l3] (.ref x :: st) h := Rr_nx d_MRm_act_42 rfl
theorem r_MRm_act_43 {l0 l2 l3 : Value} {x : Int32} : Rr X d MRm_act 43 [l0, .int x, l2, l3] st h = Rr X d MRm_act 44 [l0, .int x, l2, l3] (.int x :: st) h := Rr_nx d_MRm_act_43 rfl
theorem r_MRm_act_44 {l0 l1 l2 : Value} {x : Int32} : Rr X d MRm_act 44 [l0, l1, l2, .int x] st h = Rr X d MRm_act 45 [l0, l1, l2, .int x] (.int x :: st) h := Rr_nx d_MRm_act_44 rfl
theorem fc_10_389 : fC 10 389 = some (0, 10, 2, MRm_trades) := rfl
theorem r_MRm_act_45 {y0 : Int32} {y1 : Int32} {a : Nat} (hO : qO a 10 = true) (hc : ckS st = true) : Rr X (d + 1) MRm_act 45 L (.int y1 :: .int y0 :: .ref a :: st) (Wd mu la ro et) = (Rr X d MRm_trades 0 [.ref a, .int y0, .int y1, mkU] [] (Wd mu la ro et)).bind fun q => Rr X (d + 1) MRm_act 48 L (psh q.1 st) q.2 := R_iv (av := [.int y1, .int y0]) d_MRm_act_45 fc_10_389 hO (ckS_le hc) rfl (Nat.le_of_ble_eq_true rfl) (Nat.le_of_ble_eq_true rfl)
theorem r_MRm_act_48 : Rr X d MRm_act 48 L st h = Rr X d MRm_act 71 L st h := R_goto d_MRm_act_48 (by decide)
theorem r_MRm_act_51 {l0 l1 l3 : Value} {x : Int32} : Rr X d MRm_act 51 [l0, l1, .int x, l3] st h = Rr X d MRm_act 52 [l0, l1, .int x, l3] (.int x :: st) h := Rr_nx d_MRm_act_51 rfl
theorem r_MRm_act_52 : Rr X d MRm_act 52 L st h = Rr X d MRm_act 53 L (.int (2) :: st) h := Rr_nx d_MRm_act_52 rfl
theorem r_MRm_act_53 {x y : Int32} : Rr X d MRm_act 53 L (.int y :: .int x :: st) h = if ¬ x = y then Rr X d MRm_act 65 L st h else Rr X d MRm_act 56 L st h := R_ic_ne d_MRm_act_53 (by decide)
theorem r_MRm_act_56 {l1 l2 l3 : Value} {x : Nat} : Rr X d MRm_act 56 [.ref x, l1, l2, l3] st h = Rr X d MRm_act 57 [.ref x, l1, l2, l3] (.ref x :: st) h := Rr_nx d_MRm_act_56 rfl
theorem r_MRm_act_57 {l0 l2 l3 : Value} {x : Int32} : Rr X d MRm_act 57 [l0, .int x, l2, l3] st h = Rr X d MRm_act 58 [l0, .int x, l2, l3] (.int x :: st) h := Rr_nx d_MRm_act_57 rfl
theorem r_MRm_act_58 {l0 l1 l2 : Value} {x : Int32} : Rr X d MRm_act 58 [l0, l1, l2, .int x] st h = Rr X d MRm_act 59 [l0, l1, l2, .int x] (.int x :: st) h := Rr_nx d_MRm_act_58 rfl
theorem fc_10_380 : fC 10 380 = some (0, 10, 2, MRm_ends) := rfl
theorem r_MRm_act_59 {y0 : Int32} {y1 : Int32} {a : Nat} (hO : qO a 10 = true) (hc : ckS st = true) : Rr X (d + 1) MRm_act 59 L (.int y1 :: .int y0 :: .ref a :: st) (Wd mu la ro et) = (Rr X d MRm_ends 0 [.ref a, .int y0, .int y1, mkU] [] (Wd mu la ro et)).bind fun q => Rr X (d + 1) MRm_act 62 L (psh q.1 st) q.2 := R_iv (av := [.int y1, .int y0]) d_MRm_act_59 fc_10_380 hO (ckS_le hc) rfl (Nat.le_of_ble_eq_true rfl) (Nat.le_of_ble_eq_true rfl)
theorem r_MRm_act_62 : Rr X d MRm_act 62 L st h = Rr X d MRm_act 71 L st h := R_goto d_MRm_act_62 (by decide)
theorem r_MRm_act_65 {l1 l2 l3 : Value} {x : Nat} : Rr X d MRm_act 65 [.ref x, l1, l2, l3] st h = Rr X d MRm_act 66 [.ref x, l1, l2, l3] (.ref x :: st) h := Rr_nx d_MRm_act_65 rfl
theorem r_MRm_act_66 {l0 l2 l3 : Value} {x : Int32} : Rr X d MRm_act 66 [l0, .int x, l2, l3] st h = Rr X d MRm_act 67 [l0, .int x, l2, l3] (.int x :: st) h := Rr_nx d_MRm_act_66 rfl
theorem r_MRm_act_67 {l0 l1 l2 : Value} {x : Int32} : Rr X d MRm_act 67 [l0, l1, l2, .int x] st h = Rr X d MRm_act 68 [l0, l1, l2, .int x] (.int x :: st) h := Rr_nx d_MRm_act_67 rfl
theorem fc_10_398 : fC 10 398 = some (0, 10, 2, MRm_tells) := rfl
theorem r_MRm_act_68 {y0 : Int32} {y1 : Int32} {a : Nat} (hO : qO a 10 = true) (hc : ckS st = true) : Rr X (d + 1) MRm_act 68 L (.int y1 :: .int y0 :: .ref a :: st) (Wd mu la ro et) = (Rr X d MRm_tells 0 [.ref a, .int y0, .int y1, mkU] [] (Wd mu la ro et)).bind fun q => Rr X (d + 1) MRm_act 71 L (psh q.1 st) q.2 := R_iv (av := [.int y1, .int y0]) d_MRm_act_68 fc_10_398 hO (ckS_le hc) rfl (Nat.le_of_ble_eq_true rfl) (Nat.le_of_ble_eq_true rfl)
theorem r_MRm_act_71 {x : Int32} : Rr X d MRm_act 71 L [.int x] h = some (some (.int x), h) := R_ir d_MRm_act_71 rfl
theorem d_MRm_count_0 : decode MRm_count.2.2.1 0 = .ok (.iload_n 1, 1) := by decide +kernel
theorem d_MRm_count_1 : decode MRm_count.2.2.1 1 = .ok (.tableswitch 78 0 6 #[43, 48, 53, 58, 63, 68, 73], 43) := by decide +kernel
theorem d_MRm_count_44 : decode MRm_count.2.2.1 44 = .ok (.aload_n 0, 1) := by decide +kernel
theorem d_MRm_count_45 : decode MRm_count.2.2.1 45 = .ok (.getfield 114, 3) := by decide +kernel
theorem d_MRm_count_48 : decode MRm_count.2.2.1 48 = .ok (.ireturn, 1) := by decide +kernel
theorem d_MRm_count_49 : decode MRm_count.2.2.1 49 = .ok (.aload_n 0, 1) := by decide +kernel
theorem d_MRm_count_50 : decode MRm_count.2.2.1 50 = .ok (.getfield 250, 3) := by decide +kernel
theorem d_MRm_count_53 : decode MRm_count.2.2.1 53 = .ok (.ireturn, 1) := by decide +kernel
theorem d_MRm_count_54 : decode MRm_count.2.2.1 54 = .ok (.aload_n 0, 1) := by decide +kernel
theorem d_MRm_count_55 : decode MRm_count.2.2.1 55 = .ok (.getfield 339, 3) := by decide +kernel
theorem d_MRm_count_58 : decode MRm_count.2.2.1 58 = .ok (.ireturn, 1) := by decide +kernel
theorem d_MRm_count_59 : decode MRm_count.2.2.1 59 = .ok (.aload_n 0, 1) := by decide +kernel
theorem d_MRm_count_60 : decode MRm_count.2.2.1 60 = .ok (.getfield 111, 3) := by decide +kernel
theorem d_MRm_count_63 : decode MRm_count.2.2.1 63 = .ok (.ireturn, 1) := by decide +kernel
theorem d_MRm_count_64 : decode MRm_count.2.2.1 64 = .ok (.aload_n 0, 1) := by decide +kernel
theorem d_MRm_count_65 : decode MRm_count.2.2.1 65 = .ok (.getfield 187, 3) := by decide +kernel
theorem d_MRm_count_68 : decode MRm_count.2.2.1 68 = .ok (.ireturn, 1) := by decide +kernel
theorem d_MRm_count_69 : decode MRm_count.2.2.1 69 = .ok (.aload_n 0, 1) := by decide +kernel
theorem d_MRm_count_70 : decode MRm_count.2.2.1 70 = .ok (.getfield 356, 3) := by decide +kernel
theorem d_MRm_count_73 : decode MRm_count.2.2.1 73 = .ok (.ireturn, 1) := by decide +kernel
theorem d_MRm_count_74 : decode MRm_count.2.2.1 74 = .ok (.aload_n 0, 1) := by decide +kernel
theorem d_MRm_count_75 : decode MRm_count.2.2.1 75 = .ok (.getfield 359, 3) := by decide +kernel
theorem d_MRm_count_78 : decode MRm_count.2.2.1 78 = .ok (.ireturn, 1) := by decide +kernel
theorem d_MRm_count_79 : decode MRm_count.2.2.1 79 = .ok (.iconst (-1), 1) := by decide +kernel
theorem d_MRm_count_80 : decode MRm_count.2.2.1 80 = .ok (.ireturn, 1) := by decide +kernel
theorem r_MRm_count_0 {l0 : Value} {x : Int32} : Rr X d MRm_count 0 [l0, .int x] st h = Rr X d MRm_count 1 [l0, .int x] (.int x :: st) h := Rr_nx d_MRm_count_0 rfl
theorem r_MRm_count_1_0 : Rr X d MRm_count 1 L (.int (0) :: st) h = Rr X d MRm_count 44 L st h := R_tab (off := 43) d_MRm_count_1 (by decide) (by decide) (by decide)
theorem r_MRm_count_1_1 : Rr X d MRm_count 1 L (.int (1) :: st) h = Rr X d MRm_count 49 L st h := R_tab (off := 48) d_MRm_count_1 (by decide) (by decide) (by decide)
theorem r_MRm_count_1_2 : Rr X d MRm_count 1 L (.int (2) :: st) h = Rr X d MRm_count 54 L st h := R_tab (off := 53) d_MRm_count_1 (by decide) (by decide) (by decide)
theorem r_MRm_count_1_3 : Rr X d MRm_count 1 L (.int (3) :: st) h = Rr X d MRm_count 59 L st h := R_tab (off := 58) d_MRm_count_1 (by decide) (by decide) (by decide)
theorem r_MRm_count_1_4 : Rr X d MRm_count 1 L (.int (4) :: st) h = Rr X d MRm_count 64 L st h := R_tab (off := 63) d_MRm_count_1 (by decide) (by decide) (by decide)
theorem r_MRm_count_1_5 : Rr X d MRm_count 1 L (.int (5) :: st) h = Rr X d MRm_count 69 L st h := R_tab (off := 68) d_MRm_count_1 (by decide) (by decide) (by decide)
theorem r_MRm_count_1_6 : Rr X d MRm_count 1 L (.int (6) :: st) h = Rr X d MRm_count 74 L st h := R_tab (off := 73) d_MRm_count_1 (by decide) (by decide) (by decide)
theorem r_MRm_count_1D {x : Int32} (hx : x.toInt < 0 ∨ 6 < x.toInt) : Rr X d MRm_count 1 L (.int x :: st) h = Rr X d MRm_count 79 L st h := R_tabD d_MRm_count_1 hx (by decide)
theorem r_MRm_count_44 {l1 : Value} {x : Nat} : Rr X d MRm_count 44 [.ref x, l1] st h = Rr X d MRm_count 45 [.ref x, l1] (.ref x :: st) h := Rr_nx d_MRm_count_44 rfl
theorem r_MRm_count_45 {a : Nat} (hq : qI a 10 3 = true) : Rr X d MRm_count 45 L (.ref a :: st) (Wd mu la ro et) = Rr X d MRm_count 48 L (.int (mu a 3) :: st) (Wd mu la ro et) := R_gfI d_MRm_count_45 ff_10_114 hq
theorem r_MRm_count_48 {x : Int32} : Rr X d MRm_count 48 L [.int x] h = some (some (.int x), h) := R_ir d_MRm_count_48 rfl
theorem r_MRm_count_49 {l1 : Value} {x : Nat} : Rr X d MRm_count 49 [.ref x, l1] st h = Rr X d MRm_count 50 [.ref x, l1] (.ref x :: st) h := Rr_nx d_MRm_count_49 rfl
theorem r_MRm_count_50 {a : Nat} (hq : qI a 10 29 = true) : Rr X d MRm_count 50 L (.ref a :: st) (Wd mu la ro et) = Rr X d MRm_count 53 L (.int (mu a 29) :: st) (Wd mu la ro et) := R_gfI d_MRm_count_50 ff_10_250 hq
theorem r_MRm_count_53 {x : Int32} : Rr X d MRm_count 53 L [.int x] h = some (some (.int x), h) := R_ir d_MRm_count_53 rfl
theorem r_MRm_count_54 {l1 : Value} {x : Nat} : Rr X d MRm_count 54 [.ref x, l1] st h = Rr X d MRm_count 55 [.ref x, l1] (.ref x :: st) h := Rr_nx d_MRm_count_54 rfl
theorem r_MRm_count_55 {a : Nat} (hq : qI a 10 47 = true) : Rr X d MRm_count 55 L (.ref a :: st) (Wd mu la ro et) = Rr X d MRm_count 58 L (.int (mu a 47) :: st) (Wd mu la ro et) := R_gfI d_MRm_count_55 ff_10_339 hq
theorem r_MRm_count_58 {x : Int32} : Rr X d MRm_count 58 L [.int x] h = some (some (.int x), h) := R_ir d_MRm_count_58 rfl
theorem r_MRm_count_59 {l1 : Value} {x : Nat} : Rr X d MRm_count 59 [.ref x, l1] st h = Rr X d MRm_count 60 [.ref x, l1] (.ref x :: st) h := Rr_nx d_MRm_count_59 rfl
theorem r_MRm_count_60 {a : Nat} (hq : qI a 10 2 = true) : Rr X d MRm_count 60 L (.ref a :: st) (Wd mu la ro et) = Rr X d MRm_count 63 L (.int (mu a 2) :: st) (Wd mu la ro et) := R_gfI d_MRm_count_60 ff_10_111 hq
theorem r_MRm_count_63 {x : Int32} : Rr X d MRm_count 63 L [.int x] h = some (some (.int x), h) := R_ir d_MRm_count_63 rfl
theorem r_MRm_count_64 {l1 : Value} {x : Nat} : Rr X d MRm_count 64 [.ref x, l1] st h = Rr X d MRm_count 65 [.ref x, l1] (.ref x :: st) h := Rr_nx d_MRm_count_64 rfl
theorem r_MRm_count_65 {a : Nat} (hq : qI a 10 12 = true) : Rr X d MRm_count 65 L (.ref a :: st) (Wd mu la ro et) = Rr X d MRm_count 68 L (.int (mu a 12) :: st) (Wd mu la ro et) := R_gfI d_MRm_count_65 ff_10_187 hq
theorem r_MRm_count_68 {x : Int32} : Rr X d MRm_count 68 L [.int x] h = some (some (.int x), h) := R_ir d_MRm_count_68 rfl
theorem r_MRm_count_69 {l1 : Value} {x : Nat} : Rr X d MRm_count 69 [.ref x, l1] st h = Rr X d MRm_count 70 [.ref x, l1] (.ref x :: st) h := Rr_nx d_MRm_count_69 rfl
theorem r_MRm_count_70 {a : Nat} (hq : qI a 10 51 = true) : Rr X d MRm_count 70 L (.ref a :: st) (Wd mu la ro et) = Rr X d MRm_count 73 L (.int (mu a 51) :: st) (Wd mu la ro et) := R_gfI d_MRm_count_70 ff_10_356 hq
theorem r_MRm_count_73 {x : Int32} : Rr X d MRm_count 73 L [.int x] h = some (some (.int x), h) := R_ir d_MRm_count_73 rfl
theorem r_MRm_count_74 {l1 : Value} {x : Nat} : Rr X d MRm_count 74 [.ref x, l1] st h = Rr X d MRm_count 75 [.ref x, l1] (.ref x :: st) h := Rr_nx d_MRm_count_74 rfl
theorem r_MRm_count_75 {a : Nat} (hq : qI a 10 53 = true) : Rr X d MRm_count 75 L (.ref a :: st) (Wd mu la ro et) = Rr X d MRm_count 78 L (.int (mu a 53) :: st) (Wd mu la ro et) := R_gfI d_MRm_count_75 ff_10_359 hq
theorem r_MRm_count_78 {x : Int32} : Rr X d MRm_count 78 L [.int x] h = some (some (.int x), h) := R_ir d_MRm_count_78 rfl
theorem r_MRm_count_79 : Rr X d MRm_count 79 L st h = Rr X d MRm_count 80 L (.int (-1) :: st) h := Rr_nx d_MRm_count_79 rfl
theorem r_MRm_count_80 {x : Int32} : Rr X d MRm_count 80 L [.int x] h = some (some (.int x), h) := R_ir d_MRm_count_80 rfl
theorem d_MRm_isShelf_0 : decode MRm_isShelf.2.2.1 0 = .ok (.iload_n 0, 1) := by decide +kernel
theorem d_MRm_isShelf_1 : decode MRm_isShelf.2.2.1 1 = .ok (.iconst 0, 1) := by decide +kernel
theorem d_MRm_isShelf_2 : decode MRm_isShelf.2.2.1 2 = .ok (.iconst 5, 1) := by decide +kernel
theorem d_MRm_isShelf_3 : decode MRm_isShelf.2.2.1 3 = .ok (.invokestatic 107, 3) := by decide +kernel
theorem d_MRm_isShelf_6 : decode MRm_isShelf.2.2.1 6 = .ok (.ireturn, 1) := by decide +kernel
theorem r_MRm_isShelf_0 {x : Int32} : Rr X d MRm_isShelf 0 [.int x] st h = Rr X d MRm_isShelf 1 [.int x] (.int x :: st) h := Rr_nx d_MRm_isShelf_0 rfl
theorem r_MRm_isShelf_1 : Rr X d MRm_isShelf 1 L st h = Rr X d MRm_isShelf 2 L (.int (0) :: st) h := Rr_nx d_MRm_isShelf_1 rfl
theorem r_MRm_isShelf_2 : Rr X d MRm_isShelf 2 L st h = Rr X d MRm_isShelf 3 L (.int (5) :: st) h := Rr_nx d_MRm_isShelf_2 rfl
theorem r_MRm_isShelf_3 {y0 : Int32} {y1 : Int32} {y2 : Int32} (hc : ckS st = true) : Rr X (d + 1) MRm_isShelf 3 L (.int y2 :: .int y1 :: .int y0 :: st) h = (Rr X d MRm_in 0 [.int y0, .int y1, .int y2] [] h).bind fun q => Rr X (d + 1) MRm_isShelf 6 L (psh q.1 st) q.2 := R_is (av := [.int y2, .int y1, .int y0]) d_MRm_isShelf_3 (Or.inl fc_10_107) (ckS_le hc) rfl (Nat.le_of_ble_eq_true rfl) (Nat.le_of_ble_eq_true rfl)
theorem r_MRm_isShelf_6 {x : Int32} : Rr X d MRm_isShelf 6 L [.int x] h = if x = 0 ∨ x = 1 then some (some (.int x), h) else none := R_zr d_MRm_isShelf_6 rfl
theorem d_MRm_keep_0 : decode MRm_keep.2.2.1 0 = .ok (.iload_n 1, 1) := by decide +kernel
theorem d_MRm_keep_1 : decode MRm_keep.2.2.1 1 = .ok (.invokestatic 348, 3) := by decide +kernel
theorem d_MRm_keep_4 : decode MRm_keep.2.2.1 4 = .ok (.ifCond .eq 16, 3) := by decide +kernel
theorem d_MRm_keep_7 : decode MRm_keep.2.2.1 7 = .ok (.iload_n 2, 1) := by decide +kernel
theorem d_MRm_keep_8 : decode MRm_keep.2.2.1 8 = .ok (.iconst (-1), 1) := by decide +kernel
theorem d_MRm_keep_9 : decode MRm_keep.2.2.1 9 = .ok (.if_icmp .eq 13, 3) := by decide +kernel
theorem d_MRm_keep_12 : decode MRm_keep.2.2.1 12 = .ok (.aload_n 0, 1) := by decide +kernel
theorem d_MRm_keep_13 : decode MRm_keep.2.2.1 13 = .ok (.iload_n 2, 1) := by decide +kernel
theorem d_MRm_keep_14 : decode MRm_keep.2.2.1 14 = .ok (.invokevirtual 395, 3) := by decide +kernel
theorem d_MRm_keep_17 : decode MRm_keep.2.2.1 17 = .ok (.ifCond .ne 5, 3) := by decide +kernel
theorem d_MRm_keep_20 : decode MRm_keep.2.2.1 20 = .ok (.iconst (-1), 1) := by decide +kernel
theorem d_MRm_keep_21 : decode MRm_keep.2.2.1 21 = .ok (.ireturn, 1) := by decide +kernel
theorem d_MRm_keep_22 : decode MRm_keep.2.2.1 22 = .ok (.aload_n 0, 1) := by decide +kernel
theorem d_MRm_keep_23 : decode MRm_keep.2.2.1 23 = .ok (.getfield 92, 3) := by decide +kernel
theorem d_MRm_keep_26 : decode MRm_keep.2.2.1 26 = .ok (.iload_n 1, 1) := by decide +kernel
theorem d_MRm_keep_27 : decode MRm_keep.2.2.1 27 = .ok (.iload_n 2, 1) := by decide +kernel
theorem d_MRm_keep_28 : decode MRm_keep.2.2.1 28 = .ok (.iastore, 1) := by decide +kernel
theorem d_MRm_keep_29 : decode MRm_keep.2.2.1 29 = .ok (.iconst 1, 1) := by decide +kernel
theorem d_MRm_keep_30 : decode MRm_keep.2.2.1 30 = .ok (.ireturn, 1) := by decide +kernel
theorem r_MRm_keep_0 {l0 l2 : Value} {x : Int32} : Rr X d MRm_keep 0 [l0, .int x, l2] st h = Rr X d MRm_keep 1 [l0, .int x, l2] (.int x :: st) h := Rr_nx d_MRm_keep_0 rfl
theorem r_MRm_keep_1 {y0 : Int32} (hc : ckS st = true) : Rr X (d + 1) MRm_keep 1 L (.int y0 :: st) h = (Rr X d MRm_isShelf 0 [.int y0] [] h).bind fun q => Rr X (d + 1) MRm_keep 4 L (psh q.1 st) q.2 := R_is (av := [.int y0]) d_MRm_keep_1 (Or.inl fc_10_348) (ckS_le hc) rfl (Nat.le_of_ble_eq_true rfl) (Nat.le_of_ble_eq_true rfl)
theorem r_MRm_keep_4 {x : Int32} : Rr X d MRm_keep 4 L (.int x :: st) h = if x = 0 then Rr X d MRm_keep 20 L st h else Rr X d MRm_keep 7 L st h := R_if_eq d_MRm_keep_4 (by decide)
theorem r_MRm_keep_7 {l0 l1 : Value} {x : Int32} : Rr X d MRm_keep 7 [l0, l1, .int x] st h = Rr X d MRm_keep 8 [l0, l1, .int x] (.int x :: st) h := Rr_nx d_MRm_keep_7 rfl
theorem r_MRm_keep_8 : Rr X d MRm_keep 8 L st h = Rr X d MRm_keep 9 L (.int (-1) :: st) h := Rr_nx d_MRm_keep_8 rfl
theorem r_MRm_keep_9 {x y : Int32} : Rr X d MRm_keep 9 L (.int y :: .int x :: st) h = if x = y then Rr X d MRm_keep 22 L st h else Rr X d MRm_keep 12 L st h := R_ic_eq d_MRm_keep_9 (by decide)
theorem r_MRm_keep_12 {l1 l2 : Value} {x : Nat} : Rr X d MRm_keep 12 [.ref x, l1, l2] st h = Rr X d MRm_keep 13 [.ref x, l1, l2] (.ref x :: st) h := Rr_nx d_MRm_keep_12 rfl
theorem r_MRm_keep_13 {l0 l1 : Value} {x : Int32} : Rr X d MRm_keep 13 [l0, l1, .int x] st h = Rr X d MRm_keep 14 [l0, l1, .int x] (.int x :: st) h := Rr_nx d_MRm_keep_13 rfl
theorem r_MRm_keep_14 {y0 : Int32} {a : Nat} (hO : qO a 10 = true) (hc : ckS st = true) : Rr X (d + 1) MRm_keep 14 L (.int y0 :: .ref a :: st) (Wd mu la ro et) = (Rr X d MRm_isBody 0 [.ref a, .int y0] [] (Wd mu la ro et)).bind fun q => Rr X (d + 1) MRm_keep 17 L (psh q.1 st) q.2 := R_iv (av := [.int y0]) d_MRm_keep_14 fc_10_395 hO (ckS_le hc) rfl (Nat.le_of_ble_eq_true rfl) (Nat.le_of_ble_eq_true rfl)
theorem r_MRm_keep_17 {x : Int32} : Rr X d MRm_keep 17 L (.int x :: st) h = if ¬ x = 0 then Rr X d MRm_keep 22 L st h else Rr X d MRm_keep 20 L st h := R_if_ne d_MRm_keep_17 (by decide)
theorem r_MRm_keep_20 : Rr X d MRm_keep 20 L st h = Rr X d MRm_keep 21 L (.int (-1) :: st) h := Rr_nx d_MRm_keep_20 rfl
theorem r_MRm_keep_21 {x : Int32} : Rr X d MRm_keep 21 L [.int x] h = some (some (.int x), h) := R_ir d_MRm_keep_21 rfl
theorem r_MRm_keep_22 {l1 l2 : Value} {x : Nat} : Rr X d MRm_keep 22 [.ref x, l1, l2] st h = Rr X d MRm_keep 23 [.ref x, l1, l2] (.ref x :: st) h := Rr_nx d_MRm_keep_22 rfl
theorem r_MRm_keep_23 {a : Nat} (hq : (qR a 10 55).isSome = true) : Rr X d MRm_keep 23 L (.ref a :: st) (Wd mu la ro et) = Rr X d MRm_keep 26 L (.ref (qRd a 10 55) :: st) (Wd mu la ro et) := R_gfR d_MRm_keep_23 ff_10_92 hq
theorem r_MRm_keep_26 {l0 l2 : Value} {x : Int32} : Rr X d MRm_keep 26 [l0, .int x, l2] st h = Rr X d MRm_keep 27 [l0, .int x, l2] (.int x :: st) h := Rr_nx d_MRm_keep_26 rfl
theorem r_MRm_keep_27 {l0 l1 : Value} {x : Int32} : Rr X d MRm_keep 27 [l0, l1, .int x] st h = Rr X d MRm_keep 28 [l0, l1, .int x] (.int x :: st) h := Rr_nx d_MRm_keep_27 rfl
theorem r_MRm_keep_28 {a : Nat} {j x : Int32} (hq : (qA a 0).isSome = true) : Rr X d MRm_keep 28 L (.int x :: .int j :: .ref a :: st) (Wd mu la ro et) = if j < 0 ∨ qAd a 0 ≤ j.toNatClampNeg then none else Rr X d MRm_keep 29 L st (Wd (up2 mu a j.toNatClampNeg (x)) la ro et) := R_iasW d_MRm_keep_28 hq
theorem r_MRm_keep_29 : Rr X d MRm_keep 29 L st h = Rr X d MRm_keep 30 L (.int (1) :: st) h := Rr_nx d_MRm_keep_29 rfl
theorem r_MRm_keep_30 {x : Int32} : Rr X d MRm_keep 30 L [.int x] h = some (some (.int x), h) := R_ir d_MRm_keep_30 rfl
theorem d_MRm_row_0 : decode MRm_row.2.2.1 0 = .ok (.iload_n 1, 1) := by decide +kernel
theorem d_MRm_row_1 : decode MRm_row.2.2.1 1 = .ok (.invokestatic 348, 3) := by decide +kernel
theorem d_MRm_row_4 : decode MRm_row.2.2.1 4 = .ok (.ifCond .eq 18, 3) := by decide +kernel
theorem d_MRm_row_7 : decode MRm_row.2.2.1 7 = .ok (.iload_n 2, 1) := by decide +kernel
theorem d_MRm_row_8 : decode MRm_row.2.2.1 8 = .ok (.iconst 0, 1) := by decide +kernel
theorem d_MRm_row_9 : decode MRm_row.2.2.1 9 = .ok (.iconst 4, 1) := by decide +kernel
theorem d_MRm_row_10 : decode MRm_row.2.2.1 10 = .ok (.invokestatic 107, 3) := by decide +kernel
theorem d_MRm_row_13 : decode MRm_row.2.2.1 13 = .ok (.ifCond .eq 9, 3) := by decide +kernel
theorem d_MRm_row_16 : decode MRm_row.2.2.1 16 = .ok (.iload_n 3, 1) := by decide +kernel
theorem d_MRm_row_17 : decode MRm_row.2.2.1 17 = .ok (.bipush 60, 2) := by decide +kernel
theorem d_MRm_row_19 : decode MRm_row.2.2.1 19 = .ok (.if_icmp .le 5, 3) := by decide +kernel
theorem d_MRm_row_22 : decode MRm_row.2.2.1 22 = .ok (.iconst (-1), 1) := by decide +kernel
theorem d_MRm_row_23 : decode MRm_row.2.2.1 23 = .ok (.ireturn, 1) := by decide +kernel
theorem d_MRm_row_24 : decode MRm_row.2.2.1 24 = .ok (.iload_n 3, 1) := by decide +kernel
theorem d_MRm_row_25 : decode MRm_row.2.2.1 25 = .ok (.ifCond .ge 6, 3) := by decide +kernel
theorem d_MRm_row_28 : decode MRm_row.2.2.1 28 = .ok (.bipush (-14), 2) := by decide +kernel
theorem d_MRm_row_30 : decode MRm_row.2.2.1 30 = .ok (.ireturn, 1) := by decide +kernel
theorem d_MRm_row_31 : decode MRm_row.2.2.1 31 = .ok (.aload_n 0, 1) := by decide +kernel
theorem d_MRm_row_32 : decode MRm_row.2.2.1 32 = .ok (.getfield 92, 3) := by decide +kernel
theorem d_MRm_row_35 : decode MRm_row.2.2.1 35 = .ok (.iload_n 1, 1) := by decide +kernel
theorem d_MRm_row_36 : decode MRm_row.2.2.1 36 = .ok (.bipush (-2), 2) := by decide +kernel
theorem d_MRm_row_38 : decode MRm_row.2.2.1 38 = .ok (.iload_n 2, 1) := by decide +kernel
theorem d_MRm_row_39 : decode MRm_row.2.2.1 39 = .ok (.isub, 1) := by decide +kernel
theorem d_MRm_row_40 : decode MRm_row.2.2.1 40 = .ok (.iastore, 1) := by decide +kernel
theorem d_MRm_row_41 : decode MRm_row.2.2.1 41 = .ok (.aload_n 0, 1) := by decide +kernel
theorem d_MRm_row_42 : decode MRm_row.2.2.1 42 = .ok (.getfield 95, 3) := by decide +kernel
theorem d_MRm_row_45 : decode MRm_row.2.2.1 45 = .ok (.iload_n 1, 1) := by decide +kernel
theorem d_MRm_row_46 : decode MRm_row.2.2.1 46 = .ok (.iload_n 3, 1) := by decide +kernel
theorem d_MRm_row_47 : decode MRm_row.2.2.1 47 = .ok (.iastore, 1) := by decide +kernel
theorem d_MRm_row_48 : decode MRm_row.2.2.1 48 = .ok (.bipush 60, 2) := by decide +kernel
theorem d_MRm_row_50 : decode MRm_row.2.2.1 50 = .ok (.iload_n 1, 1) := by decide +kernel
theorem d_MRm_row_51 : decode MRm_row.2.2.1 51 = .ok (.imul, 1) := by decide +kernel
theorem d_MRm_row_52 : decode MRm_row.2.2.1 52 = .ok (.istore 4, 2) := by decide +kernel
theorem d_MRm_row_54 : decode MRm_row.2.2.1 54 = .ok (.iload 4, 2) := by decide +kernel
theorem d_MRm_row_56 : decode MRm_row.2.2.1 56 = .ok (.bipush 60, 2) := by decide +kernel
theorem d_MRm_row_58 : decode MRm_row.2.2.1 58 = .ok (.iload_n 1, 1) := by decide +kernel
theorem d_MRm_row_59 : decode MRm_row.2.2.1 59 = .ok (.imul, 1) := by decide +kernel
theorem d_MRm_row_60 : decode MRm_row.2.2.1 60 = .ok (.bipush 60, 2) := by decide +kernel
theorem d_MRm_row_62 : decode MRm_row.2.2.1 62 = .ok (.iadd, 1) := by decide +kernel
theorem d_MRm_row_63 : decode MRm_row.2.2.1 63 = .ok (.if_icmp .ge 17, 3) := by decide +kernel
theorem d_MRm_row_66 : decode MRm_row.2.2.1 66 = .ok (.aload_n 0, 1) := by decide +kernel
theorem d_MRm_row_67 : decode MRm_row.2.2.1 67 = .ok (.getfield 98, 3) := by decide +kernel
theorem d_MRm_row_70 : decode MRm_row.2.2.1 70 = .ok (.iload 4, 2) := by decide +kernel
theorem d_MRm_row_72 : decode MRm_row.2.2.1 72 = .ok (.lconst 0, 1) := by decide +kernel
theorem d_MRm_row_73 : decode MRm_row.2.2.1 73 = .ok (.lastore, 1) := by decide +kernel
theorem d_MRm_row_74 : decode MRm_row.2.2.1 74 = .ok (.iinc 4 1, 3) := by decide +kernel
theorem d_MRm_row_77 : decode MRm_row.2.2.1 77 = .ok (.goto (-23), 3) := by decide +kernel
theorem d_MRm_row_80 : decode MRm_row.2.2.1 80 = .ok (.iconst 1, 1) := by decide +kernel
theorem d_MRm_row_81 : decode MRm_row.2.2.1 81 = .ok (.ireturn, 1) := by decide +kernel
theorem r_MRm_row_0 {l0 l2 l3 l4 : Value} {x : Int32} : Rr X d MRm_row 0 [l0, .int x, l2, l3, l4] st h = Rr X d MRm_row 1 [l0, .int x, l2, l3, l4] (.int x :: st) h := Rr_nx d_MRm_row_0 rfl
theorem r_MRm_row_1 {y0 : Int32} (hc : ckS st = true) : Rr X (d + 1) MRm_row 1 L (.int y0 :: st) h = (Rr X d MRm_isShelf 0 [.int y0] [] h).bind fun q => Rr X (d + 1) MRm_row 4 L (psh q.1 st) q.2 := R_is (av := [.int y0]) d_MRm_row_1 (Or.inl fc_10_348) (ckS_le hc) rfl (Nat.le_of_ble_eq_true rfl) (Nat.le_of_ble_eq_true rfl)
theorem r_MRm_row_4 {x : Int32} : Rr X d MRm_row 4 L (.int x :: st) h = if x = 0 then Rr X d MRm_row 22 L st h else Rr X d MRm_row 7 L st h := R_if_eq d_MRm_row_4 (by decide)
theorem r_MRm_row_7 {l0 l1 l3 l4 : Value} {x : Int32} : Rr X d MRm_row 7 [l0, l1, .int x, l3, l4] st h = Rr X d MRm_row 8 [l0, l1, .int x, l3, l4] (.int x :: st) h := Rr_nx d_MRm_row_7 rfl
theorem r_MRm_row_8 : Rr X d MRm_row 8 L st h = Rr X d MRm_row 9 L (.int (0) :: st) h := Rr_nx d_MRm_row_8 rfl
theorem r_MRm_row_9 : Rr X d MRm_row 9 L st h = Rr X d MRm_row 10 L (.int (4) :: st) h := Rr_nx d_MRm_row_9 rfl
theorem r_MRm_row_10 {y0 : Int32} {y1 : Int32} {y2 : Int32} (hc : ckS st = true) : Rr X (d + 1) MRm_row 10 L (.int y2 :: .int y1 :: .int y0 :: st) h = (Rr X d MRm_in 0 [.int y0, .int y1, .int y2] [] h).bind fun q => Rr X (d + 1) MRm_row 13 L (psh q.1 st) q.2 := R_is (av := [.int y2, .int y1, .int y0]) d_MRm_row_10 (Or.inl fc_10_107) (ckS_le hc) rfl (Nat.le_of_ble_eq_true rfl) (Nat.le_of_ble_eq_true rfl)
theorem r_MRm_row_13 {x : Int32} : Rr X d MRm_row 13 L (.int x :: st) h = if x = 0 then Rr X d MRm_row 22 L st h else Rr X d MRm_row 16 L st h := R_if_eq d_MRm_row_13 (by decide)
theorem r_MRm_row_16 {l0 l1 l2 l4 : Value} {x : Int32} : Rr X d MRm_row 16 [l0, l1, l2, .int x, l4] st h = Rr X d MRm_row 17 [l0, l1, l2, .int x, l4] (.int x :: st) h := Rr_nx d_MRm_row_16 rfl
theorem r_MRm_row_17 : Rr X d MRm_row 17 L st h = Rr X d MRm_row 19 L (.int (60) :: st) h := Rr_nx d_MRm_row_17 rfl
theorem r_MRm_row_19 {x y : Int32} : Rr X d MRm_row 19 L (.int y :: .int x :: st) h = if x ≤ y then Rr X d MRm_row 24 L st h else Rr X d MRm_row 22 L st h := R_ic_le d_MRm_row_19 (by decide)
theorem r_MRm_row_22 : Rr X d MRm_row 22 L st h = Rr X d MRm_row 23 L (.int (-1) :: st) h := Rr_nx d_MRm_row_22 rfl
theorem r_MRm_row_23 {x : Int32} : Rr X d MRm_row 23 L [.int x] h = some (some (.int x), h) := R_ir d_MRm_row_23 rfl
theorem r_MRm_row_24 {l0 l1 l2 l4 : Value} {x : Int32} : Rr X d MRm_row 24 [l0, l1, l2, .int x, l4] st h = Rr X d MRm_row 25 [l0, l1, l2, .int x, l4] (.int x :: st) h := Rr_nx d_MRm_row_24 rfl
theorem r_MRm_row_25 {x : Int32} : Rr X d MRm_row 25 L (.int x :: st) h = if 0 ≤ x then Rr X d MRm_row 31 L st h else Rr X d MRm_row 28 L st h := R_if_ge d_MRm_row_25 (by decide)
theorem r_MRm_row_28 : Rr X d MRm_row 28 L st h = Rr X d MRm_row 30 L (.int (-14) :: st) h := Rr_nx d_MRm_row_28 rfl
theorem r_MRm_row_30 {x : Int32} : Rr X d MRm_row 30 L [.int x] h = some (some (.int x), h) := R_ir d_MRm_row_30 rfl
theorem r_MRm_row_31 {l1 l2 l3 l4 : Value} {x : Nat} : Rr X d MRm_row 31 [.ref x, l1, l2, l3, l4] st h = Rr X d MRm_row 32 [.ref x, l1, l2, l3, l4] (.ref x :: st) h := Rr_nx d_MRm_row_31 rfl
theorem r_MRm_row_32 {a : Nat} (hq : (qR a 10 55).isSome = true) : Rr X d MRm_row 32 L (.ref a :: st) (Wd mu la ro et) = Rr X d MRm_row 35 L (.ref (qRd a 10 55) :: st) (Wd mu la ro et) := R_gfR d_MRm_row_32 ff_10_92 hq
theorem r_MRm_row_35 {l0 l2 l3 l4 : Value} {x : Int32} : Rr X d MRm_row 35 [l0, .int x, l2, l3, l4] st h = Rr X d MRm_row 36 [l0, .int x, l2, l3, l4] (.int x :: st) h := Rr_nx d_MRm_row_35 rfl
theorem r_MRm_row_36 : Rr X d MRm_row 36 L st h = Rr X d MRm_row 38 L (.int (-2) :: st) h := Rr_nx d_MRm_row_36 rfl
theorem r_MRm_row_38 {l0 l1 l3 l4 : Value} {x : Int32} : Rr X d MRm_row 38 [l0, l1, .int x, l3, l4] st h = Rr X d MRm_row 39 [l0, l1, .int x, l3, l4] (.int x :: st) h := Rr_nx d_MRm_row_38 rfl
theorem r_MRm_row_39 {x y : Int32} : Rr X d MRm_row 39 L (.int y :: .int x :: st) h = Rr X d MRm_row 40 L (.int (x - y) :: st) h := Rr_nx d_MRm_row_39 rfl
theorem r_MRm_row_40 {a : Nat} {j x : Int32} (hq : (qA a 0).isSome = true) : Rr X d MRm_row 40 L (.int x :: .int j :: .ref a :: st) (Wd mu la ro et) = if j < 0 ∨ qAd a 0 ≤ j.toNatClampNeg then none else Rr X d MRm_row 41 L st (Wd (up2 mu a j.toNatClampNeg (x)) la ro et) := R_iasW d_MRm_row_40 hq
theorem r_MRm_row_41 {l1 l2 l3 l4 : Value} {x : Nat} : Rr X d MRm_row 41 [.ref x, l1, l2, l3, l4] st h = Rr X d MRm_row 42 [.ref x, l1, l2, l3, l4] (.ref x :: st) h := Rr_nx d_MRm_row_41 rfl
theorem r_MRm_row_42 {a : Nat} (hq : (qR a 10 56).isSome = true) : Rr X d MRm_row 42 L (.ref a :: st) (Wd mu la ro et) = Rr X d MRm_row 45 L (.ref (qRd a 10 56) :: st) (Wd mu la ro et) := R_gfR d_MRm_row_42 ff_10_95 hq
theorem r_MRm_row_45 {l0 l2 l3 l4 : Value} {x : Int32} : Rr X d MRm_row 45 [l0, .int x, l2, l3, l4] st h = Rr X d MRm_row 46 [l0, .int x, l2, l3, l4] (.int x :: st) h := Rr_nx d_MRm_row_45 rfl
theorem r_MRm_row_46 {l0 l1 l2 l4 : Value} {x : Int32} : Rr X d MRm_row 46 [l0, l1, l2, .int x, l4] st h = Rr X d MRm_row 47 [l0, l1, l2, .int x, l4] (.int x :: st) h := Rr_nx d_MRm_row_46 rfl
theorem r_MRm_row_47 {a : Nat} {j x : Int32} (hq : (qA a 0).isSome = true) : Rr X d MRm_row 47 L (.int x :: .int j :: .ref a :: st) (Wd mu la ro et) = if j < 0 ∨ qAd a 0 ≤ j.toNatClampNeg then none else Rr X d MRm_row 48 L st (Wd (up2 mu a j.toNatClampNeg (x)) la ro et) := R_iasW d_MRm_row_47 hq
theorem r_MRm_row_48 : Rr X d MRm_row 48 L st h = Rr X d MRm_row 50 L (.int (60) :: st) h := Rr_nx d_MRm_row_48 rfl
theorem r_MRm_row_50 {l0 l2 l3 l4 : Value} {x : Int32} : Rr X d MRm_row 50 [l0, .int x, l2, l3, l4] st h = Rr X d MRm_row 51 [l0, .int x, l2, l3, l4] (.int x :: st) h := Rr_nx d_MRm_row_50 rfl
theorem r_MRm_row_51 {x y : Int32} : Rr X d MRm_row 51 L (.int y :: .int x :: st) h = Rr X d MRm_row 52 L (.int (x * y) :: st) h := Rr_nx d_MRm_row_51 rfl
theorem r_MRm_row_52 {l0 l1 l2 l3 l4 : Value} {x : Int32} : Rr X d MRm_row 52 [l0, l1, l2, l3, l4] (.int x :: st) h = Rr X d MRm_row 54 (sL [l0, l1, l2, l3, l4] 4 (.int x)) st h := Rr_nx d_MRm_row_52 rfl
theorem r_MRm_row_54 {l0 l1 l2 l3 : Value} {x : Int32} : Rr X d MRm_row 54 [l0, l1, l2, l3, .int x] st h = Rr X d MRm_row 56 [l0, l1, l2, l3, .int x] (.int x :: st) h := Rr_nx d_MRm_row_54 rfl
theorem r_MRm_row_56 : Rr X d MRm_row 56 L st h = Rr X d MRm_row 58 L (.int (60) :: st) h := Rr_nx d_MRm_row_56 rfl
theorem r_MRm_row_58 {l0 l2 l3 l4 : Value} {x : Int32} : Rr X d MRm_row 58 [l0, .int x, l2, l3, l4] st h = Rr X d MRm_row 59 [l0, .int x, l2, l3, l4] (.int x :: st) h := Rr_nx d_MRm_row_58 rfl
theorem r_MRm_row_59 {x y : Int32} : Rr X d MRm_row 59 L (.int y :: .int x :: st) h = Rr X d MRm_row 60 L (.int (x * y) :: st) h := Rr_nx d_MRm_row_59 rfl
theorem r_MRm_row_60 : Rr X d MRm_row 60 L st h = Rr X d MRm_row 62 L (.int (60) :: st) h := Rr_nx d_MRm_row_60 rfl
theorem r_MRm_row_62 {x y : Int32} : Rr X d MRm_row 62 L (.int y :: .int x :: st) h = Rr X d MRm_row 63 L (.int (x + y) :: st) h := Rr_nx d_MRm_row_62 rfl
theorem r_MRm_row_63 {x y : Int32} : Rr X d MRm_row 63 L (.int y :: .int x :: st) h = if y ≤ x then Rr X d MRm_row 80 L st h else Rr X d MRm_row 66 L st h := R_ic_ge d_MRm_row_63 (by decide)
theorem r_MRm_row_66 {l1 l2 l3 l4 : Value} {x : Nat} : Rr X d MRm_row 66 [.ref x, l1, l2, l3, l4] st h = Rr X d MRm_row 67 [.ref x, l1, l2, l3, l4] (.ref x :: st) h := Rr_nx d_MRm_row_66 rfl
theorem r_MRm_row_67 {a : Nat} (hq : (qR a 10 57).isSome = true) : Rr X d MRm_row 67 L (.ref a :: st) (Wd mu la ro et) = Rr X d MRm_row 70 L (.ref (qRd a 10 57) :: st) (Wd mu la ro et) := R_gfR d_MRm_row_67 ff_10_98 hq
theorem r_MRm_row_70 {l0 l1 l2 l3 : Value} {x : Int32} : Rr X d MRm_row 70 [l0, l1, l2, l3, .int x] st h = Rr X d MRm_row 72 [l0, l1, l2, l3, .int x] (.int x :: st) h := Rr_nx d_MRm_row_70 rfl
theorem r_MRm_row_72 : Rr X d MRm_row 72 L st h = Rr X d MRm_row 73 L (.long 0 :: st) h := Rr_nx d_MRm_row_72 rfl
theorem r_MRm_row_73 {a : Nat} {j : Int32} {x : Int64} (hq : (qJ a).isSome = true) : Rr X d MRm_row 73 L (.long x :: .int j :: .ref a :: st) (Wd mu la ro et) = if j < 0 ∨ qJd a ≤ j.toNatClampNeg then none else Rr X d MRm_row 74 L st (Wd mu (upJ la a j.toNatClampNeg x) ro et) := R_lasW d_MRm_row_73 hq
theorem r_MRm_row_74 {l0 l1 l2 l3 : Value} {x : Int32} : Rr X d MRm_row 74 [l0, l1, l2, l3, .int x] st h = Rr X d MRm_row 77 (sL [l0, l1, l2, l3, .int x] 4 (.int (x + (1)))) st h := Rr_nx d_MRm_row_74 rfl
theorem r_MRm_row_77 : Rr X d MRm_row 77 L st h = Rr X d MRm_row 54 L st h := R_goto d_MRm_row_77 (by decide)
theorem r_MRm_row_80 : Rr X d MRm_row 80 L st h = Rr X d MRm_row 81 L (.int (1) :: st) h := Rr_nx d_MRm_row_80 rfl
theorem r_MRm_row_81 {x : Int32} : Rr X d MRm_row 81 L [.int x] h = some (some (.int x), h) := R_ir d_MRm_row_81 rfl
theorem d_MRm_whyNoPlace_0 : decode MRm_whyNoPlace.2.2.1 0 = .ok (.iload_n 1, 1) := by decide +kernel
theorem d_MRm_whyNoPlace_1 : decode MRm_whyNoPlace.2.2.1 1 = .ok (.invokestatic 348, 3) := by decide +kernel
theorem d_MRm_whyNoPlace_4 : decode MRm_whyNoPlace.2.2.1 4 = .ok (.ifCond .ne 5, 3) := by decide +kernel
theorem d_MRm_whyNoPlace_7 : decode MRm_whyNoPlace.2.2.1 7 = .ok (.iconst (-1), 1) := by decide +kernel
theorem d_MRm_whyNoPlace_8 : decode MRm_whyNoPlace.2.2.1 8 = .ok (.ireturn, 1) := by decide +kernel
theorem d_MRm_whyNoPlace_9 : decode MRm_whyNoPlace.2.2.1 9 = .ok (.aload_n 0, 1) := by decide +kernel
theorem d_MRm_whyNoPlace_10 : decode MRm_whyNoPlace.2.2.1 10 = .ok (.getfield 92, 3) := by decide +kernel
theorem d_MRm_whyNoPlace_13 : decode MRm_whyNoPlace.2.2.1 13 = .ok (.iload_n 1, 1) := by decide +kernel
theorem d_MRm_whyNoPlace_14 : decode MRm_whyNoPlace.2.2.1 14 = .ok (.iaload, 1) := by decide +kernel
theorem d_MRm_whyNoPlace_15 : decode MRm_whyNoPlace.2.2.1 15 = .ok (.iconst (-1), 1) := by decide +kernel
theorem d_MRm_whyNoPlace_16 : decode MRm_whyNoPlace.2.2.1 16 = .ok (.if_icmp .ne 6, 3) := by decide +kernel
theorem d_MRm_whyNoPlace_19 : decode MRm_whyNoPlace.2.2.1 19 = .ok (.bipush (-11), 2) := by decide +kernel
theorem d_MRm_whyNoPlace_21 : decode MRm_whyNoPlace.2.2.1 21 = .ok (.ireturn, 1) := by decide +kernel
theorem d_MRm_whyNoPlace_22 : decode MRm_whyNoPlace.2.2.1 22 = .ok (.aload_n 0, 1) := by decide +kernel
theorem d_MRm_whyNoPlace_23 : decode MRm_whyNoPlace.2.2.1 23 = .ok (.getfield 92, 3) := by decide +kernel
theorem d_MRm_whyNoPlace_26 : decode MRm_whyNoPlace.2.2.1 26 = .ok (.iload_n 1, 1) := by decide +kernel
theorem d_MRm_whyNoPlace_27 : decode MRm_whyNoPlace.2.2.1 27 = .ok (.iaload, 1) := by decide +kernel
theorem d_MRm_whyNoPlace_28 : decode MRm_whyNoPlace.2.2.1 28 = .ok (.ifCond .lt 6, 3) := by decide +kernel
theorem d_MRm_whyNoPlace_31 : decode MRm_whyNoPlace.2.2.1 31 = .ok (.bipush (-12), 2) := by decide +kernel
theorem d_MRm_whyNoPlace_33 : decode MRm_whyNoPlace.2.2.1 33 = .ok (.ireturn, 1) := by decide +kernel
theorem d_MRm_whyNoPlace_34 : decode MRm_whyNoPlace.2.2.1 34 = .ok (.iload_n 2, 1) := by decide +kernel
theorem d_MRm_whyNoPlace_35 : decode MRm_whyNoPlace.2.2.1 35 = .ok (.iconst 0, 1) := by decide +kernel
theorem d_MRm_whyNoPlace_36 : decode MRm_whyNoPlace.2.2.1 36 = .ok (.aload_n 0, 1) := by decide +kernel
theorem d_MRm_whyNoPlace_37 : decode MRm_whyNoPlace.2.2.1 37 = .ok (.getfield 95, 3) := by decide +kernel
theorem d_MRm_whyNoPlace_40 : decode MRm_whyNoPlace.2.2.1 40 = .ok (.iload_n 1, 1) := by decide +kernel
theorem d_MRm_whyNoPlace_41 : decode MRm_whyNoPlace.2.2.1 41 = .ok (.iaload, 1) := by decide +kernel
theorem d_MRm_whyNoPlace_42 : decode MRm_whyNoPlace.2.2.1 42 = .ok (.iconst 1, 1) := by decide +kernel
theorem d_MRm_whyNoPlace_43 : decode MRm_whyNoPlace.2.2.1 43 = .ok (.isub, 1) := by decide +kernel
theorem d_MRm_whyNoPlace_44 : decode MRm_whyNoPlace.2.2.1 44 = .ok (.invokestatic 107, 3) := by decide +kernel
theorem d_MRm_whyNoPlace_47 : decode MRm_whyNoPlace.2.2.1 47 = .ok (.ifCond .eq 7, 3) := by decide +kernel
theorem d_MRm_whyNoPlace_50 : decode MRm_whyNoPlace.2.2.1 50 = .ok (.iconst 0, 1) := by decide +kernel
theorem d_MRm_whyNoPlace_51 : decode MRm_whyNoPlace.2.2.1 51 = .ok (.goto 5, 3) := by decide +kernel
theorem d_MRm_whyNoPlace_54 : decode MRm_whyNoPlace.2.2.1 54 = .ok (.bipush (-13), 2) := by decide +kernel
theorem d_MRm_whyNoPlace_56 : decode MRm_whyNoPlace.2.2.1 56 = .ok (.ireturn, 1) := by decide +kernel
theorem r_MRm_whyNoPlace_0 {l0 l2 : Value} {x : Int32} : Rr X d MRm_whyNoPlace 0 [l0, .int x, l2] st h = Rr X d MRm_whyNoPlace 1 [l0, .int x, l2] (.int x :: st) h := Rr_nx d_MRm_whyNoPlace_0 rfl
theorem r_MRm_whyNoPlace_1 {y0 : Int32} (hc : ckS st = true) : Rr X (d + 1) MRm_whyNoPlace 1 L (.int y0 :: st) h = (Rr X d MRm_isShelf 0 [.int y0] [] h).bind fun q => Rr X (d + 1) MRm_whyNoPlace 4 L (psh q.1 st) q.2 := R_is (av := [.int y0]) d_MRm_whyNoPlace_1 (Or.inl fc_10_348) (ckS_le hc) rfl (Nat.le_of_ble_eq_true rfl) (Nat.le_of_ble_eq_true rfl)
theorem r_MRm_whyNoPlace_4 {x : Int32} : Rr X d MRm_whyNoPlace 4 L (.int x :: st) h = if ¬ x = 0 then Rr X d MRm_whyNoPlace 9 L st h else Rr X d MRm_whyNoPlace 7 L st h := R_if_ne d_MRm_whyNoPlace_4 (by decide)
theorem r_MRm_whyNoPlace_7 : Rr X d MRm_whyNoPlace 7 L st h = Rr X d MRm_whyNoPlace 8 L (.int (-1) :: st) h := Rr_nx d_MRm_whyNoPlace_7 rfl
theorem r_MRm_whyNoPlace_8 {x : Int32} : Rr X d MRm_whyNoPlace 8 L [.int x] h = some (some (.int x), h) := R_ir d_MRm_whyNoPlace_8 rfl
theorem r_MRm_whyNoPlace_9 {l1 l2 : Value} {x : Nat} : Rr X d MRm_whyNoPlace 9 [.ref x, l1, l2] st h = Rr X d MRm_whyNoPlace 10 [.ref x, l1, l2] (.ref x :: st) h := Rr_nx d_MRm_whyNoPlace_9 rfl
theorem r_MRm_whyNoPlace_10 {a : Nat} (hq : (qR a 10 55).isSome = true) : Rr X d MRm_whyNoPlace 10 L (.ref a :: st) (Wd mu la ro et) = Rr X d MRm_whyNoPlace 13 L (.ref (qRd a 10 55) :: st) (Wd mu la ro et) := R_gfR d_MRm_whyNoPlace_10 ff_10_92 hq
theorem r_MRm_whyNoPlace_13 {l0 l2 : Value} {x : Int32} : Rr X d MRm_whyNoPlace 13 [l0, .int x, l2] st h = Rr X d MRm_whyNoPlace 14 [l0, .int x, l2] (.int x :: st) h := Rr_nx d_MRm_whyNoPlace_13 rfl
theorem r_MRm_whyNoPlace_14 {a : Nat} {j : Int32} (hq : (qA a 0).isSome = true) : Rr X d MRm_whyNoPlace 14 L (.int j :: .ref a :: st) (Wd mu la ro et) = if j < 0 ∨ qAd a 0 ≤ j.toNatClampNeg then none else Rr X d MRm_whyNoPlace 15 L (.int (mu a j.toNatClampNeg) :: st) (Wd mu la ro et) := R_ialW d_MRm_whyNoPlace_14 hq
theorem r_MRm_whyNoPlace_15 : Rr X d MRm_whyNoPlace 15 L st h = Rr X d MRm_whyNoPlace 16 L (.int (-1) :: st) h := Rr_nx d_MRm_whyNoPlace_15 rfl
theorem r_MRm_whyNoPlace_16 {x y : Int32} : Rr X d MRm_whyNoPlace 16 L (.int y :: .int x :: st) h = if ¬ x = y then Rr X d MRm_whyNoPlace 22 L st h else Rr X d MRm_whyNoPlace 19 L st h := R_ic_ne d_MRm_whyNoPlace_16 (by decide)
theorem r_MRm_whyNoPlace_19 : Rr X d MRm_whyNoPlace 19 L st h = Rr X d MRm_whyNoPlace 21 L (.int (-11) :: st) h := Rr_nx d_MRm_whyNoPlace_19 rfl
theorem r_MRm_whyNoPlace_21 {x : Int32} : Rr X d MRm_whyNoPlace 21 L [.int x] h = some (some (.int x), h) := R_ir d_MRm_whyNoPlace_21 rfl
theorem r_MRm_whyNoPlace_22 {l1 l2 : Value} {x : Nat} : Rr X d MRm_whyNoPlace 22 [.ref x, l1, l2] st h = Rr X d MRm_whyNoPlace 23 [.ref x, l1, l2] (.ref x :: st) h := Rr_nx d_MRm_whyNoPlace_22 rfl
theorem r_MRm_whyNoPlace_23 {a : Nat} (hq : (qR a 10 55).isSome = true) : Rr X d MRm_whyNoPlace 23 L (.ref a :: st) (Wd mu la ro et) = Rr X d MRm_whyNoPlace 26 L (.ref (qRd a 10 55) :: st) (Wd mu la ro et) := R_gfR d_MRm_whyNoPlace_23 ff_10_92 hq
theorem r_MRm_whyNoPlace_26 {l0 l2 : Value} {x : Int32} : Rr X d MRm_whyNoPlace 26 [l0, .int x, l2] st h = Rr X d MRm_whyNoPlace 27 [l0, .int x, l2] (.int x :: st) h := Rr_nx d_MRm_whyNoPlace_26 rfl
theorem r_MRm_whyNoPlace_27 {a : Nat} {j : Int32} (hq : (qA a 0).isSome = true) : Rr X d MRm_whyNoPlace 27 L (.int j :: .ref a :: st) (Wd mu la ro et) = if j < 0 ∨ qAd a 0 ≤ j.toNatClampNeg then none else Rr X d MRm_whyNoPlace 28 L (.int (mu a j.toNatClampNeg) :: st) (Wd mu la ro et) := R_ialW d_MRm_whyNoPlace_27 hq
theorem r_MRm_whyNoPlace_28 {x : Int32} : Rr X d MRm_whyNoPlace 28 L (.int x :: st) h = if x < 0 then Rr X d MRm_whyNoPlace 34 L st h else Rr X d MRm_whyNoPlace 31 L st h := R_if_lt d_MRm_whyNoPlace_28 (by decide)
theorem r_MRm_whyNoPlace_31 : Rr X d MRm_whyNoPlace 31 L st h = Rr X d MRm_whyNoPlace 33 L (.int (-12) :: st) h := Rr_nx d_MRm_whyNoPlace_31 rfl
theorem r_MRm_whyNoPlace_33 {x : Int32} : Rr X d MRm_whyNoPlace 33 L [.int x] h = some (some (.int x), h) := R_ir d_MRm_whyNoPlace_33 rfl
theorem r_MRm_whyNoPlace_34 {l0 l1 : Value} {x : Int32} : Rr X d MRm_whyNoPlace 34 [l0, l1, .int x] st h = Rr X d MRm_whyNoPlace 35 [l0, l1, .int x] (.int x :: st) h := Rr_nx d_MRm_whyNoPlace_34 rfl
theorem r_MRm_whyNoPlace_35 : Rr X d MRm_whyNoPlace 35 L st h = Rr X d MRm_whyNoPlace 36 L (.int (0) :: st) h := Rr_nx d_MRm_whyNoPlace_35 rfl
theorem r_MRm_whyNoPlace_36 {l1 l2 : Value} {x : Nat} : Rr X d MRm_whyNoPlace 36 [.ref x, l1, l2] st h = Rr X d MRm_whyNoPlace 37 [.ref x, l1, l2] (.ref x :: st) h := Rr_nx d_MRm_whyNoPlace_36 rfl
theorem r_MRm_whyNoPlace_37 {a : Nat} (hq : (qR a 10 56).isSome = true) : Rr X d MRm_whyNoPlace 37 L (.ref a :: st) (Wd mu la ro et) = Rr X d MRm_whyNoPlace 40 L (.ref (qRd a 10 56) :: st) (Wd mu la ro et) := R_gfR d_MRm_whyNoPlace_37 ff_10_95 hq
theorem r_MRm_whyNoPlace_40 {l0 l2 : Value} {x : Int32} : Rr X d MRm_whyNoPlace 40 [l0, .int x, l2] st h = Rr X d MRm_whyNoPlace 41 [l0, .int x, l2] (.int x :: st) h := Rr_nx d_MRm_whyNoPlace_40 rfl
theorem r_MRm_whyNoPlace_41 {a : Nat} {j : Int32} (hq : (qA a 0).isSome = true) : Rr X d MRm_whyNoPlace 41 L (.int j :: .ref a :: st) (Wd mu la ro et) = if j < 0 ∨ qAd a 0 ≤ j.toNatClampNeg then none else Rr X d MRm_whyNoPlace 42 L (.int (mu a j.toNatClampNeg) :: st) (Wd mu la ro et) := R_ialW d_MRm_whyNoPlace_41 hq
theorem r_MRm_whyNoPlace_42 : Rr X d MRm_whyNoPlace 42 L st h = Rr X d MRm_whyNoPlace 43 L (.int (1) :: st) h := Rr_nx d_MRm_whyNoPlace_42 rfl
theorem r_MRm_whyNoPlace_43 {x y : Int32} : Rr X d MRm_whyNoPlace 43 L (.int y :: .int x :: st) h = Rr X d MRm_whyNoPlace 44 L (.int (x - y) :: st) h := Rr_nx d_MRm_whyNoPlace_43 rfl
theorem r_MRm_whyNoPlace_44 {y0 : Int32} {y1 : Int32} {y2 : Int32} (hc : ckS st = true) : Rr X (d + 1) MRm_whyNoPlace 44 L (.int y2 :: .int y1 :: .int y0 :: st) h = (Rr X d MRm_in 0 [.int y0, .int y1, .int y2] [] h).bind fun q => Rr X (d + 1) MRm_whyNoPlace 47 L (psh q.1 st) q.2 := R_is (av := [.int y2, .int y1, .int y0]) d_MRm_whyNoPlace_44 (Or.inl fc_10_107) (ckS_le hc) rfl (Nat.le_of_ble_eq_true rfl) (Nat.le_of_ble_eq_true rfl)
theorem r_MRm_whyNoPlace_47 {x : Int32} : Rr X d MRm_whyNoPlace 47 L (.int x :: st) h = if x = 0 then Rr X d MRm_whyNoPlace 54 L st h else Rr X d MRm_whyNoPlace 50 L st h := R_if_eq d_MRm_whyNoPlace_47 (by decide)
theorem r_MRm_whyNoPlace_50 : Rr X d MRm_whyNoPlace 50 L st h = Rr X d MRm_whyNoPlace 51 L (.int (0) :: st) h := Rr_nx d_MRm_whyNoPlace_50 rfl
theorem r_MRm_whyNoPlace_51 : Rr X d MRm_whyNoPlace 51 L st h = Rr X d MRm_whyNoPlace 56 L st h := R_goto d_MRm_whyNoPlace_51 (by decide)
theorem r_MRm_whyNoPlace_54 : Rr X d MRm_whyNoPlace 54 L st h = Rr X d MRm_whyNoPlace 56 L (.int (-13) :: st) h := Rr_nx d_MRm_whyNoPlace_54 rfl
theorem r_MRm_whyNoPlace_56 {x : Int32} : Rr X d MRm_whyNoPlace 56 L [.int x] h = some (some (.int x), h) := R_ir d_MRm_whyNoPlace_56 rfl
theorem d_MRm_put_0 : decode MRm_put.2.2.1 0 = .ok (.aload_n 0, 1) := by decide +kernel
theorem d_MRm_put_1 : decode MRm_put.2.2.1 1 = .ok (.iload_n 1, 1) := by decide +kernel
theorem d_MRm_put_2 : decode MRm_put.2.2.1 2 = .ok (.iload_n 2, 1) := by decide +kernel
theorem d_MRm_put_3 : decode MRm_put.2.2.1 3 = .ok (.invokevirtual 401, 3) := by decide +kernel
theorem d_MRm_put_6 : decode MRm_put.2.2.1 6 = .ok (.istore 5, 2) := by decide +kernel
theorem d_MRm_put_8 : decode MRm_put.2.2.1 8 = .ok (.iload 5, 2) := by decide +kernel
theorem d_MRm_put_10 : decode MRm_put.2.2.1 10 = .ok (.ifCond .ge 6, 3) := by decide +kernel
theorem d_MRm_put_13 : decode MRm_put.2.2.1 13 = .ok (.iload 5, 2) := by decide +kernel
theorem d_MRm_put_15 : decode MRm_put.2.2.1 15 = .ok (.ireturn, 1) := by decide +kernel
theorem d_MRm_put_16 : decode MRm_put.2.2.1 16 = .ok (.bipush (-2), 2) := by decide +kernel
theorem d_MRm_put_18 : decode MRm_put.2.2.1 18 = .ok (.aload_n 0, 1) := by decide +kernel
theorem d_MRm_put_19 : decode MRm_put.2.2.1 19 = .ok (.getfield 92, 3) := by decide +kernel
theorem d_MRm_put_22 : decode MRm_put.2.2.1 22 = .ok (.iload_n 1, 1) := by decide +kernel
theorem d_MRm_put_23 : decode MRm_put.2.2.1 23 = .ok (.iaload, 1) := by decide +kernel
theorem d_MRm_put_24 : decode MRm_put.2.2.1 24 = .ok (.isub, 1) := by decide +kernel
theorem d_MRm_put_25 : decode MRm_put.2.2.1 25 = .ok (.istore 6, 2) := by decide +kernel
theorem d_MRm_put_27 : decode MRm_put.2.2.1 27 = .ok (.aload_n 0, 1) := by decide +kernel
theorem d_MRm_put_28 : decode MRm_put.2.2.1 28 = .ok (.getfield 98, 3) := by decide +kernel
theorem d_MRm_put_31 : decode MRm_put.2.2.1 31 = .ok (.bipush 60, 2) := by decide +kernel
theorem d_MRm_put_33 : decode MRm_put.2.2.1 33 = .ok (.iload_n 1, 1) := by decide +kernel
theorem d_MRm_put_34 : decode MRm_put.2.2.1 34 = .ok (.imul, 1) := by decide +kernel
theorem d_MRm_put_35 : decode MRm_put.2.2.1 35 = .ok (.iload_n 2, 1) := by decide +kernel
theorem d_MRm_put_36 : decode MRm_put.2.2.1 36 = .ok (.iadd, 1) := by decide +kernel
theorem d_MRm_put_37 : decode MRm_put.2.2.1 37 = .ok (.iload 6, 2) := by decide +kernel
theorem d_MRm_put_39 : decode MRm_put.2.2.1 39 = .ok (.ifCond .ne 10, 3) := by decide +kernel
theorem d_MRm_put_42 : decode MRm_put.2.2.1 42 = .ok (.lload_n 3, 1) := by decide +kernel
theorem d_MRm_put_43 : decode MRm_put.2.2.1 43 = .ok (.l2i, 1) := by decide +kernel
theorem d_MRm_put_44 : decode MRm_put.2.2.1 44 = .ok (.i2b, 1) := by decide +kernel
theorem d_MRm_put_45 : decode MRm_put.2.2.1 45 = .ok (.i2l, 1) := by decide +kernel
theorem d_MRm_put_46 : decode MRm_put.2.2.1 46 = .ok (.goto 49, 3) := by decide +kernel
theorem d_MRm_put_49 : decode MRm_put.2.2.1 49 = .ok (.iload 6, 2) := by decide +kernel
theorem d_MRm_put_51 : decode MRm_put.2.2.1 51 = .ok (.iconst 1, 1) := by decide +kernel
theorem d_MRm_put_52 : decode MRm_put.2.2.1 52 = .ok (.if_icmp .ne 10, 3) := by decide +kernel
theorem d_MRm_put_55 : decode MRm_put.2.2.1 55 = .ok (.lload_n 3, 1) := by decide +kernel
theorem d_MRm_put_56 : decode MRm_put.2.2.1 56 = .ok (.l2i, 1) := by decide +kernel
theorem d_MRm_put_57 : decode MRm_put.2.2.1 57 = .ok (.i2s, 1) := by decide +kernel
theorem d_MRm_put_58 : decode MRm_put.2.2.1 58 = .ok (.i2l, 1) := by decide +kernel
theorem d_MRm_put_59 : decode MRm_put.2.2.1 59 = .ok (.goto 36, 3) := by decide +kernel
theorem d_MRm_put_62 : decode MRm_put.2.2.1 62 = .ok (.iload 6, 2) := by decide +kernel
theorem d_MRm_put_64 : decode MRm_put.2.2.1 64 = .ok (.iconst 2, 1) := by decide +kernel
theorem d_MRm_put_65 : decode MRm_put.2.2.1 65 = .ok (.if_icmp .ne 9, 3) := by decide +kernel
theorem d_MRm_put_68 : decode MRm_put.2.2.1 68 = .ok (.lload_n 3, 1) := by decide +kernel
theorem d_MRm_put_69 : decode MRm_put.2.2.1 69 = .ok (.l2i, 1) := by decide +kernel
theorem d_MRm_put_70 : decode MRm_put.2.2.1 70 = .ok (.i2l, 1) := by decide +kernel
theorem d_MRm_put_71 : decode MRm_put.2.2.1 71 = .ok (.goto 24, 3) := by decide +kernel
theorem d_MRm_put_74 : decode MRm_put.2.2.1 74 = .ok (.iload 6, 2) := by decide +kernel
theorem d_MRm_put_76 : decode MRm_put.2.2.1 76 = .ok (.iconst 3, 1) := by decide +kernel
theorem d_MRm_put_77 : decode MRm_put.2.2.1 77 = .ok (.if_icmp .ne 7, 3) := by decide +kernel
theorem d_MRm_put_80 : decode MRm_put.2.2.1 80 = .ok (.lload_n 3, 1) := by decide +kernel
theorem d_MRm_put_81 : decode MRm_put.2.2.1 81 = .ok (.goto 14, 3) := by decide +kernel
theorem d_MRm_put_84 : decode MRm_put.2.2.1 84 = .ok (.lload_n 3, 1) := by decide +kernel
theorem d_MRm_put_85 : decode MRm_put.2.2.1 85 = .ok (.lconst 0, 1) := by decide +kernel
theorem d_MRm_put_86 : decode MRm_put.2.2.1 86 = .ok (.lcmp, 1) := by decide +kernel
theorem d_MRm_put_87 : decode MRm_put.2.2.1 87 = .ok (.ifCond .eq 7, 3) := by decide +kernel
theorem d_MRm_put_90 : decode MRm_put.2.2.1 90 = .ok (.lconst 1, 1) := by decide +kernel
theorem d_MRm_put_91 : decode MRm_put.2.2.1 91 = .ok (.goto 4, 3) := by decide +kernel
theorem d_MRm_put_94 : decode MRm_put.2.2.1 94 = .ok (.lconst 0, 1) := by decide +kernel
theorem d_MRm_put_95 : decode MRm_put.2.2.1 95 = .ok (.lastore, 1) := by decide +kernel
theorem d_MRm_put_96 : decode MRm_put.2.2.1 96 = .ok (.iconst 1, 1) := by decide +kernel
theorem d_MRm_put_97 : decode MRm_put.2.2.1 97 = .ok (.ireturn, 1) := by decide +kernel
theorem r_MRm_put_0 {l1 l2 l3 l4 l5 l6 : Value} {x : Nat} : Rr X d MRm_put 0 [.ref x, l1, l2, l3, l4, l5, l6] st h = Rr X d MRm_put 1 [.ref x, l1, l2, l3, l4, l5, l6] (.ref x :: st) h := Rr_nx d_MRm_put_0 rfl
theorem r_MRm_put_1 {l0 l2 l3 l4 l5 l6 : Value} {x : Int32} : Rr X d MRm_put 1 [l0, .int x, l2, l3, l4, l5, l6] st h = Rr X d MRm_put 2 [l0, .int x, l2, l3, l4, l5, l6] (.int x :: st) h := Rr_nx d_MRm_put_1 rfl
theorem r_MRm_put_2 {l0 l1 l3 l4 l5 l6 : Value} {x : Int32} : Rr X d MRm_put 2 [l0, l1, .int x, l3, l4, l5, l6] st h = Rr X d MRm_put 3 [l0, l1, .int x, l3, l4, l5, l6] (.int x :: st) h := Rr_nx d_MRm_put_2 rfl
theorem fc_10_401 : fC 10 401 = some (0, 10, 2, MRm_whyNoPlace) := rfl
theorem r_MRm_put_3 {y0 : Int32} {y1 : Int32} {a : Nat} (hO : qO a 10 = true) (hc : ckS st = true) : Rr X (d + 1) MRm_put 3 L (.int y1 :: .int y0 :: .ref a :: st) (Wd mu la ro et) = (Rr X d MRm_whyNoPlace 0 [.ref a, .int y0, .int y1] [] (Wd mu la ro et)).bind fun q => Rr X (d + 1) MRm_put 6 L (psh q.1 st) q.2 := R_iv (av := [.int y1, .int y0]) d_MRm_put_3 fc_10_401 hO (ckS_le hc) rfl (Nat.le_of_ble_eq_true rfl) (Nat.le_of_ble_eq_true rfl)
theorem r_MRm_put_6 {l0 l1 l2 l3 l4 l5 l6 : Value} {x : Int32} : Rr X d MRm_put 6 [l0, l1, l2, l3, l4, l5, l6] (.int x :: st) h = Rr X d MRm_put 8 (sL [l0, l1, l2, l3, l4, l5, l6] 5 (.int x)) st h := Rr_nx d_MRm_put_6 rfl
theorem r_MRm_put_8 {l0 l1 l2 l3 l4 l6 : Value} {x : Int32} : Rr X d MRm_put 8 [l0, l1, l2, l3, l4, .int x, l6] st h = Rr X d MRm_put 10 [l0, l1, l2, l3, l4, .int x, l6] (.int x :: st) h := Rr_nx d_MRm_put_8 rfl
theorem r_MRm_put_10 {x : Int32} : Rr X d MRm_put 10 L (.int x :: st) h = if 0 ≤ x then Rr X d MRm_put 16 L st h else Rr X d MRm_put 13 L st h := R_if_ge d_MRm_put_10 (by decide)
theorem r_MRm_put_13 {l0 l1 l2 l3 l4 l6 : Value} {x : Int32} : Rr X d MRm_put 13 [l0, l1, l2, l3, l4, .int x, l6] st h = Rr X d MRm_put 15 [l0, l1, l2, l3, l4, .int x, l6] (.int x :: st) h := Rr_nx d_MRm_put_13 rfl
theorem r_MRm_put_15 {x : Int32} : Rr X d MRm_put 15 L [.int x] h = some (some (.int x), h) := R_ir d_MRm_put_15 rfl
theorem r_MRm_put_16 : Rr X d MRm_put 16 L st h = Rr X d MRm_put 18 L (.int (-2) :: st) h := Rr_nx d_MRm_put_16 rfl
theorem r_MRm_put_18 {l1 l2 l3 l4 l5 l6 : Value} {x : Nat} : Rr X d MRm_put 18 [.ref x, l1, l2, l3, l4, l5, l6] st h = Rr X d MRm_put 19 [.ref x, l1, l2, l3, l4, l5, l6] (.ref x :: st) h := Rr_nx d_MRm_put_18 rfl
theorem r_MRm_put_19 {a : Nat} (hq : (qR a 10 55).isSome = true) : Rr X d MRm_put 19 L (.ref a :: st) (Wd mu la ro et) = Rr X d MRm_put 22 L (.ref (qRd a 10 55) :: st) (Wd mu la ro et) := R_gfR d_MRm_put_19 ff_10_92 hq
theorem r_MRm_put_22 {l0 l2 l3 l4 l5 l6 : Value} {x : Int32} : Rr X d MRm_put 22 [l0, .int x, l2, l3, l4, l5, l6] st h = Rr X d MRm_put 23 [l0, .int x, l2, l3, l4, l5, l6] (.int x :: st) h := Rr_nx d_MRm_put_22 rfl
theorem r_MRm_put_23 {a : Nat} {j : Int32} (hq : (qA a 0).isSome = true) : Rr X d MRm_put 23 L (.int j :: .ref a :: st) (Wd mu la ro et) = if j < 0 ∨ qAd a 0 ≤ j.toNatClampNeg then none else Rr X d MRm_put 24 L (.int (mu a j.toNatClampNeg) :: st) (Wd mu la ro et) := R_ialW d_MRm_put_23 hq
theorem r_MRm_put_24 {x y : Int32} : Rr X d MRm_put 24 L (.int y :: .int x :: st) h = Rr X d MRm_put 25 L (.int (x - y) :: st) h := Rr_nx d_MRm_put_24 rfl
theorem r_MRm_put_25 {l0 l1 l2 l3 l4 l5 l6 : Value} {x : Int32} : Rr X d MRm_put 25 [l0, l1, l2, l3, l4, l5, l6] (.int x :: st) h = Rr X d MRm_put 27 (sL [l0, l1, l2, l3, l4, l5, l6] 6 (.int x)) st h := Rr_nx d_MRm_put_25 rfl
theorem r_MRm_put_27 {l1 l2 l3 l4 l5 l6 : Value} {x : Nat} : Rr X d MRm_put 27 [.ref x, l1, l2, l3, l4, l5, l6] st h = Rr X d MRm_put 28 [.ref x, l1, l2, l3, l4, l5, l6] (.ref x :: st) h := Rr_nx d_MRm_put_27 rfl
theorem r_MRm_put_28 {a : Nat} (hq : (qR a 10 57).isSome = true) : Rr X d MRm_put 28 L (.ref a :: st) (Wd mu la ro et) = Rr X d MRm_put 31 L (.ref (qRd a 10 57) :: st) (Wd mu la ro et) := R_gfR d_MRm_put_28 ff_10_98 hq
theorem r_MRm_put_31 : Rr X d MRm_put 31 L st h = Rr X d MRm_put 33 L (.int (60) :: st) h := Rr_nx d_MRm_put_31 rfl
theorem r_MRm_put_33 {l0 l2 l3 l4 l5 l6 : Value} {x : Int32} : Rr X d MRm_put 33 [l0, .int x, l2, l3, l4, l5, l6] st h = Rr X d MRm_put 34 [l0, .int x, l2, l3, l4, l5, l6] (.int x :: st) h := Rr_nx d_MRm_put_33 rfl
theorem r_MRm_put_34 {x y : Int32} : Rr X d MRm_put 34 L (.int y :: .int x :: st) h = Rr X d MRm_put 35 L (.int (x * y) :: st) h := Rr_nx d_MRm_put_34 rfl
theorem r_MRm_put_35 {l0 l1 l3 l4 l5 l6 : Value} {x : Int32} : Rr X d MRm_put 35 [l0, l1, .int x, l3, l4, l5, l6] st h = Rr X d MRm_put 36 [l0, l1, .int x, l3, l4, l5, l6] (.int x :: st) h := Rr_nx d_MRm_put_35 rfl
theorem r_MRm_put_36 {x y : Int32} : Rr X d MRm_put 36 L (.int y :: .int x :: st) h = Rr X d MRm_put 37 L (.int (x + y) :: st) h := Rr_nx d_MRm_put_36 rfl
theorem r_MRm_put_37 {l0 l1 l2 l3 l4 l5 : Value} {x : Int32} : Rr X d MRm_put 37 [l0, l1, l2, l3, l4, l5, .int x] st h = Rr X d MRm_put 39 [l0, l1, l2, l3, l4, l5, .int x] (.int x :: st) h := Rr_nx d_MRm_put_37 rfl
theorem r_MRm_put_39 {x : Int32} : Rr X d MRm_put 39 L (.int x :: st) h = if ¬ x = 0 then Rr X d MRm_put 49 L st h else Rr X d MRm_put 42 L st h := R_if_ne d_MRm_put_39 (by decide)
theorem r_MRm_put_42 {l0 l1 l2 l4 l5 l6 : Value} {x : Int64} : Rr X d MRm_put 42 [l0, l1, l2, .long x, l4, l5, l6] st h = Rr X d MRm_put 43 [l0, l1, l2, .long x, l4, l5, l6] (.long x :: st) h := Rr_nx d_MRm_put_42 rfl
theorem r_MRm_put_43 {x : Int64} : Rr X d MRm_put 43 L (.long x :: st) h = Rr X d MRm_put 44 L (.int x.toInt32 :: st) h := Rr_nx d_MRm_put_43 rfl
theorem r_MRm_put_44 {x : Int32} : Rr X d MRm_put 44 L (.int x :: st) h = Rr X d MRm_put 45 L (.int (x.toInt8.toInt32) :: st) h := Rr_nx d_MRm_put_44 rfl
theorem r_MRm_put_45 {x : Int32} : Rr X d MRm_put 45 L (.int x :: st) h = Rr X d MRm_put 46 L (.long x.toInt64 :: st) h := Rr_nx d_MRm_put_45 rfl
theorem r_MRm_put_46 : Rr X d MRm_put 46 L st h = Rr X d MRm_put 95 L st h := R_goto d_MRm_put_46 (by decide)
theorem r_MRm_put_49 {l0 l1 l2 l3 l4 l5 : Value} {x : Int32} : Rr X d MRm_put 49 [l0, l1, l2, l3, l4, l5, .int x] st h = Rr X d MRm_put 51 [l0, l1, l2, l3, l4, l5, .int x] (.int x :: st) h := Rr_nx d_MRm_put_49 rfl
theorem r_MRm_put_51 : Rr X d MRm_put 51 L st h = Rr X d MRm_put 52 L (.int (1) :: st) h := Rr_nx d_MRm_put_51 rfl
theorem r_MRm_put_52 {x y : Int32} : Rr X d MRm_put 52 L (.int y :: .int x :: st) h = if ¬ x = y then Rr X d MRm_put 62 L st h else Rr X d MRm_put 55 L st h := R_ic_ne d_MRm_put_52 (by decide)
theorem r_MRm_put_55 {l0 l1 l2 l4 l5 l6 : Value} {x : Int64} : Rr X d MRm_put 55 [l0, l1, l2, .long x, l4, l5, l6] st h = Rr X d MRm_put 56 [l0, l1, l2, .long x, l4, l5, l6] (.long x :: st) h := Rr_nx d_MRm_put_55 rfl
theorem r_MRm_put_56 {x : Int64} : Rr X d MRm_put 56 L (.long x :: st) h = Rr X d MRm_put 57 L (.int x.toInt32 :: st) h := Rr_nx d_MRm_put_56 rfl
theorem r_MRm_put_57 {x : Int32} : Rr X d MRm_put 57 L (.int x :: st) h = Rr X d MRm_put 58 L (.int (x.toInt16.toInt32) :: st) h := Rr_nx d_MRm_put_57 rfl
theorem r_MRm_put_58 {x : Int32} : Rr X d MRm_put 58 L (.int x :: st) h = Rr X d MRm_put 59 L (.long x.toInt64 :: st) h := Rr_nx d_MRm_put_58 rfl
theorem r_MRm_put_59 : Rr X d MRm_put 59 L st h = Rr X d MRm_put 95 L st h := R_goto d_MRm_put_59 (by decide)
theorem r_MRm_put_62 {l0 l1 l2 l3 l4 l5 : Value} {x : Int32} : Rr X d MRm_put 62 [l0, l1, l2, l3, l4, l5, .int x] st h = Rr X d MRm_put 64 [l0, l1, l2, l3, l4, l5, .int x] (.int x :: st) h := Rr_nx d_MRm_put_62 rfl
theorem r_MRm_put_64 : Rr X d MRm_put 64 L st h = Rr X d MRm_put 65 L (.int (2) :: st) h := Rr_nx d_MRm_put_64 rfl
theorem r_MRm_put_65 {x y : Int32} : Rr X d MRm_put 65 L (.int y :: .int x :: st) h = if ¬ x = y then Rr X d MRm_put 74 L st h else Rr X d MRm_put 68 L st h := R_ic_ne d_MRm_put_65 (by decide)
theorem r_MRm_put_68 {l0 l1 l2 l4 l5 l6 : Value} {x : Int64} : Rr X d MRm_put 68 [l0, l1, l2, .long x, l4, l5, l6] st h = Rr X d MRm_put 69 [l0, l1, l2, .long x, l4, l5, l6] (.long x :: st) h := Rr_nx d_MRm_put_68 rfl
theorem r_MRm_put_69 {x : Int64} : Rr X d MRm_put 69 L (.long x :: st) h = Rr X d MRm_put 70 L (.int x.toInt32 :: st) h := Rr_nx d_MRm_put_69 rfl
theorem r_MRm_put_70 {x : Int32} : Rr X d MRm_put 70 L (.int x :: st) h = Rr X d MRm_put 71 L (.long x.toInt64 :: st) h := Rr_nx d_MRm_put_70 rfl
theorem r_MRm_put_71 : Rr X d MRm_put 71 L st h = Rr X d MRm_put 95 L st h := R_goto d_MRm_put_71 (by decide)
theorem r_MRm_put_74 {l0 l1 l2 l3 l4 l5 : Value} {x : Int32} : Rr X d MRm_put 74 [l0, l1, l2, l3, l4, l5, .int x] st h = Rr X d MRm_put 76 [l0, l1, l2, l3, l4, l5, .int x] (.int x :: st) h := Rr_nx d_MRm_put_74 rfl
theorem r_MRm_put_76 : Rr X d MRm_put 76 L st h = Rr X d MRm_put 77 L (.int (3) :: st) h := Rr_nx d_MRm_put_76 rfl
theorem r_MRm_put_77 {x y : Int32} : Rr X d MRm_put 77 L (.int y :: .int x :: st) h = if ¬ x = y then Rr X d MRm_put 84 L st h else Rr X d MRm_put 80 L st h := R_ic_ne d_MRm_put_77 (by decide)
theorem r_MRm_put_80 {l0 l1 l2 l4 l5 l6 : Value} {x : Int64} : Rr X d MRm_put 80 [l0, l1, l2, .long x, l4, l5, l6] st h = Rr X d MRm_put 81 [l0, l1, l2, .long x, l4, l5, l6] (.long x :: st) h := Rr_nx d_MRm_put_80 rfl
theorem r_MRm_put_81 : Rr X d MRm_put 81 L st h = Rr X d MRm_put 95 L st h := R_goto d_MRm_put_81 (by decide)
theorem r_MRm_put_84 {l0 l1 l2 l4 l5 l6 : Value} {x : Int64} : Rr X d MRm_put 84 [l0, l1, l2, .long x, l4, l5, l6] st h = Rr X d MRm_put 85 [l0, l1, l2, .long x, l4, l5, l6] (.long x :: st) h := Rr_nx d_MRm_put_84 rfl
theorem r_MRm_put_85 : Rr X d MRm_put 85 L st h = Rr X d MRm_put 86 L (.long 0 :: st) h := Rr_nx d_MRm_put_85 rfl
theorem r_MRm_put_86 {x y : Int64} : Rr X d MRm_put 86 L (.long y :: .long x :: st) h = Rr X d MRm_put 87 L (.int (lg_cmp x y) :: st) h := Rr_nx d_MRm_put_86 rfl
theorem r_MRm_put_87 {x : Int32} : Rr X d MRm_put 87 L (.int x :: st) h = if x = 0 then Rr X d MRm_put 94 L st h else Rr X d MRm_put 90 L st h := R_if_eq d_MRm_put_87 (by decide)
theorem r_MRm_put_90 : Rr X d MRm_put 90 L st h = Rr X d MRm_put 91 L (.long 1 :: st) h := Rr_nx d_MRm_put_90 rfl
theorem r_MRm_put_91 : Rr X d MRm_put 91 L st h = Rr X d MRm_put 95 L st h := R_goto d_MRm_put_91 (by decide)
theorem r_MRm_put_94 : Rr X d MRm_put 94 L st h = Rr X d MRm_put 95 L (.long 0 :: st) h := Rr_nx d_MRm_put_94 rfl
theorem r_MRm_put_95 {a : Nat} {j : Int32} {x : Int64} (hq : (qJ a).isSome = true) : Rr X d MRm_put 95 L (.long x :: .int j :: .ref a :: st) (Wd mu la ro et) = if j < 0 ∨ qJd a ≤ j.toNatClampNeg then none else Rr X d MRm_put 96 L st (Wd mu (upJ la a j.toNatClampNeg x) ro et) := R_lasW d_MRm_put_95 hq
theorem r_MRm_put_96 : Rr X d MRm_put 96 L st h = Rr X d MRm_put 97 L (.int (1) :: st) h := Rr_nx d_MRm_put_96 rfl
theorem r_MRm_put_97 {x : Int32} : Rr X d MRm_put 97 L [.int x] h = some (some (.int x), h) := R_ir d_MRm_put_97 rfl
theorem d_MRm_element_0 : decode MRm_element.2.2.1 0 = .ok (.aload_n 0, 1) := by decide +kernel
theorem d_MRm_element_1 : decode MRm_element.2.2.1 1 = .ok (.iload_n 1, 1) := by decide +kernel
theorem d_MRm_element_2 : decode MRm_element.2.2.1 2 = .ok (.iload_n 2, 1) := by decide +kernel
theorem d_MRm_element_3 : decode MRm_element.2.2.1 3 = .ok (.invokevirtual 401, 3) := by decide +kernel
theorem d_MRm_element_6 : decode MRm_element.2.2.1 6 = .ok (.ifCond .ge 9, 3) := by decide +kernel
theorem d_MRm_element_9 : decode MRm_element.2.2.1 9 = .ok (.ldc2_w 406, 3) := by decide +kernel
theorem d_MRm_element_12 : decode MRm_element.2.2.1 12 = .ok (.goto 14, 3) := by decide +kernel
theorem d_MRm_element_15 : decode MRm_element.2.2.1 15 = .ok (.aload_n 0, 1) := by decide +kernel
theorem d_MRm_element_16 : decode MRm_element.2.2.1 16 = .ok (.getfield 98, 3) := by decide +kernel
theorem d_MRm_element_19 : decode MRm_element.2.2.1 19 = .ok (.bipush 60, 2) := by decide +kernel
theorem d_MRm_element_21 : decode MRm_element.2.2.1 21 = .ok (.iload_n 1, 1) := by decide +kernel
theorem d_MRm_element_22 : decode MRm_element.2.2.1 22 = .ok (.imul, 1) := by decide +kernel
theorem d_MRm_element_23 : decode MRm_element.2.2.1 23 = .ok (.iload_n 2, 1) := by decide +kernel
theorem d_MRm_element_24 : decode MRm_element.2.2.1 24 = .ok (.iadd, 1) := by decide +kernel
theorem d_MRm_element_25 : decode MRm_element.2.2.1 25 = .ok (.laload, 1) := by decide +kernel
theorem d_MRm_element_26 : decode MRm_element.2.2.1 26 = .ok (.lreturn, 1) := by decide +kernel
theorem r_MRm_element_0 {l1 l2 : Value} {x : Nat} : Rr X d MRm_element 0 [.ref x, l1, l2] st h = Rr X d MRm_element 1 [.ref x, l1, l2] (.ref x :: st) h := Rr_nx d_MRm_element_0 rfl
theorem r_MRm_element_1 {l0 l2 : Value} {x : Int32} : Rr X d MRm_element 1 [l0, .int x, l2] st h = Rr X d MRm_element 2 [l0, .int x, l2] (.int x :: st) h := Rr_nx d_MRm_element_1 rfl
theorem r_MRm_element_2 {l0 l1 : Value} {x : Int32} : Rr X d MRm_element 2 [l0, l1, .int x] st h = Rr X d MRm_element 3 [l0, l1, .int x] (.int x :: st) h := Rr_nx d_MRm_element_2 rfl
theorem r_MRm_element_3 {y0 : Int32} {y1 : Int32} {a : Nat} (hO : qO a 10 = true) (hc : ckS st = true) : Rr X (d + 1) MRm_element 3 L (.int y1 :: .int y0 :: .ref a :: st) (Wd mu la ro et) = (Rr X d MRm_whyNoPlace 0 [.ref a, .int y0, .int y1] [] (Wd mu la ro et)).bind fun q => Rr X (d + 1) MRm_element 6 L (psh q.1 st) q.2 := R_iv (av := [.int y1, .int y0]) d_MRm_element_3 fc_10_401 hO (ckS_le hc) rfl (Nat.le_of_ble_eq_true rfl) (Nat.le_of_ble_eq_true rfl)
theorem r_MRm_element_6 {x : Int32} : Rr X d MRm_element 6 L (.int x :: st) h = if 0 ≤ x then Rr X d MRm_element 15 L st h else Rr X d MRm_element 9 L st h := R_if_ge d_MRm_element_6 (by decide)
theorem r_MRm_element_9 : Rr X d MRm_element 9 L st h = Rr X d MRm_element 12 L (.long (-9223372036854775808) :: st) h := Rr_nx d_MRm_element_9 rfl
theorem r_MRm_element_12 : Rr X d MRm_element 12 L st h = Rr X d MRm_element 26 L st h := R_goto d_MRm_element_12 (by decide)
theorem r_MRm_element_15 {l1 l2 : Value} {x : Nat} : Rr X d MRm_element 15 [.ref x, l1, l2] st h = Rr X d MRm_element 16 [.ref x, l1, l2] (.ref x :: st) h := Rr_nx d_MRm_element_15 rfl
theorem r_MRm_element_16 {a : Nat} (hq : (qR a 10 57).isSome = true) : Rr X d MRm_element 16 L (.ref a :: st) (Wd mu la ro et) = Rr X d MRm_element 19 L (.ref (qRd a 10 57) :: st) (Wd mu la ro et) := R_gfR d_MRm_element_16 ff_10_98 hq
theorem r_MRm_element_19 : Rr X d MRm_element 19 L st h = Rr X d MRm_element 21 L (.int (60) :: st) h := Rr_nx d_MRm_element_19 rfl
theorem r_MRm_element_21 {l0 l2 : Value} {x : Int32} : Rr X d MRm_element 21 [l0, .int x, l2] st h = Rr X d MRm_element 22 [l0, .int x, l2] (.int x :: st) h := Rr_nx d_MRm_element_21 rfl
theorem r_MRm_element_22 {x y : Int32} : Rr X d MRm_element 22 L (.int y :: .int x :: st) h = Rr X d MRm_element 23 L (.int (x * y) :: st) h := Rr_nx d_MRm_element_22 rfl
theorem r_MRm_element_23 {l0 l1 : Value} {x : Int32} : Rr X d MRm_element 23 [l0, l1, .int x] st h = Rr X d MRm_element 24 [l0, l1, .int x] (.int x :: st) h := Rr_nx d_MRm_element_23 rfl
theorem r_MRm_element_24 {x y : Int32} : Rr X d MRm_element 24 L (.int y :: .int x :: st) h = Rr X d MRm_element 25 L (.int (x + y) :: st) h := Rr_nx d_MRm_element_24 rfl
theorem r_MRm_element_25 {a : Nat} {j : Int32} (hq : (qJ a).isSome = true) : Rr X d MRm_element 25 L (.int j :: .ref a :: st) (Wd mu la ro et) = if j < 0 ∨ qJd a ≤ j.toNatClampNeg then none else Rr X d MRm_element 26 L (.long (la a j.toNatClampNeg) :: st) (Wd mu la ro et) := R_lalW d_MRm_element_25 hq
theorem r_MRm_element_26 {x : Int64} : Rr X d MRm_element 26 L [.long x] h = some (some (.long x), h) := Rr_rt d_MRm_element_26 rfl
theorem d_MRm_shift_0 : decode MRm_shift.2.2.1 0 = .ok (.iload_n 1, 1) := by decide +kernel
theorem d_MRm_shift_1 : decode MRm_shift.2.2.1 1 = .ok (.invokestatic 348, 3) := by decide +kernel
theorem d_MRm_shift_4 : decode MRm_shift.2.2.1 4 = .ok (.ifCond .eq 10, 3) := by decide +kernel
theorem d_MRm_shift_7 : decode MRm_shift.2.2.1 7 = .ok (.iload_n 3, 1) := by decide +kernel
theorem d_MRm_shift_8 : decode MRm_shift.2.2.1 8 = .ok (.invokestatic 348, 3) := by decide +kernel
theorem d_MRm_shift_11 : decode MRm_shift.2.2.1 11 = .ok (.ifCond .ne 5, 3) := by decide +kernel
theorem d_MRm_shift_14 : decode MRm_shift.2.2.1 14 = .ok (.iconst (-1), 1) := by decide +kernel
theorem d_MRm_shift_15 : decode MRm_shift.2.2.1 15 = .ok (.ireturn, 1) := by decide +kernel
theorem d_MRm_shift_16 : decode MRm_shift.2.2.1 16 = .ok (.aload_n 0, 1) := by decide +kernel
theorem d_MRm_shift_17 : decode MRm_shift.2.2.1 17 = .ok (.getfield 92, 3) := by decide +kernel
theorem d_MRm_shift_20 : decode MRm_shift.2.2.1 20 = .ok (.iload_n 1, 1) := by decide +kernel
theorem d_MRm_shift_21 : decode MRm_shift.2.2.1 21 = .ok (.iaload, 1) := by decide +kernel
theorem d_MRm_shift_22 : decode MRm_shift.2.2.1 22 = .ok (.iconst (-1), 1) := by decide +kernel
theorem d_MRm_shift_23 : decode MRm_shift.2.2.1 23 = .ok (.if_icmp .eq 13, 3) := by decide +kernel
theorem d_MRm_shift_26 : decode MRm_shift.2.2.1 26 = .ok (.aload_n 0, 1) := by decide +kernel
theorem d_MRm_shift_27 : decode MRm_shift.2.2.1 27 = .ok (.getfield 92, 3) := by decide +kernel
theorem d_MRm_shift_30 : decode MRm_shift.2.2.1 30 = .ok (.iload_n 3, 1) := by decide +kernel
theorem d_MRm_shift_31 : decode MRm_shift.2.2.1 31 = .ok (.iaload, 1) := by decide +kernel
theorem d_MRm_shift_32 : decode MRm_shift.2.2.1 32 = .ok (.iconst (-1), 1) := by decide +kernel
theorem d_MRm_shift_33 : decode MRm_shift.2.2.1 33 = .ok (.if_icmp .ne 6, 3) := by decide +kernel
theorem d_MRm_shift_36 : decode MRm_shift.2.2.1 36 = .ok (.bipush (-11), 2) := by decide +kernel
theorem d_MRm_shift_38 : decode MRm_shift.2.2.1 38 = .ok (.ireturn, 1) := by decide +kernel
theorem d_MRm_shift_39 : decode MRm_shift.2.2.1 39 = .ok (.aload_n 0, 1) := by decide +kernel
theorem d_MRm_shift_40 : decode MRm_shift.2.2.1 40 = .ok (.getfield 92, 3) := by decide +kernel
theorem d_MRm_shift_43 : decode MRm_shift.2.2.1 43 = .ok (.iload_n 1, 1) := by decide +kernel
theorem d_MRm_shift_44 : decode MRm_shift.2.2.1 44 = .ok (.iaload, 1) := by decide +kernel
theorem d_MRm_shift_45 : decode MRm_shift.2.2.1 45 = .ok (.ifCond .ge 18, 3) := by decide +kernel
theorem d_MRm_shift_48 : decode MRm_shift.2.2.1 48 = .ok (.aload_n 0, 1) := by decide +kernel
theorem d_MRm_shift_49 : decode MRm_shift.2.2.1 49 = .ok (.getfield 92, 3) := by decide +kernel
theorem d_MRm_shift_52 : decode MRm_shift.2.2.1 52 = .ok (.iload_n 1, 1) := by decide +kernel
theorem d_MRm_shift_53 : decode MRm_shift.2.2.1 53 = .ok (.iaload, 1) := by decide +kernel
theorem d_MRm_shift_54 : decode MRm_shift.2.2.1 54 = .ok (.aload_n 0, 1) := by decide +kernel
theorem d_MRm_shift_55 : decode MRm_shift.2.2.1 55 = .ok (.getfield 92, 3) := by decide +kernel
theorem d_MRm_shift_58 : decode MRm_shift.2.2.1 58 = .ok (.iload_n 3, 1) := by decide +kernel
theorem d_MRm_shift_59 : decode MRm_shift.2.2.1 59 = .ok (.iaload, 1) := by decide +kernel
theorem d_MRm_shift_60 : decode MRm_shift.2.2.1 60 = .ok (.if_icmp .eq 6, 3) := by decide +kernel
theorem d_MRm_shift_63 : decode MRm_shift.2.2.1 63 = .ok (.bipush (-12), 2) := by decide +kernel
theorem d_MRm_shift_65 : decode MRm_shift.2.2.1 65 = .ok (.ireturn, 1) := by decide +kernel
theorem d_MRm_shift_66 : decode MRm_shift.2.2.1 66 = .ok (.iload 5, 2) := by decide +kernel
theorem d_MRm_shift_68 : decode MRm_shift.2.2.1 68 = .ok (.ifCond .lt 39, 3) := by decide +kernel
theorem d_MRm_shift_71 : decode MRm_shift.2.2.1 71 = .ok (.iload_n 2, 1) := by decide +kernel
theorem d_MRm_shift_72 : decode MRm_shift.2.2.1 72 = .ok (.ifCond .lt 35, 3) := by decide +kernel
theorem d_MRm_shift_75 : decode MRm_shift.2.2.1 75 = .ok (.iload 4, 2) := by decide +kernel
theorem d_MRm_shift_77 : decode MRm_shift.2.2.1 77 = .ok (.ifCond .lt 30, 3) := by decide +kernel
theorem d_MRm_shift_80 : decode MRm_shift.2.2.1 80 = .ok (.iload_n 2, 1) := by decide +kernel
theorem d_MRm_shift_81 : decode MRm_shift.2.2.1 81 = .ok (.aload_n 0, 1) := by decide +kernel
theorem d_MRm_shift_82 : decode MRm_shift.2.2.1 82 = .ok (.getfield 95, 3) := by decide +kernel
theorem d_MRm_shift_85 : decode MRm_shift.2.2.1 85 = .ok (.iload_n 1, 1) := by decide +kernel
theorem d_MRm_shift_86 : decode MRm_shift.2.2.1 86 = .ok (.iaload, 1) := by decide +kernel
theorem d_MRm_shift_87 : decode MRm_shift.2.2.1 87 = .ok (.iload 5, 2) := by decide +kernel
theorem d_MRm_shift_89 : decode MRm_shift.2.2.1 89 = .ok (.isub, 1) := by decide +kernel
theorem d_MRm_shift_90 : decode MRm_shift.2.2.1 90 = .ok (.if_icmp .gt 17, 3) := by decide +kernel
theorem d_MRm_shift_93 : decode MRm_shift.2.2.1 93 = .ok (.iload 4, 2) := by decide +kernel
theorem d_MRm_shift_95 : decode MRm_shift.2.2.1 95 = .ok (.aload_n 0, 1) := by decide +kernel
theorem d_MRm_shift_96 : decode MRm_shift.2.2.1 96 = .ok (.getfield 95, 3) := by decide +kernel
theorem d_MRm_shift_99 : decode MRm_shift.2.2.1 99 = .ok (.iload_n 3, 1) := by decide +kernel
theorem d_MRm_shift_100 : decode MRm_shift.2.2.1 100 = .ok (.iaload, 1) := by decide +kernel
theorem d_MRm_shift_101 : decode MRm_shift.2.2.1 101 = .ok (.iload 5, 2) := by decide +kernel
theorem d_MRm_shift_103 : decode MRm_shift.2.2.1 103 = .ok (.isub, 1) := by decide +kernel
theorem d_MRm_shift_104 : decode MRm_shift.2.2.1 104 = .ok (.if_icmp .le 6, 3) := by decide +kernel
theorem d_MRm_shift_107 : decode MRm_shift.2.2.1 107 = .ok (.bipush (-13), 2) := by decide +kernel
theorem d_MRm_shift_109 : decode MRm_shift.2.2.1 109 = .ok (.ireturn, 1) := by decide +kernel
theorem d_MRm_shift_110 : decode MRm_shift.2.2.1 110 = .ok (.iconst 0, 1) := by decide +kernel
theorem d_MRm_shift_111 : decode MRm_shift.2.2.1 111 = .ok (.istore 6, 2) := by decide +kernel
theorem d_MRm_shift_113 : decode MRm_shift.2.2.1 113 = .ok (.iload 6, 2) := by decide +kernel
theorem d_MRm_shift_115 : decode MRm_shift.2.2.1 115 = .ok (.iload 5, 2) := by decide +kernel
theorem d_MRm_shift_117 : decode MRm_shift.2.2.1 117 = .ok (.if_icmp .ge 30, 3) := by decide +kernel
theorem d_MRm_shift_120 : decode MRm_shift.2.2.1 120 = .ok (.aload_n 0, 1) := by decide +kernel
theorem d_MRm_shift_121 : decode MRm_shift.2.2.1 121 = .ok (.getfield 101, 3) := by decide +kernel
theorem d_MRm_shift_124 : decode MRm_shift.2.2.1 124 = .ok (.iload 6, 2) := by decide +kernel
theorem d_MRm_shift_126 : decode MRm_shift.2.2.1 126 = .ok (.aload_n 0, 1) := by decide +kernel
theorem d_MRm_shift_127 : decode MRm_shift.2.2.1 127 = .ok (.getfield 98, 3) := by decide +kernel
theorem d_MRm_shift_130 : decode MRm_shift.2.2.1 130 = .ok (.bipush 60, 2) := by decide +kernel
theorem d_MRm_shift_132 : decode MRm_shift.2.2.1 132 = .ok (.iload_n 1, 1) := by decide +kernel
theorem d_MRm_shift_133 : decode MRm_shift.2.2.1 133 = .ok (.imul, 1) := by decide +kernel
theorem d_MRm_shift_134 : decode MRm_shift.2.2.1 134 = .ok (.iload_n 2, 1) := by decide +kernel
theorem d_MRm_shift_135 : decode MRm_shift.2.2.1 135 = .ok (.iadd, 1) := by decide +kernel
theorem d_MRm_shift_136 : decode MRm_shift.2.2.1 136 = .ok (.iload 6, 2) := by decide +kernel
theorem d_MRm_shift_138 : decode MRm_shift.2.2.1 138 = .ok (.iadd, 1) := by decide +kernel
theorem d_MRm_shift_139 : decode MRm_shift.2.2.1 139 = .ok (.laload, 1) := by decide +kernel
theorem d_MRm_shift_140 : decode MRm_shift.2.2.1 140 = .ok (.lastore, 1) := by decide +kernel
theorem d_MRm_shift_141 : decode MRm_shift.2.2.1 141 = .ok (.iinc 6 1, 3) := by decide +kernel
theorem d_MRm_shift_144 : decode MRm_shift.2.2.1 144 = .ok (.goto (-31), 3) := by decide +kernel
theorem d_MRm_shift_147 : decode MRm_shift.2.2.1 147 = .ok (.iconst 0, 1) := by decide +kernel
theorem d_MRm_shift_148 : decode MRm_shift.2.2.1 148 = .ok (.istore 6, 2) := by decide +kernel
theorem d_MRm_shift_150 : decode MRm_shift.2.2.1 150 = .ok (.iload 6, 2) := by decide +kernel
theorem d_MRm_shift_152 : decode MRm_shift.2.2.1 152 = .ok (.iload 5, 2) := by decide +kernel
theorem d_MRm_shift_154 : decode MRm_shift.2.2.1 154 = .ok (.if_icmp .ge 31, 3) := by decide +kernel
theorem d_MRm_shift_157 : decode MRm_shift.2.2.1 157 = .ok (.aload_n 0, 1) := by decide +kernel
theorem d_MRm_shift_158 : decode MRm_shift.2.2.1 158 = .ok (.getfield 98, 3) := by decide +kernel
theorem d_MRm_shift_161 : decode MRm_shift.2.2.1 161 = .ok (.bipush 60, 2) := by decide +kernel
theorem d_MRm_shift_163 : decode MRm_shift.2.2.1 163 = .ok (.iload_n 3, 1) := by decide +kernel
theorem d_MRm_shift_164 : decode MRm_shift.2.2.1 164 = .ok (.imul, 1) := by decide +kernel
theorem d_MRm_shift_165 : decode MRm_shift.2.2.1 165 = .ok (.iload 4, 2) := by decide +kernel
theorem d_MRm_shift_167 : decode MRm_shift.2.2.1 167 = .ok (.iadd, 1) := by decide +kernel
theorem d_MRm_shift_168 : decode MRm_shift.2.2.1 168 = .ok (.iload 6, 2) := by decide +kernel
theorem d_MRm_shift_170 : decode MRm_shift.2.2.1 170 = .ok (.iadd, 1) := by decide +kernel
theorem d_MRm_shift_171 : decode MRm_shift.2.2.1 171 = .ok (.aload_n 0, 1) := by decide +kernel
theorem d_MRm_shift_172 : decode MRm_shift.2.2.1 172 = .ok (.getfield 101, 3) := by decide +kernel
theorem d_MRm_shift_175 : decode MRm_shift.2.2.1 175 = .ok (.iload 6, 2) := by decide +kernel
theorem d_MRm_shift_177 : decode MRm_shift.2.2.1 177 = .ok (.laload, 1) := by decide +kernel
theorem d_MRm_shift_178 : decode MRm_shift.2.2.1 178 = .ok (.lastore, 1) := by decide +kernel
theorem d_MRm_shift_179 : decode MRm_shift.2.2.1 179 = .ok (.iinc 6 1, 3) := by decide +kernel
theorem d_MRm_shift_182 : decode MRm_shift.2.2.1 182 = .ok (.goto (-32), 3) := by decide +kernel
theorem d_MRm_shift_185 : decode MRm_shift.2.2.1 185 = .ok (.iload 5, 2) := by decide +kernel
theorem d_MRm_shift_187 : decode MRm_shift.2.2.1 187 = .ok (.ireturn, 1) := by decide +kernel
theorem r_MRm_shift_0 {l0 l2 l3 l4 l5 l6 : Value} {x : Int32} : Rr X d MRm_shift 0 [l0, .int x, l2, l3, l4, l5, l6] st h = Rr X d MRm_shift 1 [l0, .int x, l2, l3, l4, l5, l6] (.int x :: st) h := Rr_nx d_MRm_shift_0 rfl
theorem r_MRm_shift_1 {y0 : Int32} (hc : ckS st = true) : Rr X (d + 1) MRm_shift 1 L (.int y0 :: st) h = (Rr X d MRm_isShelf 0 [.int y0] [] h).bind fun q => Rr X (d + 1) MRm_shift 4 L (psh q.1 st) q.2 := R_is (av := [.int y0]) d_MRm_shift_1 (Or.inl fc_10_348) (ckS_le hc) rfl (Nat.le_of_ble_eq_true rfl) (Nat.le_of_ble_eq_true rfl)
theorem r_MRm_shift_4 {x : Int32} : Rr X d MRm_shift 4 L (.int x :: st) h = if x = 0 then Rr X d MRm_shift 14 L st h else Rr X d MRm_shift 7 L st h := R_if_eq d_MRm_shift_4 (by decide)
theorem r_MRm_shift_7 {l0 l1 l2 l4 l5 l6 : Value} {x : Int32} : Rr X d MRm_shift 7 [l0, l1, l2, .int x, l4, l5, l6] st h = Rr X d MRm_shift 8 [l0, l1, l2, .int x, l4, l5, l6] (.int x :: st) h := Rr_nx d_MRm_shift_7 rfl
theorem r_MRm_shift_8 {y0 : Int32} (hc : ckS st = true) : Rr X (d + 1) MRm_shift 8 L (.int y0 :: st) h = (Rr X d MRm_isShelf 0 [.int y0] [] h).bind fun q => Rr X (d + 1) MRm_shift 11 L (psh q.1 st) q.2 := R_is (av := [.int y0]) d_MRm_shift_8 (Or.inl fc_10_348) (ckS_le hc) rfl (Nat.le_of_ble_eq_true rfl) (Nat.le_of_ble_eq_true rfl)
theorem r_MRm_shift_11 {x : Int32} : Rr X d MRm_shift 11 L (.int x :: st) h = if ¬ x = 0 then Rr X d MRm_shift 16 L st h else Rr X d MRm_shift 14 L st h := R_if_ne d_MRm_shift_11 (by decide)
theorem r_MRm_shift_14 : Rr X d MRm_shift 14 L st h = Rr X d MRm_shift 15 L (.int (-1) :: st) h := Rr_nx d_MRm_shift_14 rfl
theorem r_MRm_shift_15 {x : Int32} : Rr X d MRm_shift 15 L [.int x] h = some (some (.int x), h) := R_ir d_MRm_shift_15 rfl
theorem r_MRm_shift_16 {l1 l2 l3 l4 l5 l6 : Value} {x : Nat} : Rr X d MRm_shift 16 [.ref x, l1, l2, l3, l4, l5, l6] st h = Rr X d MRm_shift 17 [.ref x, l1, l2, l3, l4, l5, l6] (.ref x :: st) h := Rr_nx d_MRm_shift_16 rfl
theorem r_MRm_shift_17 {a : Nat} (hq : (qR a 10 55).isSome = true) : Rr X d MRm_shift 17 L (.ref a :: st) (Wd mu la ro et) = Rr X d MRm_shift 20 L (.ref (qRd a 10 55) :: st) (Wd mu la ro et) := R_gfR d_MRm_shift_17 ff_10_92 hq
theorem r_MRm_shift_20 {l0 l2 l3 l4 l5 l6 : Value} {x : Int32} : Rr X d MRm_shift 20 [l0, .int x, l2, l3, l4, l5, l6] st h = Rr X d MRm_shift 21 [l0, .int x, l2, l3, l4, l5, l6] (.int x :: st) h := Rr_nx d_MRm_shift_20 rfl
theorem r_MRm_shift_21 {a : Nat} {j : Int32} (hq : (qA a 0).isSome = true) : Rr X d MRm_shift 21 L (.int j :: .ref a :: st) (Wd mu la ro et) = if j < 0 ∨ qAd a 0 ≤ j.toNatClampNeg then none else Rr X d MRm_shift 22 L (.int (mu a j.toNatClampNeg) :: st) (Wd mu la ro et) := R_ialW d_MRm_shift_21 hq
theorem r_MRm_shift_22 : Rr X d MRm_shift 22 L st h = Rr X d MRm_shift 23 L (.int (-1) :: st) h := Rr_nx d_MRm_shift_22 rfl
theorem r_MRm_shift_23 {x y : Int32} : Rr X d MRm_shift 23 L (.int y :: .int x :: st) h = if x = y then Rr X d MRm_shift 36 L st h else Rr X d MRm_shift 26 L st h := R_ic_eq d_MRm_shift_23 (by decide)
theorem r_MRm_shift_26 {l1 l2 l3 l4 l5 l6 : Value} {x : Nat} : Rr X d MRm_shift 26 [.ref x, l1, l2, l3, l4, l5, l6] st h = Rr X d MRm_shift 27 [.ref x, l1, l2, l3, l4, l5, l6] (.ref x :: st) h := Rr_nx d_MRm_shift_26 rfl
theorem r_MRm_shift_27 {a : Nat} (hq : (qR a 10 55).isSome = true) : Rr X d MRm_shift 27 L (.ref a :: st) (Wd mu la ro et) = Rr X d MRm_shift 30 L (.ref (qRd a 10 55) :: st) (Wd mu la ro et) := R_gfR d_MRm_shift_27 ff_10_92 hq
theorem r_MRm_shift_30 {l0 l1 l2 l4 l5 l6 : Value} {x : Int32} : Rr X d MRm_shift 30 [l0, l1, l2, .int x, l4, l5, l6] st h = Rr X d MRm_shift 31 [l0, l1, l2, .int x, l4, l5, l6] (.int x :: st) h := Rr_nx d_MRm_shift_30 rfl
theorem r_MRm_shift_31 {a : Nat} {j : Int32} (hq : (qA a 0).isSome = true) : Rr X d MRm_shift 31 L (.int j :: .ref a :: st) (Wd mu la ro et) = if j < 0 ∨ qAd a 0 ≤ j.toNatClampNeg then none else Rr X d MRm_shift 32 L (.int (mu a j.toNatClampNeg) :: st) (Wd mu la ro et) := R_ialW d_MRm_shift_31 hq
theorem r_MRm_shift_32 : Rr X d MRm_shift 32 L st h = Rr X d MRm_shift 33 L (.int (-1) :: st) h := Rr_nx d_MRm_shift_32 rfl
theorem r_MRm_shift_33 {x y : Int32} : Rr X d MRm_shift 33 L (.int y :: .int x :: st) h = if ¬ x = y then Rr X d MRm_shift 39 L st h else Rr X d MRm_shift 36 L st h := R_ic_ne d_MRm_shift_33 (by decide)
theorem r_MRm_shift_36 : Rr X d MRm_shift 36 L st h = Rr X d MRm_shift 38 L (.int (-11) :: st) h := Rr_nx d_MRm_shift_36 rfl
theorem r_MRm_shift_38 {x : Int32} : Rr X d MRm_shift 38 L [.int x] h = some (some (.int x), h) := R_ir d_MRm_shift_38 rfl
theorem r_MRm_shift_39 {l1 l2 l3 l4 l5 l6 : Value} {x : Nat} : Rr X d MRm_shift 39 [.ref x, l1, l2, l3, l4, l5, l6] st h = Rr X d MRm_shift 40 [.ref x, l1, l2, l3, l4, l5, l6] (.ref x :: st) h := Rr_nx d_MRm_shift_39 rfl
theorem r_MRm_shift_40 {a : Nat} (hq : (qR a 10 55).isSome = true) : Rr X d MRm_shift 40 L (.ref a :: st) (Wd mu la ro et) = Rr X d MRm_shift 43 L (.ref (qRd a 10 55) :: st) (Wd mu la ro et) := R_gfR d_MRm_shift_40 ff_10_92 hq
theorem r_MRm_shift_43 {l0 l2 l3 l4 l5 l6 : Value} {x : Int32} : Rr X d MRm_shift 43 [l0, .int x, l2, l3, l4, l5, l6] st h = Rr X d MRm_shift 44 [l0, .int x, l2, l3, l4, l5, l6] (.int x :: st) h := Rr_nx d_MRm_shift_43 rfl
theorem r_MRm_shift_44 {a : Nat} {j : Int32} (hq : (qA a 0).isSome = true) : Rr X d MRm_shift 44 L (.int j :: .ref a :: st) (Wd mu la ro et) = if j < 0 ∨ qAd a 0 ≤ j.toNatClampNeg then none else Rr X d MRm_shift 45 L (.int (mu a j.toNatClampNeg) :: st) (Wd mu la ro et) := R_ialW d_MRm_shift_44 hq
theorem r_MRm_shift_45 {x : Int32} : Rr X d MRm_shift 45 L (.int x :: st) h = if 0 ≤ x then Rr X d MRm_shift 63 L st h else Rr X d MRm_shift 48 L st h := R_if_ge d_MRm_shift_45 (by decide)
theorem r_MRm_shift_48 {l1 l2 l3 l4 l5 l6 : Value} {x : Nat} : Rr X d MRm_shift 48 [.ref x, l1, l2, l3, l4, l5, l6] st h = Rr X d MRm_shift 49 [.ref x, l1, l2, l3, l4, l5, l6] (.ref x :: st) h := Rr_nx d_MRm_shift_48 rfl
theorem r_MRm_shift_49 {a : Nat} (hq : (qR a 10 55).isSome = true) : Rr X d MRm_shift 49 L (.ref a :: st) (Wd mu la ro et) = Rr X d MRm_shift 52 L (.ref (qRd a 10 55) :: st) (Wd mu la ro et) := R_gfR d_MRm_shift_49 ff_10_92 hq
theorem r_MRm_shift_52 {l0 l2 l3 l4 l5 l6 : Value} {x : Int32} : Rr X d MRm_shift 52 [l0, .int x, l2, l3, l4, l5, l6] st h = Rr X d MRm_shift 53 [l0, .int x, l2, l3, l4, l5, l6] (.int x :: st) h := Rr_nx d_MRm_shift_52 rfl
theorem r_MRm_shift_53 {a : Nat} {j : Int32} (hq : (qA a 0).isSome = true) : Rr X d MRm_shift 53 L (.int j :: .ref a :: st) (Wd mu la ro et) = if j < 0 ∨ qAd a 0 ≤ j.toNatClampNeg then none else Rr X d MRm_shift 54 L (.int (mu a j.toNatClampNeg) :: st) (Wd mu la ro et) := R_ialW d_MRm_shift_53 hq
theorem r_MRm_shift_54 {l1 l2 l3 l4 l5 l6 : Value} {x : Nat} : Rr X d MRm_shift 54 [.ref x, l1, l2, l3, l4, l5, l6] st h = Rr X d MRm_shift 55 [.ref x, l1, l2, l3, l4, l5, l6] (.ref x :: st) h := Rr_nx d_MRm_shift_54 rfl
theorem r_MRm_shift_55 {a : Nat} (hq : (qR a 10 55).isSome = true) : Rr X d MRm_shift 55 L (.ref a :: st) (Wd mu la ro et) = Rr X d MRm_shift 58 L (.ref (qRd a 10 55) :: st) (Wd mu la ro et) := R_gfR d_MRm_shift_55 ff_10_92 hq
theorem r_MRm_shift_58 {l0 l1 l2 l4 l5 l6 : Value} {x : Int32} : Rr X d MRm_shift 58 [l0, l1, l2, .int x, l4, l5, l6] st h = Rr X d MRm_shift 59 [l0, l1, l2, .int x, l4, l5, l6] (.int x :: st) h := Rr_nx d_MRm_shift_58 rfl
theorem r_MRm_shift_59 {a : Nat} {j : Int32} (hq : (qA a 0).isSome = true) : Rr X d MRm_shift 59 L (.int j :: .ref a :: st) (Wd mu la ro et) = if j < 0 ∨ qAd a 0 ≤ j.toNatClampNeg then none else Rr X d MRm_shift 60 L (.int (mu a j.toNatClampNeg) :: st) (Wd mu la ro et) := R_ialW d_MRm_shift_59 hq
theorem r_MRm_shift_60 {x y : Int32} : Rr X d MRm_shift 60 L (.int y :: .int x :: st) h = if x = y then Rr X d MRm_shift 66 L st h else Rr X d MRm_shift 63 L st h := R_ic_eq d_MRm_shift_60 (by decide)
theorem r_MRm_shift_63 : Rr X d MRm_shift 63 L st h = Rr X d MRm_shift 65 L (.int (-12) :: st) h := Rr_nx d_MRm_shift_63 rfl
theorem r_MRm_shift_65 {x : Int32} : Rr X d MRm_shift 65 L [.int x] h = some (some (.int x), h) := R_ir d_MRm_shift_65 rfl
theorem r_MRm_shift_66 {l0 l1 l2 l3 l4 l6 : Value} {x : Int32} : Rr X d MRm_shift 66 [l0, l1, l2, l3, l4, .int x, l6] st h = Rr X d MRm_shift 68 [l0, l1, l2, l3, l4, .int x, l6] (.int x :: st) h := Rr_nx d_MRm_shift_66 rfl
theorem r_MRm_shift_68 {x : Int32} : Rr X d MRm_shift 68 L (.int x :: st) h = if x < 0 then Rr X d MRm_shift 107 L st h else Rr X d MRm_shift 71 L st h := R_if_lt d_MRm_shift_68 (by decide)
theorem r_MRm_shift_71 {l0 l1 l3 l4 l5 l6 : Value} {x : Int32} : Rr X d MRm_shift 71 [l0, l1, .int x, l3, l4, l5, l6] st h = Rr X d MRm_shift 72 [l0, l1, .int x, l3, l4, l5, l6] (.int x :: st) h := Rr_nx d_MRm_shift_71 rfl
theorem r_MRm_shift_72 {x : Int32} : Rr X d MRm_shift 72 L (.int x :: st) h = if x < 0 then Rr X d MRm_shift 107 L st h else Rr X d MRm_shift 75 L st h := R_if_lt d_MRm_shift_72 (by decide)
theorem r_MRm_shift_75 {l0 l1 l2 l3 l5 l6 : Value} {x : Int32} : Rr X d MRm_shift 75 [l0, l1, l2, l3, .int x, l5, l6] st h = Rr X d MRm_shift 77 [l0, l1, l2, l3, .int x, l5, l6] (.int x :: st) h := Rr_nx d_MRm_shift_75 rfl
theorem r_MRm_shift_77 {x : Int32} : Rr X d MRm_shift 77 L (.int x :: st) h = if x < 0 then Rr X d MRm_shift 107 L st h else Rr X d MRm_shift 80 L st h := R_if_lt d_MRm_shift_77 (by decide)
theorem r_MRm_shift_80 {l0 l1 l3 l4 l5 l6 : Value} {x : Int32} : Rr X d MRm_shift 80 [l0, l1, .int x, l3, l4, l5, l6] st h = Rr X d MRm_shift 81 [l0, l1, .int x, l3, l4, l5, l6] (.int x :: st) h := Rr_nx d_MRm_shift_80 rfl
theorem r_MRm_shift_81 {l1 l2 l3 l4 l5 l6 : Value} {x : Nat} : Rr X d MRm_shift 81 [.ref x, l1, l2, l3, l4, l5, l6] st h = Rr X d MRm_shift 82 [.ref x, l1, l2, l3, l4, l5, l6] (.ref x :: st) h := Rr_nx d_MRm_shift_81 rfl
theorem r_MRm_shift_82 {a : Nat} (hq : (qR a 10 56).isSome = true) : Rr X d MRm_shift 82 L (.ref a :: st) (Wd mu la ro et) = Rr X d MRm_shift 85 L (.ref (qRd a 10 56) :: st) (Wd mu la ro et) := R_gfR d_MRm_shift_82 ff_10_95 hq
theorem r_MRm_shift_85 {l0 l2 l3 l4 l5 l6 : Value} {x : Int32} : Rr X d MRm_shift 85 [l0, .int x, l2, l3, l4, l5, l6] st h = Rr X d MRm_shift 86 [l0, .int x, l2, l3, l4, l5, l6] (.int x :: st) h := Rr_nx d_MRm_shift_85 rfl
theorem r_MRm_shift_86 {a : Nat} {j : Int32} (hq : (qA a 0).isSome = true) : Rr X d MRm_shift 86 L (.int j :: .ref a :: st) (Wd mu la ro et) = if j < 0 ∨ qAd a 0 ≤ j.toNatClampNeg then none else Rr X d MRm_shift 87 L (.int (mu a j.toNatClampNeg) :: st) (Wd mu la ro et) := R_ialW d_MRm_shift_86 hq
theorem r_MRm_shift_87 {l0 l1 l2 l3 l4 l6 : Value} {x : Int32} : Rr X d MRm_shift 87 [l0, l1, l2, l3, l4, .int x, l6] st h = Rr X d MRm_shift 89 [l0, l1, l2, l3, l4, .int x, l6] (.int x :: st) h := Rr_nx d_MRm_shift_87 rfl
theorem r_MRm_shift_89 {x y : Int32} : Rr X d MRm_shift 89 L (.int y :: .int x :: st) h = Rr X d MRm_shift 90 L (.int (x - y) :: st) h := Rr_nx d_MRm_shift_89 rfl
theorem r_MRm_shift_90 {x y : Int32} : Rr X d MRm_shift 90 L (.int y :: .int x :: st) h = if y < x then Rr X d MRm_shift 107 L st h else Rr X d MRm_shift 93 L st h := R_ic_gt d_MRm_shift_90 (by decide)
theorem r_MRm_shift_93 {l0 l1 l2 l3 l5 l6 : Value} {x : Int32} : Rr X d MRm_shift 93 [l0, l1, l2, l3, .int x, l5, l6] st h = Rr X d MRm_shift 95 [l0, l1, l2, l3, .int x, l5, l6] (.int x :: st) h := Rr_nx d_MRm_shift_93 rfl
theorem r_MRm_shift_95 {l1 l2 l3 l4 l5 l6 : Value} {x : Nat} : Rr X d MRm_shift 95 [.ref x, l1, l2, l3, l4, l5, l6] st h = Rr X d MRm_shift 96 [.ref x, l1, l2, l3, l4, l5, l6] (.ref x :: st) h := Rr_nx d_MRm_shift_95 rfl
theorem r_MRm_shift_96 {a : Nat} (hq : (qR a 10 56).isSome = true) : Rr X d MRm_shift 96 L (.ref a :: st) (Wd mu la ro et) = Rr X d MRm_shift 99 L (.ref (qRd a 10 56) :: st) (Wd mu la ro et) := R_gfR d_MRm_shift_96 ff_10_95 hq
theorem r_MRm_shift_99 {l0 l1 l2 l4 l5 l6 : Value} {x : Int32} : Rr X d MRm_shift 99 [l0, l1, l2, .int x, l4, l5, l6] st h = Rr X d MRm_shift 100 [l0, l1, l2, .int x, l4, l5, l6] (.int x :: st) h := Rr_nx d_MRm_shift_99 rfl
theorem r_MRm_shift_100 {a : Nat} {j : Int32} (hq : (qA a 0).isSome = true) : Rr X d MRm_shift 100 L (.int j :: .ref a :: st) (Wd mu la ro et) = if j < 0 ∨ qAd a 0 ≤ j.toNatClampNeg then none else Rr X d MRm_shift 101 L (.int (mu a j.toNatClampNeg) :: st) (Wd mu la ro et) := R_ialW d_MRm_shift_100 hq
theorem r_MRm_shift_101 {l0 l1 l2 l3 l4 l6 : Value} {x : Int32} : Rr X d MRm_shift 101 [l0, l1, l2, l3, l4, .int x, l6] st h = Rr X d MRm_shift 103 [l0, l1, l2, l3, l4, .int x, l6] (.int x :: st) h := Rr_nx d_MRm_shift_101 rfl
theorem r_MRm_shift_103 {x y : Int32} : Rr X d MRm_shift 103 L (.int y :: .int x :: st) h = Rr X d MRm_shift 104 L (.int (x - y) :: st) h := Rr_nx d_MRm_shift_103 rfl
theorem r_MRm_shift_104 {x y : Int32} : Rr X d MRm_shift 104 L (.int y :: .int x :: st) h = if x ≤ y then Rr X d MRm_shift 110 L st h else Rr X d MRm_shift 107 L st h := R_ic_le d_MRm_shift_104 (by decide)
theorem r_MRm_shift_107 : Rr X d MRm_shift 107 L st h = Rr X d MRm_shift 109 L (.int (-13) :: st) h := Rr_nx d_MRm_shift_107 rfl
theorem r_MRm_shift_109 {x : Int32} : Rr X d MRm_shift 109 L [.int x] h = some (some (.int x), h) := R_ir d_MRm_shift_109 rfl
theorem r_MRm_shift_110 : Rr X d MRm_shift 110 L st h = Rr X d MRm_shift 111 L (.int (0) :: st) h := Rr_nx d_MRm_shift_110 rfl
theorem r_MRm_shift_111 {l0 l1 l2 l3 l4 l5 l6 : Value} {x : Int32} : Rr X d MRm_shift 111 [l0, l1, l2, l3, l4, l5, l6] (.int x :: st) h = Rr X d MRm_shift 113 (sL [l0, l1, l2, l3, l4, l5, l6] 6 (.int x)) st h := Rr_nx d_MRm_shift_111 rfl
theorem r_MRm_shift_113 {l0 l1 l2 l3 l4 l5 : Value} {x : Int32} : Rr X d MRm_shift 113 [l0, l1, l2, l3, l4, l5, .int x] st h = Rr X d MRm_shift 115 [l0, l1, l2, l3, l4, l5, .int x] (.int x :: st) h := Rr_nx d_MRm_shift_113 rfl
theorem r_MRm_shift_115 {l0 l1 l2 l3 l4 l6 : Value} {x : Int32} : Rr X d MRm_shift 115 [l0, l1, l2, l3, l4, .int x, l6] st h = Rr X d MRm_shift 117 [l0, l1, l2, l3, l4, .int x, l6] (.int x :: st) h := Rr_nx d_MRm_shift_115 rfl
theorem r_MRm_shift_117 {x y : Int32} : Rr X d MRm_shift 117 L (.int y :: .int x :: st) h = if y ≤ x then Rr X d MRm_shift 147 L st h else Rr X d MRm_shift 120 L st h := R_ic_ge d_MRm_shift_117 (by decide)
theorem r_MRm_shift_120 {l1 l2 l3 l4 l5 l6 : Value} {x : Nat} : Rr X d MRm_shift 120 [.ref x, l1, l2, l3, l4, l5, l6] st h = Rr X d MRm_shift 121 [.ref x, l1, l2, l3, l4, l5, l6] (.ref x :: st) h := Rr_nx d_MRm_shift_120 rfl
theorem ff_10_101 : fF 10 101 = some (10, 58, 1, 1) := rfl
theorem r_MRm_shift_121 {a : Nat} (hq : (qR a 10 58).isSome = true) : Rr X d MRm_shift 121 L (.ref a :: st) (Wd mu la ro et) = Rr X d MRm_shift 124 L (.ref (qRd a 10 58) :: st) (Wd mu la ro et) := R_gfR d_MRm_shift_121 ff_10_101 hq
theorem r_MRm_shift_124 {l0 l1 l2 l3 l4 l5 : Value} {x : Int32} : Rr X d MRm_shift 124 [l0, l1, l2, l3, l4, l5, .int x] st h = Rr X d MRm_shift 126 [l0, l1, l2, l3, l4, l5, .int x] (.int x :: st) h := Rr_nx d_MRm_shift_124 rfl
theorem r_MRm_shift_126 {l1 l2 l3 l4 l5 l6 : Value} {x : Nat} : Rr X d MRm_shift 126 [.ref x, l1, l2, l3, l4, l5, l6] st h = Rr X d MRm_shift 127 [.ref x, l1, l2, l3, l4, l5, l6] (.ref x :: st) h := Rr_nx d_MRm_shift_126 rfl
theorem r_MRm_shift_127 {a : Nat} (hq : (qR a 10 57).isSome = true) : Rr X d MRm_shift 127 L (.ref a :: st) (Wd mu la ro et) = Rr X d MRm_shift 130 L (.ref (qRd a 10 57) :: st) (Wd mu la ro et) := R_gfR d_MRm_shift_127 ff_10_98 hq
theorem r_MRm_shift_130 : Rr X d MRm_shift 130 L st h = Rr X d MRm_shift 132 L (.int (60) :: st) h := Rr_nx d_MRm_shift_130 rfl
theorem r_MRm_shift_132 {l0 l2 l3 l4 l5 l6 : Value} {x : Int32} : Rr X d MRm_shift 132 [l0, .int x, l2, l3, l4, l5, l6] st h = Rr X d MRm_shift 133 [l0, .int x, l2, l3, l4, l5, l6] (.int x :: st) h := Rr_nx d_MRm_shift_132 rfl
theorem r_MRm_shift_133 {x y : Int32} : Rr X d MRm_shift 133 L (.int y :: .int x :: st) h = Rr X d MRm_shift 134 L (.int (x * y) :: st) h := Rr_nx d_MRm_shift_133 rfl
theorem r_MRm_shift_134 {l0 l1 l3 l4 l5 l6 : Value} {x : Int32} : Rr X d MRm_shift 134 [l0, l1, .int x, l3, l4, l5, l6] st h = Rr X d MRm_shift 135 [l0, l1, .int x, l3, l4, l5, l6] (.int x :: st) h := Rr_nx d_MRm_shift_134 rfl
theorem r_MRm_shift_135 {x y : Int32} : Rr X d MRm_shift 135 L (.int y :: .int x :: st) h = Rr X d MRm_shift 136 L (.int (x + y) :: st) h := Rr_nx d_MRm_shift_135 rfl
theorem r_MRm_shift_136 {l0 l1 l2 l3 l4 l5 : Value} {x : Int32} : Rr X d MRm_shift 136 [l0, l1, l2, l3, l4, l5, .int x] st h = Rr X d MRm_shift 138 [l0, l1, l2, l3, l4, l5, .int x] (.int x :: st) h := Rr_nx d_MRm_shift_136 rfl
theorem r_MRm_shift_138 {x y : Int32} : Rr X d MRm_shift 138 L (.int y :: .int x :: st) h = Rr X d MRm_shift 139 L (.int (x + y) :: st) h := Rr_nx d_MRm_shift_138 rfl
theorem r_MRm_shift_139 {a : Nat} {j : Int32} (hq : (qJ a).isSome = true) : Rr X d MRm_shift 139 L (.int j :: .ref a :: st) (Wd mu la ro et) = if j < 0 ∨ qJd a ≤ j.toNatClampNeg then none else Rr X d MRm_shift 140 L (.long (la a j.toNatClampNeg) :: st) (Wd mu la ro et) := R_lalW d_MRm_shift_139 hq
theorem r_MRm_shift_140 {a : Nat} {j : Int32} {x : Int64} (hq : (qJ a).isSome = true) : Rr X d MRm_shift 140 L (.long x :: .int j :: .ref a :: st) (Wd mu la ro et) = if j < 0 ∨ qJd a ≤ j.toNatClampNeg then none else Rr X d MRm_shift 141 L st (Wd mu (upJ la a j.toNatClampNeg x) ro et) := R_lasW d_MRm_shift_140 hq
theorem r_MRm_shift_141 {l0 l1 l2 l3 l4 l5 : Value} {x : Int32} : Rr X d MRm_shift 141 [l0, l1, l2, l3, l4, l5, .int x] st h = Rr X d MRm_shift 144 (sL [l0, l1, l2, l3, l4, l5, .int x] 6 (.int (x + (1)))) st h := Rr_nx d_MRm_shift_141 rfl
theorem r_MRm_shift_144 : Rr X d MRm_shift 144 L st h = Rr X d MRm_shift 113 L st h := R_goto d_MRm_shift_144 (by decide)
theorem r_MRm_shift_147 : Rr X d MRm_shift 147 L st h = Rr X d MRm_shift 148 L (.int (0) :: st) h := Rr_nx d_MRm_shift_147 rfl
theorem r_MRm_shift_148 {l0 l1 l2 l3 l4 l5 l6 : Value} {x : Int32} : Rr X d MRm_shift 148 [l0, l1, l2, l3, l4, l5, l6] (.int x :: st) h = Rr X d MRm_shift 150 (sL [l0, l1, l2, l3, l4, l5, l6] 6 (.int x)) st h := Rr_nx d_MRm_shift_148 rfl
theorem r_MRm_shift_150 {l0 l1 l2 l3 l4 l5 : Value} {x : Int32} : Rr X d MRm_shift 150 [l0, l1, l2, l3, l4, l5, .int x] st h = Rr X d MRm_shift 152 [l0, l1, l2, l3, l4, l5, .int x] (.int x :: st) h := Rr_nx d_MRm_shift_150 rfl
theorem r_MRm_shift_152 {l0 l1 l2 l3 l4 l6 : Value} {x : Int32} : Rr X d MRm_shift 152 [l0, l1, l2, l3, l4, .int x, l6] st h = Rr X d MRm_shift 154 [l0, l1, l2, l3, l4, .int x, l6] (.int x :: st) h := Rr_nx d_MRm_shift_152 rfl
theorem r_MRm_shift_154 {x y : Int32} : Rr X d MRm_shift 154 L (.int y :: .int x :: st) h = if y ≤ x then Rr X d MRm_shift 185 L st h else Rr X d MRm_shift 157 L st h := R_ic_ge d_MRm_shift_154 (by decide)
theorem r_MRm_shift_157 {l1 l2 l3 l4 l5 l6 : Value} {x : Nat} : Rr X d MRm_shift 157 [.ref x, l1, l2, l3, l4, l5, l6] st h = Rr X d MRm_shift 158 [.ref x, l1, l2, l3, l4, l5, l6] (.ref x :: st) h := Rr_nx d_MRm_shift_157 rfl
theorem r_MRm_shift_158 {a : Nat} (hq : (qR a 10 57).isSome = true) : Rr X d MRm_shift 158 L (.ref a :: st) (Wd mu la ro et) = Rr X d MRm_shift 161 L (.ref (qRd a 10 57) :: st) (Wd mu la ro et) := R_gfR d_MRm_shift_158 ff_10_98 hq
theorem r_MRm_shift_161 : Rr X d MRm_shift 161 L st h = Rr X d MRm_shift 163 L (.int (60) :: st) h := Rr_nx d_MRm_shift_161 rfl
theorem r_MRm_shift_163 {l0 l1 l2 l4 l5 l6 : Value} {x : Int32} : Rr X d MRm_shift 163 [l0, l1, l2, .int x, l4, l5, l6] st h = Rr X d MRm_shift 164 [l0, l1, l2, .int x, l4, l5, l6] (.int x :: st) h := Rr_nx d_MRm_shift_163 rfl
theorem r_MRm_shift_164 {x y : Int32} : Rr X d MRm_shift 164 L (.int y :: .int x :: st) h = Rr X d MRm_shift 165 L (.int (x * y) :: st) h := Rr_nx d_MRm_shift_164 rfl
theorem r_MRm_shift_165 {l0 l1 l2 l3 l5 l6 : Value} {x : Int32} : Rr X d MRm_shift 165 [l0, l1, l2, l3, .int x, l5, l6] st h = Rr X d MRm_shift 167 [l0, l1, l2, l3, .int x, l5, l6] (.int x :: st) h := Rr_nx d_MRm_shift_165 rfl
theorem r_MRm_shift_167 {x y : Int32} : Rr X d MRm_shift 167 L (.int y :: .int x :: st) h = Rr X d MRm_shift 168 L (.int (x + y) :: st) h := Rr_nx d_MRm_shift_167 rfl
theorem r_MRm_shift_168 {l0 l1 l2 l3 l4 l5 : Value} {x : Int32} : Rr X d MRm_shift 168 [l0, l1, l2, l3, l4, l5, .int x] st h = Rr X d MRm_shift 170 [l0, l1, l2, l3, l4, l5, .int x] (.int x :: st) h := Rr_nx d_MRm_shift_168 rfl
theorem r_MRm_shift_170 {x y : Int32} : Rr X d MRm_shift 170 L (.int y :: .int x :: st) h = Rr X d MRm_shift 171 L (.int (x + y) :: st) h := Rr_nx d_MRm_shift_170 rfl
theorem r_MRm_shift_171 {l1 l2 l3 l4 l5 l6 : Value} {x : Nat} : Rr X d MRm_shift 171 [.ref x, l1, l2, l3, l4, l5, l6] st h = Rr X d MRm_shift 172 [.ref x, l1, l2, l3, l4, l5, l6] (.ref x :: st) h := Rr_nx d_MRm_shift_171 rfl
theorem r_MRm_shift_172 {a : Nat} (hq : (qR a 10 58).isSome = true) : Rr X d MRm_shift 172 L (.ref a :: st) (Wd mu la ro et) = Rr X d MRm_shift 175 L (.ref (qRd a 10 58) :: st) (Wd mu la ro et) := R_gfR d_MRm_shift_172 ff_10_101 hq
theorem r_MRm_shift_175 {l0 l1 l2 l3 l4 l5 : Value} {x : Int32} : Rr X d MRm_shift 175 [l0, l1, l2, l3, l4, l5, .int x] st h = Rr X d MRm_shift 177 [l0, l1, l2, l3, l4, l5, .int x] (.int x :: st) h := Rr_nx d_MRm_shift_175 rfl
theorem r_MRm_shift_177 {a : Nat} {j : Int32} (hq : (qJ a).isSome = true) : Rr X d MRm_shift 177 L (.int j :: .ref a :: st) (Wd mu la ro et) = if j < 0 ∨ qJd a ≤ j.toNatClampNeg then none else Rr X d MRm_shift 178 L (.long (la a j.toNatClampNeg) :: st) (Wd mu la ro et) := R_lalW d_MRm_shift_177 hq
theorem r_MRm_shift_178 {a : Nat} {j : Int32} {x : Int64} (hq : (qJ a).isSome = true) : Rr X d MRm_shift 178 L (.long x :: .int j :: .ref a :: st) (Wd mu la ro et) = if j < 0 ∨ qJd a ≤ j.toNatClampNeg then none else Rr X d MRm_shift 179 L st (Wd mu (upJ la a j.toNatClampNeg x) ro et) := R_lasW d_MRm_shift_178 hq
theorem r_MRm_shift_179 {l0 l1 l2 l3 l4 l5 : Value} {x : Int32} : Rr X d MRm_shift 179 [l0, l1, l2, l3, l4, l5, .int x] st h = Rr X d MRm_shift 182 (sL [l0, l1, l2, l3, l4, l5, .int x] 6 (.int (x + (1)))) st h := Rr_nx d_MRm_shift_179 rfl
theorem r_MRm_shift_182 : Rr X d MRm_shift 182 L st h = Rr X d MRm_shift 150 L st h := R_goto d_MRm_shift_182 (by decide)
theorem r_MRm_shift_185 {l0 l1 l2 l3 l4 l6 : Value} {x : Int32} : Rr X d MRm_shift 185 [l0, l1, l2, l3, l4, .int x, l6] st h = Rr X d MRm_shift 187 [l0, l1, l2, l3, l4, .int x, l6] (.int x :: st) h := Rr_nx d_MRm_shift_185 rfl
theorem r_MRm_shift_187 {x : Int32} : Rr X d MRm_shift 187 L [.int x] h = some (some (.int x), h) := R_ir d_MRm_shift_187 rfl
theorem d_MRm_taken_0 : decode MRm_taken.2.2.1 0 = .ok (.iload_n 1, 1) := by decide +kernel
theorem d_MRm_taken_1 : decode MRm_taken.2.2.1 1 = .ok (.invokestatic 348, 3) := by decide +kernel
theorem d_MRm_taken_4 : decode MRm_taken.2.2.1 4 = .ok (.ifCond .eq 13, 3) := by decide +kernel
theorem d_MRm_taken_7 : decode MRm_taken.2.2.1 7 = .ok (.iload_n 2, 1) := by decide +kernel
theorem d_MRm_taken_8 : decode MRm_taken.2.2.1 8 = .ok (.iconst 0, 1) := by decide +kernel
theorem d_MRm_taken_9 : decode MRm_taken.2.2.1 9 = .ok (.bipush 7, 2) := by decide +kernel
theorem d_MRm_taken_11 : decode MRm_taken.2.2.1 11 = .ok (.invokestatic 107, 3) := by decide +kernel
theorem d_MRm_taken_14 : decode MRm_taken.2.2.1 14 = .ok (.ifCond .ne 5, 3) := by decide +kernel
theorem d_MRm_taken_17 : decode MRm_taken.2.2.1 17 = .ok (.iconst (-1), 1) := by decide +kernel
theorem d_MRm_taken_18 : decode MRm_taken.2.2.1 18 = .ok (.ireturn, 1) := by decide +kernel
theorem d_MRm_taken_19 : decode MRm_taken.2.2.1 19 = .ok (.aload_n 0, 1) := by decide +kernel
theorem d_MRm_taken_20 : decode MRm_taken.2.2.1 20 = .ok (.getfield 92, 3) := by decide +kernel
theorem d_MRm_taken_23 : decode MRm_taken.2.2.1 23 = .ok (.iload_n 1, 1) := by decide +kernel
theorem d_MRm_taken_24 : decode MRm_taken.2.2.1 24 = .ok (.iaload, 1) := by decide +kernel
theorem d_MRm_taken_25 : decode MRm_taken.2.2.1 25 = .ok (.iconst (-1), 1) := by decide +kernel
theorem d_MRm_taken_26 : decode MRm_taken.2.2.1 26 = .ok (.if_icmp .ne 6, 3) := by decide +kernel
theorem d_MRm_taken_29 : decode MRm_taken.2.2.1 29 = .ok (.bipush (-11), 2) := by decide +kernel
theorem d_MRm_taken_31 : decode MRm_taken.2.2.1 31 = .ok (.ireturn, 1) := by decide +kernel
theorem d_MRm_taken_32 : decode MRm_taken.2.2.1 32 = .ok (.aload_n 0, 1) := by decide +kernel
theorem d_MRm_taken_33 : decode MRm_taken.2.2.1 33 = .ok (.getfield 92, 3) := by decide +kernel
theorem d_MRm_taken_36 : decode MRm_taken.2.2.1 36 = .ok (.iload_n 1, 1) := by decide +kernel
theorem d_MRm_taken_37 : decode MRm_taken.2.2.1 37 = .ok (.iaload, 1) := by decide +kernel
theorem d_MRm_taken_38 : decode MRm_taken.2.2.1 38 = .ok (.ifCond .lt 35, 3) := by decide +kernel
theorem d_MRm_taken_41 : decode MRm_taken.2.2.1 41 = .ok (.aload_n 0, 1) := by decide +kernel
theorem d_MRm_taken_42 : decode MRm_taken.2.2.1 42 = .ok (.getfield 86, 3) := by decide +kernel
theorem d_MRm_taken_45 : decode MRm_taken.2.2.1 45 = .ok (.aload_n 0, 1) := by decide +kernel
theorem d_MRm_taken_46 : decode MRm_taken.2.2.1 46 = .ok (.getfield 92, 3) := by decide +kernel
theorem d_MRm_taken_49 : decode MRm_taken.2.2.1 49 = .ok (.iload_n 1, 1) := by decide +kernel
theorem d_MRm_taken_50 : decode MRm_taken.2.2.1 50 = .ok (.iaload, 1) := by decide +kernel
theorem d_MRm_taken_51 : decode MRm_taken.2.2.1 51 = .ok (.iaload, 1) := by decide +kernel
theorem d_MRm_taken_52 : decode MRm_taken.2.2.1 52 = .ok (.iload_n 2, 1) := by decide +kernel
theorem d_MRm_taken_53 : decode MRm_taken.2.2.1 53 = .ok (.invokestatic 386, 3) := by decide +kernel
theorem d_MRm_taken_56 : decode MRm_taken.2.2.1 56 = .ok (.ifCond .eq 17, 3) := by decide +kernel
theorem d_MRm_taken_59 : decode MRm_taken.2.2.1 59 = .ok (.aload_n 0, 1) := by decide +kernel
theorem d_MRm_taken_60 : decode MRm_taken.2.2.1 60 = .ok (.getfield 86, 3) := by decide +kernel
theorem d_MRm_taken_63 : decode MRm_taken.2.2.1 63 = .ok (.aload_n 0, 1) := by decide +kernel
theorem d_MRm_taken_64 : decode MRm_taken.2.2.1 64 = .ok (.getfield 92, 3) := by decide +kernel
theorem d_MRm_taken_67 : decode MRm_taken.2.2.1 67 = .ok (.iload_n 1, 1) := by decide +kernel
theorem d_MRm_taken_68 : decode MRm_taken.2.2.1 68 = .ok (.iaload, 1) := by decide +kernel
theorem d_MRm_taken_69 : decode MRm_taken.2.2.1 69 = .ok (.iaload, 1) := by decide +kernel
theorem d_MRm_taken_70 : decode MRm_taken.2.2.1 70 = .ok (.goto 5, 3) := by decide +kernel
theorem d_MRm_taken_73 : decode MRm_taken.2.2.1 73 = .ok (.bipush (-12), 2) := by decide +kernel
theorem d_MRm_taken_75 : decode MRm_taken.2.2.1 75 = .ok (.ireturn, 1) := by decide +kernel
theorem r_MRm_taken_0 {l0 l2 : Value} {x : Int32} : Rr X d MRm_taken 0 [l0, .int x, l2] st h = Rr X d MRm_taken 1 [l0, .int x, l2] (.int x :: st) h := Rr_nx d_MRm_taken_0 rfl
theorem r_MRm_taken_1 {y0 : Int32} (hc : ckS st = true) : Rr X (d + 1) MRm_taken 1 L (.int y0 :: st) h = (Rr X d MRm_isShelf 0 [.int y0] [] h).bind fun q => Rr X (d + 1) MRm_taken 4 L (psh q.1 st) q.2 := R_is (av := [.int y0]) d_MRm_taken_1 (Or.inl fc_10_348) (ckS_le hc) rfl (Nat.le_of_ble_eq_true rfl) (Nat.le_of_ble_eq_true rfl)
theorem r_MRm_taken_4 {x : Int32} : Rr X d MRm_taken 4 L (.int x :: st) h = if x = 0 then Rr X d MRm_taken 17 L st h else Rr X d MRm_taken 7 L st h := R_if_eq d_MRm_taken_4 (by decide)
theorem r_MRm_taken_7 {l0 l1 : Value} {x : Int32} : Rr X d MRm_taken 7 [l0, l1, .int x] st h = Rr X d MRm_taken 8 [l0, l1, .int x] (.int x :: st) h := Rr_nx d_MRm_taken_7 rfl
theorem r_MRm_taken_8 : Rr X d MRm_taken 8 L st h = Rr X d MRm_taken 9 L (.int (0) :: st) h := Rr_nx d_MRm_taken_8 rfl
theorem r_MRm_taken_9 : Rr X d MRm_taken 9 L st h = Rr X d MRm_taken 11 L (.int (7) :: st) h := Rr_nx d_MRm_taken_9 rfl
theorem r_MRm_taken_11 {y0 : Int32} {y1 : Int32} {y2 : Int32} (hc : ckS st = true) : Rr X (d + 1) MRm_taken 11 L (.int y2 :: .int y1 :: .int y0 :: st) h = (Rr X d MRm_in 0 [.int y0, .int y1, .int y2] [] h).bind fun q => Rr X (d + 1) MRm_taken 14 L (psh q.1 st) q.2 := R_is (av := [.int y2, .int y1, .int y0]) d_MRm_taken_11 (Or.inl fc_10_107) (ckS_le hc) rfl (Nat.le_of_ble_eq_true rfl) (Nat.le_of_ble_eq_true rfl)
theorem r_MRm_taken_14 {x : Int32} : Rr X d MRm_taken 14 L (.int x :: st) h = if ¬ x = 0 then Rr X d MRm_taken 19 L st h else Rr X d MRm_taken 17 L st h := R_if_ne d_MRm_taken_14 (by decide)
theorem r_MRm_taken_17 : Rr X d MRm_taken 17 L st h = Rr X d MRm_taken 18 L (.int (-1) :: st) h := Rr_nx d_MRm_taken_17 rfl
theorem r_MRm_taken_18 {x : Int32} : Rr X d MRm_taken 18 L [.int x] h = some (some (.int x), h) := R_ir d_MRm_taken_18 rfl
theorem r_MRm_taken_19 {l1 l2 : Value} {x : Nat} : Rr X d MRm_taken 19 [.ref x, l1, l2] st h = Rr X d MRm_taken 20 [.ref x, l1, l2] (.ref x :: st) h := Rr_nx d_MRm_taken_19 rfl
theorem r_MRm_taken_20 {a : Nat} (hq : (qR a 10 55).isSome = true) : Rr X d MRm_taken 20 L (.ref a :: st) (Wd mu la ro et) = Rr X d MRm_taken 23 L (.ref (qRd a 10 55) :: st) (Wd mu la ro et) := R_gfR d_MRm_taken_20 ff_10_92 hq
theorem r_MRm_taken_23 {l0 l2 : Value} {x : Int32} : Rr X d MRm_taken 23 [l0, .int x, l2] st h = Rr X d MRm_taken 24 [l0, .int x, l2] (.int x :: st) h := Rr_nx d_MRm_taken_23 rfl
theorem r_MRm_taken_24 {a : Nat} {j : Int32} (hq : (qA a 0).isSome = true) : Rr X d MRm_taken 24 L (.int j :: .ref a :: st) (Wd mu la ro et) = if j < 0 ∨ qAd a 0 ≤ j.toNatClampNeg then none else Rr X d MRm_taken 25 L (.int (mu a j.toNatClampNeg) :: st) (Wd mu la ro et) := R_ialW d_MRm_taken_24 hq
theorem r_MRm_taken_25 : Rr X d MRm_taken 25 L st h = Rr X d MRm_taken 26 L (.int (-1) :: st) h := Rr_nx d_MRm_taken_25 rfl
theorem r_MRm_taken_26 {x y : Int32} : Rr X d MRm_taken 26 L (.int y :: .int x :: st) h = if ¬ x = y then Rr X d MRm_taken 32 L st h else Rr X d MRm_taken 29 L st h := R_ic_ne d_MRm_taken_26 (by decide)
theorem r_MRm_taken_29 : Rr X d MRm_taken 29 L st h = Rr X d MRm_taken 31 L (.int (-11) :: st) h := Rr_nx d_MRm_taken_29 rfl
theorem r_MRm_taken_31 {x : Int32} : Rr X d MRm_taken 31 L [.int x] h = some (some (.int x), h) := R_ir d_MRm_taken_31 rfl
theorem r_MRm_taken_32 {l1 l2 : Value} {x : Nat} : Rr X d MRm_taken 32 [.ref x, l1, l2] st h = Rr X d MRm_taken 33 [.ref x, l1, l2] (.ref x :: st) h := Rr_nx d_MRm_taken_32 rfl
theorem r_MRm_taken_33 {a : Nat} (hq : (qR a 10 55).isSome = true) : Rr X d MRm_taken 33 L (.ref a :: st) (Wd mu la ro et) = Rr X d MRm_taken 36 L (.ref (qRd a 10 55) :: st) (Wd mu la ro et) := R_gfR d_MRm_taken_33 ff_10_92 hq
theorem r_MRm_taken_36 {l0 l2 : Value} {x : Int32} : Rr X d MRm_taken 36 [l0, .int x, l2] st h = Rr X d MRm_taken 37 [l0, .int x, l2] (.int x :: st) h := Rr_nx d_MRm_taken_36 rfl
theorem r_MRm_taken_37 {a : Nat} {j : Int32} (hq : (qA a 0).isSome = true) : Rr X d MRm_taken 37 L (.int j :: .ref a :: st) (Wd mu la ro et) = if j < 0 ∨ qAd a 0 ≤ j.toNatClampNeg then none else Rr X d MRm_taken 38 L (.int (mu a j.toNatClampNeg) :: st) (Wd mu la ro et) := R_ialW d_MRm_taken_37 hq
theorem r_MRm_taken_38 {x : Int32} : Rr X d MRm_taken 38 L (.int x :: st) h = if x < 0 then Rr X d MRm_taken 73 L st h else Rr X d MRm_taken 41 L st h := R_if_lt d_MRm_taken_38 (by decide)
theorem r_MRm_taken_41 {l1 l2 : Value} {x : Nat} : Rr X d MRm_taken 41 [.ref x, l1, l2] st h = Rr X d MRm_taken 42 [.ref x, l1, l2] (.ref x :: st) h := Rr_nx d_MRm_taken_41 rfl
theorem r_MRm_taken_42 {a : Nat} (hq : (qR a 10 52).isSome = true) : Rr X d MRm_taken 42 L (.ref a :: st) (Wd mu la ro et) = Rr X d MRm_taken 45 L (.ref (qRd a 10 52) :: st) (Wd mu la ro et) := R_gfR d_MRm_taken_42 ff_10_86 hq
theorem r_MRm_taken_45 {l1 l2 : Value} {x : Nat} : Rr X d MRm_taken 45 [.ref x, l1, l2] st h = Rr X d MRm_taken 46 [.ref x, l1, l2] (.ref x :: st) h := Rr_nx d_MRm_taken_45 rfl
theorem r_MRm_taken_46 {a : Nat} (hq : (qR a 10 55).isSome = true) : Rr X d MRm_taken 46 L (.ref a :: st) (Wd mu la ro et) = Rr X d MRm_taken 49 L (.ref (qRd a 10 55) :: st) (Wd mu la ro et) := R_gfR d_MRm_taken_46 ff_10_92 hq
theorem r_MRm_taken_49 {l0 l2 : Value} {x : Int32} : Rr X d MRm_taken 49 [l0, .int x, l2] st h = Rr X d MRm_taken 50 [l0, .int x, l2] (.int x :: st) h := Rr_nx d_MRm_taken_49 rfl
theorem r_MRm_taken_50 {a : Nat} {j : Int32} (hq : (qA a 0).isSome = true) : Rr X d MRm_taken 50 L (.int j :: .ref a :: st) (Wd mu la ro et) = if j < 0 ∨ qAd a 0 ≤ j.toNatClampNeg then none else Rr X d MRm_taken 51 L (.int (mu a j.toNatClampNeg) :: st) (Wd mu la ro et) := R_ialW d_MRm_taken_50 hq
theorem r_MRm_taken_51 {a : Nat} {j : Int32} (hq : (qA a 0).isSome = true) : Rr X d MRm_taken 51 L (.int j :: .ref a :: st) (Wd mu la ro et) = if j < 0 ∨ qAd a 0 ≤ j.toNatClampNeg then none else Rr X d MRm_taken 52 L (.int (mu a j.toNatClampNeg) :: st) (Wd mu la ro et) := R_ialW d_MRm_taken_51 hq
theorem r_MRm_taken_52 {l0 l1 : Value} {x : Int32} : Rr X d MRm_taken 52 [l0, l1, .int x] st h = Rr X d MRm_taken 53 [l0, l1, .int x] (.int x :: st) h := Rr_nx d_MRm_taken_52 rfl
theorem fc_10_386 : fC 10 386 = some (1, 0, 2, MRm_isUnder) := rfl
theorem r_MRm_taken_53 {y0 : Int32} {y1 : Int32} (hc : ckS st = true) : Rr X (d + 1) MRm_taken 53 L (.int y1 :: .int y0 :: st) h = (Rr X d MRm_isUnder 0 [.int y0, .int y1] [] h).bind fun q => Rr X (d + 1) MRm_taken 56 L (psh q.1 st) q.2 := R_is (av := [.int y1, .int y0]) d_MRm_taken_53 (Or.inl fc_10_386) (ckS_le hc) rfl (Nat.le_of_ble_eq_true rfl) (Nat.le_of_ble_eq_true rfl)
theorem r_MRm_taken_56 {x : Int32} : Rr X d MRm_taken 56 L (.int x :: st) h = if x = 0 then Rr X d MRm_taken 73 L st h else Rr X d MRm_taken 59 L st h := R_if_eq d_MRm_taken_56 (by decide)
theorem r_MRm_taken_59 {l1 l2 : Value} {x : Nat} : Rr X d MRm_taken 59 [.ref x, l1, l2] st h = Rr X d MRm_taken 60 [.ref x, l1, l2] (.ref x :: st) h := Rr_nx d_MRm_taken_59 rfl
theorem r_MRm_taken_60 {a : Nat} (hq : (qR a 10 52).isSome = true) : Rr X d MRm_taken 60 L (.ref a :: st) (Wd mu la ro et) = Rr X d MRm_taken 63 L (.ref (qRd a 10 52) :: st) (Wd mu la ro et) := R_gfR d_MRm_taken_60 ff_10_86 hq
theorem r_MRm_taken_63 {l1 l2 : Value} {x : Nat} : Rr X d MRm_taken 63 [.ref x, l1, l2] st h = Rr X d MRm_taken 64 [.ref x, l1, l2] (.ref x :: st) h := Rr_nx d_MRm_taken_63 rfl
theorem r_MRm_taken_64 {a : Nat} (hq : (qR a 10 55).isSome = true) : Rr X d MRm_taken 64 L (.ref a :: st) (Wd mu la ro et) = Rr X d MRm_taken 67 L (.ref (qRd a 10 55) :: st) (Wd mu la ro et) := R_gfR d_MRm_taken_64 ff_10_92 hq
theorem r_MRm_taken_67 {l0 l2 : Value} {x : Int32} : Rr X d MRm_taken 67 [l0, .int x, l2] st h = Rr X d MRm_taken 68 [l0, .int x, l2] (.int x :: st) h := Rr_nx d_MRm_taken_67 rfl
theorem r_MRm_taken_68 {a : Nat} {j : Int32} (hq : (qA a 0).isSome = true) : Rr X d MRm_taken 68 L (.int j :: .ref a :: st) (Wd mu la ro et) = if j < 0 ∨ qAd a 0 ≤ j.toNatClampNeg then none else Rr X d MRm_taken 69 L (.int (mu a j.toNatClampNeg) :: st) (Wd mu la ro et) := R_ialW d_MRm_taken_68 hq
theorem r_MRm_taken_69 {a : Nat} {j : Int32} (hq : (qA a 0).isSome = true) : Rr X d MRm_taken 69 L (.int j :: .ref a :: st) (Wd mu la ro et) = if j < 0 ∨ qAd a 0 ≤ j.toNatClampNeg then none else Rr X d MRm_taken 70 L (.int (mu a j.toNatClampNeg) :: st) (Wd mu la ro et) := R_ialW d_MRm_taken_69 hq
theorem r_MRm_taken_70 : Rr X d MRm_taken 70 L st h = Rr X d MRm_taken 75 L st h := R_goto d_MRm_taken_70 (by decide)
theorem r_MRm_taken_73 : Rr X d MRm_taken 73 L st h = Rr X d MRm_taken 75 L (.int (-12) :: st) h := Rr_nx d_MRm_taken_73 rfl
theorem r_MRm_taken_75 {x : Int32} : Rr X d MRm_taken 75 L [.int x] h = some (some (.int x), h) := R_ir d_MRm_taken_75 rfl
end RULES
