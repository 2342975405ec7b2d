section RULES
variable {X : Tok} {d : Nat} {st L : List Value} {h : Hp} {mu : Nat → Nat → Int32} {la : Nat → Nat → Int64} {ro : Nat → Nat → Option Nat} {et : Nat → Option va_E}
theorem d_MTa_append_0 : decode MTa_append.2.2.1 0 = .ok (.aload_n 0, 1) := lkT_ok tk_MTa_append rfl
theorem d_MTa_append_1 : decode MTa_append.2.2.1 1 = .ok (.getfield 13, 3) := lkT_ok tk_MTa_append rfl
theorem d_MTa_append_4 : decode MTa_append.2.2.1 4 = .ok (.ifCond .lt 36, 3) := lkT_ok tk_MTa_append rfl
theorem d_MTa_append_7 : decode MTa_append.2.2.1 7 = .ok (.aload_n 0, 1) := lkT_ok tk_MTa_append rfl
theorem d_MTa_append_8 : decode MTa_append.2.2.1 8 = .ok (.getfield 13, 3) := lkT_ok tk_MTa_append rfl
theorem d_MTa_append_11 : decode MTa_append.2.2.1 11 = .ok (.aload_n 0, 1) := lkT_ok tk_MTa_append rfl
theorem d_MTa_append_12 : decode MTa_append.2.2.1 12 = .ok (.getfield 9, 3) := lkT_ok tk_MTa_append rfl
theorem d_MTa_append_15 : decode MTa_append.2.2.1 15 = .ok (.arraylength, 1) := lkT_ok tk_MTa_append rfl
theorem d_MTa_append_16 : decode MTa_append.2.2.1 16 = .ok (.if_icmp .ge 24, 3) := lkT_ok tk_MTa_append rfl
theorem d_MTa_append_19 : decode MTa_append.2.2.1 19 = .ok (.aload_n 0, 1) := lkT_ok tk_MTa_append rfl
theorem d_MTa_append_20 : decode MTa_append.2.2.1 20 = .ok (.getfield 9, 3) := lkT_ok tk_MTa_append rfl
theorem d_MTa_append_23 : decode MTa_append.2.2.1 23 = .ok (.aload_n 0, 1) := lkT_ok tk_MTa_append rfl
theorem d_MTa_append_24 : decode MTa_append.2.2.1 24 = .ok (.getfield 13, 3) := lkT_ok tk_MTa_append rfl
theorem d_MTa_append_27 : decode MTa_append.2.2.1 27 = .ok (.iload_n 1, 1) := lkT_ok tk_MTa_append rfl
theorem d_MTa_append_28 : decode MTa_append.2.2.1 28 = .ok (.i2b, 1) := lkT_ok tk_MTa_append rfl
theorem d_MTa_append_29 : decode MTa_append.2.2.1 29 = .ok (.bastore, 1) := lkT_ok tk_MTa_append rfl
theorem d_MTa_append_30 : decode MTa_append.2.2.1 30 = .ok (.aload_n 0, 1) := lkT_ok tk_MTa_append rfl
theorem d_MTa_append_31 : decode MTa_append.2.2.1 31 = .ok (.dup, 1) := lkT_ok tk_MTa_append rfl
theorem d_MTa_append_32 : decode MTa_append.2.2.1 32 = .ok (.getfield 13, 3) := lkT_ok tk_MTa_append rfl
theorem d_MTa_append_35 : decode MTa_append.2.2.1 35 = .ok (.iconst 1, 1) := lkT_ok tk_MTa_append rfl
theorem d_MTa_append_36 : decode MTa_append.2.2.1 36 = .ok (.iadd, 1) := lkT_ok tk_MTa_append rfl
theorem d_MTa_append_37 : decode MTa_append.2.2.1 37 = .ok (.putfield 13, 3) := lkT_ok tk_MTa_append rfl
theorem d_MTa_append_40 : decode MTa_append.2.2.1 40 = .ok (.return_, 1) := lkT_ok tk_MTa_append rfl
theorem r_MTa_append_0 {l1 : Value} {x : Nat} : Rr X d MTa_append 0 [.ref x, l1] st h = Rr X d MTa_append 1 [.ref x, l1] (.ref x :: st) h := Rr_nx d_MTa_append_0 rfl
theorem ff_8_13 : fF 8 13 = some (8, 1, 0, 0) := rfl
theorem r_MTa_append_1 {a : Nat} (hq : qI a 8 1 = true) : Rr X d MTa_append 1 L (.ref a :: st) (Wd mu la ro et) = Rr X d MTa_append 4 L (.int (mu a 1) :: st) (Wd mu la ro et) := R_gfI d_MTa_append_1 ff_8_13 hq
theorem r_MTa_append_4 {x : Int32} : Rr X d MTa_append 4 L (.int x :: st) h = if x < 0 then Rr X d MTa_append 40 L st h else Rr X d MTa_append 7 L st h := R_if_lt d_MTa_append_4 (by decide)
theorem r_MTa_append_7 {l1 : Value} {x : Nat} : Rr X d MTa_append 7 [.ref x, l1] st h = Rr X d MTa_append 8 [.ref x, l1] (.ref x :: st) h := Rr_nx d_MTa_append_7 rfl
theorem r_MTa_append_8 {a : Nat} (hq : qI a 8 1 = true) : Rr X d MTa_append 8 L (.ref a :: st) (Wd mu la ro et) = Rr X d MTa_append 11 L (.int (mu a 1) :: st) (Wd mu la ro et) := R_gfI d_MTa_append_8 ff_8_13 hq
theorem r_MTa_append_11 {l1 : Value} {x : Nat} : Rr X d MTa_append 11 [.ref x, l1] st h = Rr X d MTa_append 12 [.ref x, l1] (.ref x :: st) h := Rr_nx d_MTa_append_11 rfl
theorem ff_8_9 : fF 8 9 = some (8, 0, 1, 1) := rfl
theorem r_MTa_append_12 {a : Nat} (hq : (qR a 8 0).isSome = true) : Rr X d MTa_append 12 L (.ref a :: st) (Wd mu la ro et) = Rr X d MTa_append 15 L (.ref (qRd a 8 0) :: st) (Wd mu la ro et) := R_gfR d_MTa_append_12 ff_8_9 hq
theorem r_MTa_append_15 {a : Nat} (hq : (qL a).isSome = true) : Rr X d MTa_append 15 L (.ref a :: st) (Wd mu la ro et) = Rr X d MTa_append 16 L (.int (Int32.ofNat (qLd a)) :: st) (Wd mu la ro et) := R_lenW d_MTa_append_15 hq
theorem r_MTa_append_16 {x y : Int32} : Rr X d MTa_append 16 L (.int y :: .int x :: st) h = if y ≤ x then Rr X d MTa_append 40 L st h else Rr X d MTa_append 19 L st h := R_ic_ge d_MTa_append_16 (by decide)
theorem r_MTa_append_19 {l1 : Value} {x : Nat} : Rr X d MTa_append 19 [.ref x, l1] st h = Rr X d MTa_append 20 [.ref x, l1] (.ref x :: st) h := Rr_nx d_MTa_append_19 rfl
theorem r_MTa_append_20 {a : Nat} (hq : (qR a 8 0).isSome = true) : Rr X d MTa_append 20 L (.ref a :: st) (Wd mu la ro et) = Rr X d MTa_append 23 L (.ref (qRd a 8 0) :: st) (Wd mu la ro et) := R_gfR d_MTa_append_20 ff_8_9 hq
theorem r_MTa_append_23 {l1 : Value} {x : Nat} : Rr X d MTa_append 23 [.ref x, l1] st h = Rr X d MTa_append 24 [.ref x, l1] (.ref x :: st) h := Rr_nx d_MTa_append_23 rfl
theorem r_MTa_append_24 {a : Nat} (hq : qI a 8 1 = true) : Rr X d MTa_append 24 L (.ref a :: st) (Wd mu la ro et) = Rr X d MTa_append 27 L (.int (mu a 1) :: st) (Wd mu la ro et) := R_gfI d_MTa_append_24 ff_8_13 hq
theorem r_MTa_append_27 {l0 : Value} {x : Int32} : Rr X d MTa_append 27 [l0, .int x] st h = Rr X d MTa_append 28 [l0, .int x] (.int x :: st) h := Rr_nx d_MTa_append_27 rfl
theorem r_MTa_append_28 {x : Int32} : Rr X d MTa_append 28 L (.int x :: st) h = Rr X d MTa_append 29 L (.int (x.toInt8.toInt32) :: st) h := Rr_nx d_MTa_append_28 rfl
theorem r_MTa_append_29 {a : Nat} {j x : Int32} (hq : (qA a 2).isSome = true) : Rr X d MTa_append 29 L (.int x :: .int j :: .ref a :: st) (Wd mu la ro et) = if j < 0 ∨ qAd a 2 ≤ j.toNatClampNeg then none else Rr X d MTa_append 30 L st (Wd (up2 mu a j.toNatClampNeg (x.toInt8.toInt32)) la ro et) := R_basW d_MTa_append_29 hq
theorem r_MTa_append_30 {l1 : Value} {x : Nat} : Rr X d MTa_append 30 [.ref x, l1] st h = Rr X d MTa_append 31 [.ref x, l1] (.ref x :: st) h := Rr_nx d_MTa_append_30 rfl
theorem r_MTa_append_31 {x : Nat} : Rr X d MTa_append 31 L (.ref x :: st) h = Rr X d MTa_append 32 L (.ref x :: .ref x :: st) h := Rr_nx d_MTa_append_31 rfl
theorem r_MTa_append_31i {x : Int32} : Rr X d MTa_append 31 L (.int x :: st) h = Rr X d MTa_append 32 L (.int x :: .int x :: st) h := Rr_nx d_MTa_append_31 rfl
theorem r_MTa_append_32 {a : Nat} (hq : qI a 8 1 = true) : Rr X d MTa_append 32 L (.ref a :: st) (Wd mu la ro et) = Rr X d MTa_append 35 L (.int (mu a 1) :: st) (Wd mu la ro et) := R_gfI d_MTa_append_32 ff_8_13 hq
theorem r_MTa_append_35 : Rr X d MTa_append 35 L st h = Rr X d MTa_append 36 L (.int (1) :: st) h := Rr_nx d_MTa_append_35 rfl
theorem r_MTa_append_36 {x y : Int32} : Rr X d MTa_append 36 L (.int y :: .int x :: st) h = Rr X d MTa_append 37 L (.int (x + y) :: st) h := Rr_nx d_MTa_append_36 rfl
theorem r_MTa_append_37 {a : Nat} {x : Int32} (hq : qI a 8 1 = true) : Rr X d MTa_append 37 L (.int x :: .ref a :: st) (Wd mu la ro et) = Rr X d MTa_append 40 L st (Wd (up2 mu a 1 x) la ro et) := R_pfI d_MTa_append_37 ff_8_13 hq
theorem r_MTa_append_40 : Rr X d MTa_append 40 L [] h = some (none, h) := Rr_rt d_MTa_append_40 rfl
theorem d_MTa_clear_0 : decode MTa_clear.2.2.1 0 = .ok (.aload_n 0, 1) := lkT_ok tk_MTa_clear rfl
theorem d_MTa_clear_1 : decode MTa_clear.2.2.1 1 = .ok (.iconst 0, 1) := lkT_ok tk_MTa_clear rfl
theorem d_MTa_clear_2 : decode MTa_clear.2.2.1 2 = .ok (.putfield 13, 3) := lkT_ok tk_MTa_clear rfl
theorem d_MTa_clear_5 : decode MTa_clear.2.2.1 5 = .ok (.aload_n 0, 1) := lkT_ok tk_MTa_clear rfl
theorem d_MTa_clear_6 : decode MTa_clear.2.2.1 6 = .ok (.iconst 0, 1) := lkT_ok tk_MTa_clear rfl
theorem d_MTa_clear_7 : decode MTa_clear.2.2.1 7 = .ok (.putfield 17, 3) := lkT_ok tk_MTa_clear rfl
theorem d_MTa_clear_10 : decode MTa_clear.2.2.1 10 = .ok (.return_, 1) := lkT_ok tk_MTa_clear rfl
theorem r_MTa_clear_0 {x : Nat} : Rr X d MTa_clear 0 [.ref x] st h = Rr X d MTa_clear 1 [.ref x] (.ref x :: st) h := Rr_nx d_MTa_clear_0 rfl
theorem r_MTa_clear_1 : Rr X d MTa_clear 1 L st h = Rr X d MTa_clear 2 L (.int (0) :: st) h := Rr_nx d_MTa_clear_1 rfl
theorem r_MTa_clear_2 {a : Nat} {x : Int32} (hq : qI a 8 1 = true) : Rr X d MTa_clear 2 L (.int x :: .ref a :: st) (Wd mu la ro et) = Rr X d MTa_clear 5 L st (Wd (up2 mu a 1 x) la ro et) := R_pfI d_MTa_clear_2 ff_8_13 hq
theorem r_MTa_clear_5 {x : Nat} : Rr X d MTa_clear 5 [.ref x] st h = Rr X d MTa_clear 6 [.ref x] (.ref x :: st) h := Rr_nx d_MTa_clear_5 rfl
theorem r_MTa_clear_6 : Rr X d MTa_clear 6 L st h = Rr X d MTa_clear 7 L (.int (0) :: st) h := Rr_nx d_MTa_clear_6 rfl
theorem ff_8_17 : fF 8 17 = some (8, 2, 0, 0) := rfl
theorem r_MTa_clear_7 {a : Nat} {x : Int32} (hq : qI a 8 2 = true) : Rr X d MTa_clear 7 L (.int x :: .ref a :: st) (Wd mu la ro et) = Rr X d MTa_clear 10 L st (Wd (up2 mu a 2 x) la ro et) := R_pfI d_MTa_clear_7 ff_8_17 hq
theorem r_MTa_clear_10 : Rr X d MTa_clear 10 L [] h = some (none, h) := Rr_rt d_MTa_clear_10 rfl
theorem d_MTa_rewind_0 : decode MTa_rewind.2.2.1 0 = .ok (.aload_n 0, 1) := lkT_ok tk_MTa_rewind rfl
theorem d_MTa_rewind_1 : decode MTa_rewind.2.2.1 1 = .ok (.iconst 0, 1) := lkT_ok tk_MTa_rewind rfl
theorem d_MTa_rewind_2 : decode MTa_rewind.2.2.1 2 = .ok (.putfield 17, 3) := lkT_ok tk_MTa_rewind rfl
theorem d_MTa_rewind_5 : decode MTa_rewind.2.2.1 5 = .ok (.return_, 1) := lkT_ok tk_MTa_rewind rfl
theorem r_MTa_rewind_0 {x : Nat} : Rr X d MTa_rewind 0 [.ref x] st h = Rr X d MTa_rewind 1 [.ref x] (.ref x :: st) h := Rr_nx d_MTa_rewind_0 rfl
theorem r_MTa_rewind_1 : Rr X d MTa_rewind 1 L st h = Rr X d MTa_rewind 2 L (.int (0) :: st) h := Rr_nx d_MTa_rewind_1 rfl
theorem r_MTa_rewind_2 {a : Nat} {x : Int32} (hq : qI a 8 2 = true) : Rr X d MTa_rewind 2 L (.int x :: .ref a :: st) (Wd mu la ro et) = Rr X d MTa_rewind 5 L st (Wd (up2 mu a 2 x) la ro et) := R_pfI d_MTa_rewind_2 ff_8_17 hq
theorem r_MTa_rewind_5 : Rr X d MTa_rewind 5 L [] h = some (none, h) := Rr_rt d_MTa_rewind_5 rfl
theorem d_MTa_isAtEnd_0 : decode MTa_isAtEnd.2.2.1 0 = .ok (.aload_n 0, 1) := lkT_ok tk_MTa_isAtEnd rfl
theorem d_MTa_isAtEnd_1 : decode MTa_isAtEnd.2.2.1 1 = .ok (.getfield 17, 3) := lkT_ok tk_MTa_isAtEnd rfl
theorem d_MTa_isAtEnd_4 : decode MTa_isAtEnd.2.2.1 4 = .ok (.aload_n 0, 1) := lkT_ok tk_MTa_isAtEnd rfl
theorem d_MTa_isAtEnd_5 : decode MTa_isAtEnd.2.2.1 5 = .ok (.getfield 13, 3) := lkT_ok tk_MTa_isAtEnd rfl
theorem d_MTa_isAtEnd_8 : decode MTa_isAtEnd.2.2.1 8 = .ok (.if_icmp .ne 7, 3) := lkT_ok tk_MTa_isAtEnd rfl
theorem d_MTa_isAtEnd_11 : decode MTa_isAtEnd.2.2.1 11 = .ok (.iconst 1, 1) := lkT_ok tk_MTa_isAtEnd rfl
theorem d_MTa_isAtEnd_12 : decode MTa_isAtEnd.2.2.1 12 = .ok (.goto 4, 3) := lkT_ok tk_MTa_isAtEnd rfl
theorem d_MTa_isAtEnd_15 : decode MTa_isAtEnd.2.2.1 15 = .ok (.iconst 0, 1) := lkT_ok tk_MTa_isAtEnd rfl
theorem d_MTa_isAtEnd_16 : decode MTa_isAtEnd.2.2.1 16 = .ok (.ireturn, 1) := lkT_ok tk_MTa_isAtEnd rfl
theorem r_MTa_isAtEnd_0 {x : Nat} : Rr X d MTa_isAtEnd 0 [.ref x] st h = Rr X d MTa_isAtEnd 1 [.ref x] (.ref x :: st) h := Rr_nx d_MTa_isAtEnd_0 rfl
theorem r_MTa_isAtEnd_1 {a : Nat} (hq : qI a 8 2 = true) : Rr X d MTa_isAtEnd 1 L (.ref a :: st) (Wd mu la ro et) = Rr X d MTa_isAtEnd 4 L (.int (mu a 2) :: st) (Wd mu la ro et) := R_gfI d_MTa_isAtEnd_1 ff_8_17 hq
theorem r_MTa_isAtEnd_4 {x : Nat} : Rr X d MTa_isAtEnd 4 [.ref x] st h = Rr X d MTa_isAtEnd 5 [.ref x] (.ref x :: st) h := Rr_nx d_MTa_isAtEnd_4 rfl
theorem r_MTa_isAtEnd_5 {a : Nat} (hq : qI a 8 1 = true) : Rr X d MTa_isAtEnd 5 L (.ref a :: st) (Wd mu la ro et) = Rr X d MTa_isAtEnd 8 L (.int (mu a 1) :: st) (Wd mu la ro et) := R_gfI d_MTa_isAtEnd_5 ff_8_13 hq
theorem r_MTa_isAtEnd_8 {x y : Int32} : Rr X d MTa_isAtEnd 8 L (.int y :: .int x :: st) h = if ¬ x = y then Rr X d MTa_isAtEnd 15 L st h else Rr X d MTa_isAtEnd 11 L st h := R_ic_ne d_MTa_isAtEnd_8 (by decide)
theorem r_MTa_isAtEnd_11 : Rr X d MTa_isAtEnd 11 L st h = Rr X d MTa_isAtEnd 12 L (.int (1) :: st) h := Rr_nx d_MTa_isAtEnd_11 rfl
theorem r_MTa_isAtEnd_12 : Rr X d MTa_isAtEnd 12 L st h = Rr X d MTa_isAtEnd 16 L st h := R_goto d_MTa_isAtEnd_12 (by decide)
theorem r_MTa_isAtEnd_15 : Rr X d MTa_isAtEnd 15 L st h = Rr X d MTa_isAtEnd 16 L (.int (0) :: st) h := Rr_nx d_MTa_isAtEnd_15 rfl
theorem r_MTa_isAtEnd_16 {x : Int32} : Rr X d MTa_isAtEnd 16 L [.int x] h = if x = 0 ∨ x = 1 then some (some (.int x), h) else none := R_zr d_MTa_isAtEnd_16 rfl
theorem d_MTa_here_0 : decode MTa_here.2.2.1 0 = .ok (.aload_n 0, 1) := lkT_ok tk_MTa_here rfl
theorem d_MTa_here_1 : decode MTa_here.2.2.1 1 = .ok (.getfield 17, 3) := lkT_ok tk_MTa_here rfl
theorem d_MTa_here_4 : decode MTa_here.2.2.1 4 = .ok (.ifCond .lt 42, 3) := lkT_ok tk_MTa_here rfl
theorem d_MTa_here_7 : decode MTa_here.2.2.1 7 = .ok (.aload_n 0, 1) := lkT_ok tk_MTa_here rfl
theorem d_MTa_here_8 : decode MTa_here.2.2.1 8 = .ok (.getfield 17, 3) := lkT_ok tk_MTa_here rfl
theorem d_MTa_here_11 : decode MTa_here.2.2.1 11 = .ok (.aload_n 0, 1) := lkT_ok tk_MTa_here rfl
theorem d_MTa_here_12 : decode MTa_here.2.2.1 12 = .ok (.getfield 13, 3) := lkT_ok tk_MTa_here rfl
theorem d_MTa_here_15 : decode MTa_here.2.2.1 15 = .ok (.if_icmp .ge 31, 3) := lkT_ok tk_MTa_here rfl
theorem d_MTa_here_18 : decode MTa_here.2.2.1 18 = .ok (.aload_n 0, 1) := lkT_ok tk_MTa_here rfl
theorem d_MTa_here_19 : decode MTa_here.2.2.1 19 = .ok (.getfield 17, 3) := lkT_ok tk_MTa_here rfl
theorem d_MTa_here_22 : decode MTa_here.2.2.1 22 = .ok (.aload_n 0, 1) := lkT_ok tk_MTa_here rfl
theorem d_MTa_here_23 : decode MTa_here.2.2.1 23 = .ok (.getfield 9, 3) := lkT_ok tk_MTa_here rfl
theorem d_MTa_here_26 : decode MTa_here.2.2.1 26 = .ok (.arraylength, 1) := lkT_ok tk_MTa_here rfl
theorem d_MTa_here_27 : decode MTa_here.2.2.1 27 = .ok (.if_icmp .ge 19, 3) := lkT_ok tk_MTa_here rfl
theorem d_MTa_here_30 : decode MTa_here.2.2.1 30 = .ok (.aload_n 0, 1) := lkT_ok tk_MTa_here rfl
theorem d_MTa_here_31 : decode MTa_here.2.2.1 31 = .ok (.getfield 9, 3) := lkT_ok tk_MTa_here rfl
theorem d_MTa_here_34 : decode MTa_here.2.2.1 34 = .ok (.aload_n 0, 1) := lkT_ok tk_MTa_here rfl
theorem d_MTa_here_35 : decode MTa_here.2.2.1 35 = .ok (.getfield 17, 3) := lkT_ok tk_MTa_here rfl
theorem d_MTa_here_38 : decode MTa_here.2.2.1 38 = .ok (.baload, 1) := lkT_ok tk_MTa_here rfl
theorem d_MTa_here_39 : decode MTa_here.2.2.1 39 = .ok (.sipush 255, 3) := lkT_ok tk_MTa_here rfl
theorem d_MTa_here_42 : decode MTa_here.2.2.1 42 = .ok (.iand, 1) := lkT_ok tk_MTa_here rfl
theorem d_MTa_here_43 : decode MTa_here.2.2.1 43 = .ok (.goto 4, 3) := lkT_ok tk_MTa_here rfl
theorem d_MTa_here_46 : decode MTa_here.2.2.1 46 = .ok (.iconst (-1), 1) := lkT_ok tk_MTa_here rfl
theorem d_MTa_here_47 : decode MTa_here.2.2.1 47 = .ok (.ireturn, 1) := lkT_ok tk_MTa_here rfl
theorem r_MTa_here_0 {x : Nat} : Rr X d MTa_here 0 [.ref x] st h = Rr X d MTa_here 1 [.ref x] (.ref x :: st) h := Rr_nx d_MTa_here_0 rfl
theorem r_MTa_here_1 {a : Nat} (hq : qI a 8 2 = true) : Rr X d MTa_here 1 L (.ref a :: st) (Wd mu la ro et) = Rr X d MTa_here 4 L (.int (mu a 2) :: st) (Wd mu la ro et) := R_gfI d_MTa_here_1 ff_8_17 hq
theorem r_MTa_here_4 {x : Int32} : Rr X d MTa_here 4 L (.int x :: st) h = if x < 0 then Rr X d MTa_here 46 L st h else Rr X d MTa_here 7 L st h := R_if_lt d_MTa_here_4 (by decide)
theorem r_MTa_here_7 {x : Nat} : Rr X d MTa_here 7 [.ref x] st h = Rr X d MTa_here 8 [.ref x] (.ref x :: st) h := Rr_nx d_MTa_here_7 rfl
theorem r_MTa_here_8 {a : Nat} (hq : qI a 8 2 = true) : Rr X d MTa_here 8 L (.ref a :: st) (Wd mu la ro et) = Rr X d MTa_here 11 L (.int (mu a 2) :: st) (Wd mu la ro et) := R_gfI d_MTa_here_8 ff_8_17 hq
theorem r_MTa_here_11 {x : Nat} : Rr X d MTa_here 11 [.ref x] st h = Rr X d MTa_here 12 [.ref x] (.ref x :: st) h := Rr_nx d_MTa_here_11 rfl
theorem r_MTa_here_12 {a : Nat} (hq : qI a 8 1 = true) : Rr X d MTa_here 12 L (.ref a :: st) (Wd mu la ro et) = Rr X d MTa_here 15 L (.int (mu a 1) :: st) (Wd mu la ro et) := R_gfI d_MTa_here_12 ff_8_13 hq
theorem r_MTa_here_15 {x y : Int32} : Rr X d MTa_here 15 L (.int y :: .int x :: st) h = if y ≤ x then Rr X d MTa_here 46 L st h else Rr X d MTa_here 18 L st h := R_ic_ge d_MTa_here_15 (by decide)
theorem r_MTa_here_18 {x : Nat} : Rr X d MTa_here 18 [.ref x] st h = Rr X d MTa_here 19 [.ref x] (.ref x :: st) h := Rr_nx d_MTa_here_18 rfl
theorem r_MTa_here_19 {a : Nat} (hq : qI a 8 2 = true) : Rr X d MTa_here 19 L (.ref a :: st) (Wd mu la ro et) = Rr X d MTa_here 22 L (.int (mu a 2) :: st) (Wd mu la ro et) := R_gfI d_MTa_here_19 ff_8_17 hq
theorem r_MTa_here_22 {x : Nat} : Rr X d MTa_here 22 [.ref x] st h = Rr X d MTa_here 23 [.ref x] (.ref x :: st) h := Rr_nx d_MTa_here_22 rfl
theorem r_MTa_here_23 {a : Nat} (hq : (qR a 8 0).isSome = true) : Rr X d MTa_here 23 L (.ref a :: st) (Wd mu la ro et) = Rr X d MTa_here 26 L (.ref (qRd a 8 0) :: st) (Wd mu la ro et) := R_gfR d_MTa_here_23 ff_8_9 hq
theorem r_MTa_here_26 {a : Nat} (hq : (qL a).isSome = true) : Rr X d MTa_here 26 L (.ref a :: st) (Wd mu la ro et) = Rr X d MTa_here 27 L (.int (Int32.ofNat (qLd a)) :: st) (Wd mu la ro et) := R_lenW d_MTa_here_26 hq
theorem r_MTa_here_27 {x y : Int32} : Rr X d MTa_here 27 L (.int y :: .int x :: st) h = if y ≤ x then Rr X d MTa_here 46 L st h else Rr X d MTa_here 30 L st h := R_ic_ge d_MTa_here_27 (by decide)
theorem r_MTa_here_30 {x : Nat} : Rr X d MTa_here 30 [.ref x] st h = Rr X d MTa_here 31 [.ref x] (.ref x :: st) h := Rr_nx d_MTa_here_30 rfl
theorem r_MTa_here_31 {a : Nat} (hq : (qR a 8 0).isSome = true) : Rr X d MTa_here 31 L (.ref a :: st) (Wd mu la ro et) = Rr X d MTa_here 34 L (.ref (qRd a 8 0) :: st) (Wd mu la ro et) := R_gfR d_MTa_here_31 ff_8_9 hq
theorem r_MTa_here_34 {x : Nat} : Rr X d MTa_here 34 [.ref x] st h = Rr X d MTa_here 35 [.ref x] (.ref x :: st) h := Rr_nx d_MTa_here_34 rfl
theorem r_MTa_here_35 {a : Nat} (hq : qI a 8 2 = true) : Rr X d MTa_here 35 L (.ref a :: st) (Wd mu la ro et) = Rr X d MTa_here 38 L (.int (mu a 2) :: st) (Wd mu la ro et) := R_gfI d_MTa_here_35 ff_8_17 hq
theorem r_MTa_here_38 {a : Nat} {j : Int32} (hq : (qA a 2).isSome = true) : Rr X d MTa_here 38 L (.int j :: .ref a :: st) (Wd mu la ro et) = if j < 0 ∨ qAd a 2 ≤ j.toNatClampNeg then none else Rr X d MTa_here 39 L (.int (mu a j.toNatClampNeg) :: st) (Wd mu la ro et) := R_balW d_MTa_here_38 hq
theorem r_MTa_here_39 : Rr X d MTa_here 39 L st h = Rr X d MTa_here 42 L (.int (255) :: st) h := Rr_nx d_MTa_here_39 rfl
theorem r_MTa_here_42 {x y : Int32} : Rr X d MTa_here 42 L (.int y :: .int x :: st) h = Rr X d MTa_here 43 L (.int (x &&& y) :: st) h := Rr_nx d_MTa_here_42 rfl
theorem r_MTa_here_43 : Rr X d MTa_here 43 L st h = Rr X d MTa_here 47 L st h := R_goto d_MTa_here_43 (by decide)
theorem r_MTa_here_46 : Rr X d MTa_here 46 L st h = Rr X d MTa_here 47 L (.int (-1) :: st) h := Rr_nx d_MTa_here_46 rfl
theorem r_MTa_here_47 {x : Int32} : Rr X d MTa_here 47 L [.int x] h = some (some (.int x), h) := R_ir d_MTa_here_47 rfl
theorem d_MTa_skip_0 : decode MTa_skip.2.2.1 0 = .ok (.aload_n 0, 1) := lkT_ok tk_MTa_skip rfl
theorem d_MTa_skip_1 : decode MTa_skip.2.2.1 1 = .ok (.invokevirtual 20, 3) := lkT_ok tk_MTa_skip rfl
theorem d_MTa_skip_4 : decode MTa_skip.2.2.1 4 = .ok (.iload_n 1, 1) := lkT_ok tk_MTa_skip rfl
theorem d_MTa_skip_5 : decode MTa_skip.2.2.1 5 = .ok (.if_icmp .eq 5, 3) := lkT_ok tk_MTa_skip rfl
theorem d_MTa_skip_8 : decode MTa_skip.2.2.1 8 = .ok (.iconst 0, 1) := lkT_ok tk_MTa_skip rfl
theorem d_MTa_skip_9 : decode MTa_skip.2.2.1 9 = .ok (.ireturn, 1) := lkT_ok tk_MTa_skip rfl
theorem d_MTa_skip_10 : decode MTa_skip.2.2.1 10 = .ok (.aload_n 0, 1) := lkT_ok tk_MTa_skip rfl
theorem d_MTa_skip_11 : decode MTa_skip.2.2.1 11 = .ok (.dup, 1) := lkT_ok tk_MTa_skip rfl
theorem d_MTa_skip_12 : decode MTa_skip.2.2.1 12 = .ok (.getfield 17, 3) := lkT_ok tk_MTa_skip rfl
theorem d_MTa_skip_15 : decode MTa_skip.2.2.1 15 = .ok (.iconst 1, 1) := lkT_ok tk_MTa_skip rfl
theorem d_MTa_skip_16 : decode MTa_skip.2.2.1 16 = .ok (.iadd, 1) := lkT_ok tk_MTa_skip rfl
theorem d_MTa_skip_17 : decode MTa_skip.2.2.1 17 = .ok (.putfield 17, 3) := lkT_ok tk_MTa_skip rfl
theorem d_MTa_skip_20 : decode MTa_skip.2.2.1 20 = .ok (.iconst 1, 1) := lkT_ok tk_MTa_skip rfl
theorem d_MTa_skip_21 : decode MTa_skip.2.2.1 21 = .ok (.ireturn, 1) := lkT_ok tk_MTa_skip rfl
theorem r_MTa_skip_0 {l1 : Value} {x : Nat} : Rr X d MTa_skip 0 [.ref x, l1] st h = Rr X d MTa_skip 1 [.ref x, l1] (.ref x :: st) h := Rr_nx d_MTa_skip_0 rfl
theorem fc_8_20 : fC 8 20 = some (0, 8, 0, MTa_here) := rfl
theorem r_MTa_skip_1 {a : Nat} (hO : qO a 8 = true) (hc : ckS st = true) : Rr X (d + 1) MTa_skip 1 L (.ref a :: st) (Wd mu la ro et) = (Rr X d MTa_here 0 [.ref a] [] (Wd mu la ro et)).bind fun q => Rr X (d + 1) MTa_skip 4 L (psh q.1 st) q.2 := R_iv (av := []) d_MTa_skip_1 fc_8_20 hO (ckS_le hc) rfl (Nat.le_of_ble_eq_true rfl) (Nat.le_of_ble_eq_true rfl)
theorem r_MTa_skip_4 {l0 : Value} {x : Int32} : Rr X d MTa_skip 4 [l0, .int x] st h = Rr X d MTa_skip 5 [l0, .int x] (.int x :: st) h := Rr_nx d_MTa_skip_4 rfl
theorem r_MTa_skip_5 {x y : Int32} : Rr X d MTa_skip 5 L (.int y :: .int x :: st) h = if x = y then Rr X d MTa_skip 10 L st h else Rr X d MTa_skip 8 L st h := R_ic_eq d_MTa_skip_5 (by decide)
theorem r_MTa_skip_8 : Rr X d MTa_skip 8 L st h = Rr X d MTa_skip 9 L (.int (0) :: st) h := Rr_nx d_MTa_skip_8 rfl
theorem r_MTa_skip_9 {x : Int32} : Rr X d MTa_skip 9 L [.int x] h = if x = 0 ∨ x = 1 then some (some (.int x), h) else none := R_zr d_MTa_skip_9 rfl
theorem r_MTa_skip_10 {l1 : Value} {x : Nat} : Rr X d MTa_skip 10 [.ref x, l1] st h = Rr X d MTa_skip 11 [.ref x, l1] (.ref x :: st) h := Rr_nx d_MTa_skip_10 rfl
theorem r_MTa_skip_11 {x : Nat} : Rr X d MTa_skip 11 L (.ref x :: st) h = Rr X d MTa_skip 12 L (.ref x :: .ref x :: st) h := Rr_nx d_MTa_skip_11 rfl
theorem r_MTa_skip_11i {x : Int32} : Rr X d MTa_skip 11 L (.int x :: st) h = Rr X d MTa_skip 12 L (.int x :: .int x :: st) h := Rr_nx d_MTa_skip_11 rfl
theorem r_MTa_skip_12 {a : Nat} (hq : qI a 8 2 = true) : Rr X d MTa_skip 12 L (.ref a :: st) (Wd mu la ro et) = Rr X d MTa_skip 15 L (.int (mu a 2) :: st) (Wd mu la ro et) := R_gfI d_MTa_skip_12 ff_8_17 hq
theorem r_MTa_skip_15 : Rr X d MTa_skip 15 L st h = Rr X d MTa_skip 16 L (.int (1) :: st) h := Rr_nx d_MTa_skip_15 rfl
theorem r_MTa_skip_16 {x y : Int32} : Rr X d MTa_skip 16 L (.int y :: .int x :: st) h = Rr X d MTa_skip 17 L (.int (x + y) :: st) h := Rr_nx d_MTa_skip_16 rfl
theorem r_MTa_skip_17 {a : Nat} {x : Int32} (hq : qI a 8 2 = true) : Rr X d MTa_skip 17 L (.int x :: .ref a :: st) (Wd mu la ro et) = Rr X d MTa_skip 20 L st (Wd (up2 mu a 2 x) la ro et) := R_pfI d_MTa_skip_17 ff_8_17 hq
theorem r_MTa_skip_20 : Rr X d MTa_skip 20 L st h = Rr X d MTa_skip 21 L (.int (1) :: st) h := Rr_nx d_MTa_skip_20 rfl
theorem r_MTa_skip_21 {x : Int32} : Rr X d MTa_skip 21 L [.int x] h = if x = 0 ∨ x = 1 then some (some (.int x), h) else none := R_zr d_MTa_skip_21 rfl
theorem d_MTa_digit_0 : decode MTa_digit.2.2.1 0 = .ok (.aload_n 0, 1) := lkT_ok tk_MTa_digit rfl
theorem d_MTa_digit_1 : decode MTa_digit.2.2.1 1 = .ok (.invokevirtual 20, 3) := lkT_ok tk_MTa_digit rfl
theorem d_MTa_digit_4 : decode MTa_digit.2.2.1 4 = .ok (.istore_n 2, 1) := lkT_ok tk_MTa_digit rfl
theorem d_MTa_digit_5 : decode MTa_digit.2.2.1 5 = .ok (.iload_n 2, 1) := lkT_ok tk_MTa_digit rfl
theorem d_MTa_digit_6 : decode MTa_digit.2.2.1 6 = .ok (.bipush 48, 2) := lkT_ok tk_MTa_digit rfl
theorem d_MTa_digit_8 : decode MTa_digit.2.2.1 8 = .ok (.iload_n 1, 1) := lkT_ok tk_MTa_digit rfl
theorem d_MTa_digit_9 : decode MTa_digit.2.2.1 9 = .ok (.iadd, 1) := lkT_ok tk_MTa_digit rfl
theorem d_MTa_digit_10 : decode MTa_digit.2.2.1 10 = .ok (.if_icmp .lt 9, 3) := lkT_ok tk_MTa_digit rfl
theorem d_MTa_digit_13 : decode MTa_digit.2.2.1 13 = .ok (.iload_n 2, 1) := lkT_ok tk_MTa_digit rfl
theorem d_MTa_digit_14 : decode MTa_digit.2.2.1 14 = .ok (.bipush 57, 2) := lkT_ok tk_MTa_digit rfl
theorem d_MTa_digit_16 : decode MTa_digit.2.2.1 16 = .ok (.if_icmp .le 5, 3) := lkT_ok tk_MTa_digit rfl
theorem d_MTa_digit_19 : decode MTa_digit.2.2.1 19 = .ok (.iconst (-1), 1) := lkT_ok tk_MTa_digit rfl
theorem d_MTa_digit_20 : decode MTa_digit.2.2.1 20 = .ok (.ireturn, 1) := lkT_ok tk_MTa_digit rfl
theorem d_MTa_digit_21 : decode MTa_digit.2.2.1 21 = .ok (.aload_n 0, 1) := lkT_ok tk_MTa_digit rfl
theorem d_MTa_digit_22 : decode MTa_digit.2.2.1 22 = .ok (.dup, 1) := lkT_ok tk_MTa_digit rfl
theorem d_MTa_digit_23 : decode MTa_digit.2.2.1 23 = .ok (.getfield 17, 3) := lkT_ok tk_MTa_digit rfl
theorem d_MTa_digit_26 : decode MTa_digit.2.2.1 26 = .ok (.iconst 1, 1) := lkT_ok tk_MTa_digit rfl
theorem d_MTa_digit_27 : decode MTa_digit.2.2.1 27 = .ok (.iadd, 1) := lkT_ok tk_MTa_digit rfl
theorem d_MTa_digit_28 : decode MTa_digit.2.2.1 28 = .ok (.putfield 17, 3) := lkT_ok tk_MTa_digit rfl
theorem d_MTa_digit_31 : decode MTa_digit.2.2.1 31 = .ok (.iload_n 2, 1) := lkT_ok tk_MTa_digit rfl
theorem d_MTa_digit_32 : decode MTa_digit.2.2.1 32 = .ok (.bipush 48, 2) := lkT_ok tk_MTa_digit rfl
theorem d_MTa_digit_34 : decode MTa_digit.2.2.1 34 = .ok (.isub, 1) := lkT_ok tk_MTa_digit rfl
theorem d_MTa_digit_35 : decode MTa_digit.2.2.1 35 = .ok (.ireturn, 1) := lkT_ok tk_MTa_digit rfl
theorem r_MTa_digit_0 {l1 l2 : Value} {x : Nat} : Rr X d MTa_digit 0 [.ref x, l1, l2] st h = Rr X d MTa_digit 1 [.ref x, l1, l2] (.ref x :: st) h := Rr_nx d_MTa_digit_0 rfl
theorem r_MTa_digit_1 {a : Nat} (hO : qO a 8 = true) (hc : ckS st = true) : Rr X (d + 1) MTa_digit 1 L (.ref a :: st) (Wd mu la ro et) = (Rr X d MTa_here 0 [.ref a] [] (Wd mu la ro et)).bind fun q => Rr X (d + 1) MTa_digit 4 L (psh q.1 st) q.2 := R_iv (av := []) d_MTa_digit_1 fc_8_20 hO (ckS_le hc) rfl (Nat.le_of_ble_eq_true rfl) (Nat.le_of_ble_eq_true rfl)
theorem r_MTa_digit_4 {l0 l1 l2 : Value} {x : Int32} : Rr X d MTa_digit 4 [l0, l1, l2] (.int x :: st) h = Rr X d MTa_digit 5 (sL [l0, l1, l2] 2 (.int x)) st h := Rr_nx d_MTa_digit_4 rfl
theorem r_MTa_digit_5 {l0 l1 : Value} {x : Int32} : Rr X d MTa_digit 5 [l0, l1, .int x] st h = Rr X d MTa_digit 6 [l0, l1, .int x] (.int x :: st) h := Rr_nx d_MTa_digit_5 rfl
theorem r_MTa_digit_6 : Rr X d MTa_digit 6 L st h = Rr X d MTa_digit 8 L (.int (48) :: st) h := Rr_nx d_MTa_digit_6 rfl
theorem r_MTa_digit_8 {l0 l2 : Value} {x : Int32} : Rr X d MTa_digit 8 [l0, .int x, l2] st h = Rr X d MTa_digit 9 [l0, .int x, l2] (.int x :: st) h := Rr_nx d_MTa_digit_8 rfl
theorem r_MTa_digit_9 {x y : Int32} : Rr X d MTa_digit 9 L (.int y :: .int x :: st) h = Rr X d MTa_digit 10 L (.int (x + y) :: st) h := Rr_nx d_MTa_digit_9 rfl
theorem r_MTa_digit_10 {x y : Int32} : Rr X d MTa_digit 10 L (.int y :: .int x :: st) h = if x < y then Rr X d MTa_digit 19 L st h else Rr X d MTa_digit 13 L st h := R_ic_lt d_MTa_digit_10 (by decide)
theorem r_MTa_digit_13 {l0 l1 : Value} {x : Int32} : Rr X d MTa_digit 13 [l0, l1, .int x] st h = Rr X d MTa_digit 14 [l0, l1, .int x] (.int x :: st) h := Rr_nx d_MTa_digit_13 rfl
theorem r_MTa_digit_14 : Rr X d MTa_digit 14 L st h = Rr X d MTa_digit 16 L (.int (57) :: st) h := Rr_nx d_MTa_digit_14 rfl
theorem r_MTa_digit_16 {x y : Int32} : Rr X d MTa_digit 16 L (.int y :: .int x :: st) h = if x ≤ y then Rr X d MTa_digit 21 L st h else Rr X d MTa_digit 19 L st h := R_ic_le d_MTa_digit_16 (by decide)
theorem r_MTa_digit_19 : Rr X d MTa_digit 19 L st h = Rr X d MTa_digit 20 L (.int (-1) :: st) h := Rr_nx d_MTa_digit_19 rfl
theorem r_MTa_digit_20 {x : Int32} : Rr X d MTa_digit 20 L [.int x] h = some (some (.int x), h) := R_ir d_MTa_digit_20 rfl
theorem r_MTa_digit_21 {l1 l2 : Value} {x : Nat} : Rr X d MTa_digit 21 [.ref x, l1, l2] st h = Rr X d MTa_digit 22 [.ref x, l1, l2] (.ref x :: st) h := Rr_nx d_MTa_digit_21 rfl
theorem r_MTa_digit_22 {x : Nat} : Rr X d MTa_digit 22 L (.ref x :: st) h = Rr X d MTa_digit 23 L (.ref x :: .ref x :: st) h := Rr_nx d_MTa_digit_22 rfl
theorem r_MTa_digit_22i {x : Int32} : Rr X d MTa_digit 22 L (.int x :: st) h = Rr X d MTa_digit 23 L (.int x :: .int x :: st) h := Rr_nx d_MTa_digit_22 rfl
theorem r_MTa_digit_23 {a : Nat} (hq : qI a 8 2 = true) : Rr X d MTa_digit 23 L (.ref a :: st) (Wd mu la ro et) = Rr X d MTa_digit 26 L (.int (mu a 2) :: st) (Wd mu la ro et) := R_gfI d_MTa_digit_23 ff_8_17 hq
theorem r_MTa_digit_26 : Rr X d MTa_digit 26 L st h = Rr X d MTa_digit 27 L (.int (1) :: st) h := Rr_nx d_MTa_digit_26 rfl
theorem r_MTa_digit_27 {x y : Int32} : Rr X d MTa_digit 27 L (.int y :: .int x :: st) h = Rr X d MTa_digit 28 L (.int (x + y) :: st) h := Rr_nx d_MTa_digit_27 rfl
theorem r_MTa_digit_28 {a : Nat} {x : Int32} (hq : qI a 8 2 = true) : Rr X d MTa_digit 28 L (.int x :: .ref a :: st) (Wd mu la ro et) = Rr X d MTa_digit 31 L st (Wd (up2 mu a 2 x) la ro et) := R_pfI d_MTa_digit_28 ff_8_17 hq
theorem r_MTa_digit_31 {l0 l1 : Value} {x : Int32} : Rr X d MTa_digit 31 [l0, l1, .int x] st h = Rr X d MTa_digit 32 [l0, l1, .int x] (.int x :: st) h := Rr_nx d_MTa_digit_31 rfl
theorem r_MTa_digit_32 : Rr X d MTa_digit 32 L st h = Rr X d MTa_digit 34 L (.int (48) :: st) h := Rr_nx d_MTa_digit_32 rfl
theorem r_MTa_digit_34 {x y : Int32} : Rr X d MTa_digit 34 L (.int y :: .int x :: st) h = Rr X d MTa_digit 35 L (.int (x - y) :: st) h := Rr_nx d_MTa_digit_34 rfl
theorem r_MTa_digit_35 {x : Int32} : Rr X d MTa_digit 35 L [.int x] h = some (some (.int x), h) := R_ir d_MTa_digit_35 rfl
theorem d_MTa_number_0 : decode MTa_number.2.2.1 0 = .ok (.aload_n 0, 1) := lkT_ok tk_MTa_number rfl
theorem d_MTa_number_1 : decode MTa_number.2.2.1 1 = .ok (.iconst 0, 1) := lkT_ok tk_MTa_number rfl
theorem d_MTa_number_2 : decode MTa_number.2.2.1 2 = .ok (.invokevirtual 24, 3) := lkT_ok tk_MTa_number rfl
theorem d_MTa_number_5 : decode MTa_number.2.2.1 5 = .ok (.istore_n 2, 1) := lkT_ok tk_MTa_number rfl
theorem d_MTa_number_6 : decode MTa_number.2.2.1 6 = .ok (.iload_n 2, 1) := lkT_ok tk_MTa_number rfl
theorem d_MTa_number_7 : decode MTa_number.2.2.1 7 = .ok (.ifCond .lt 7, 3) := lkT_ok tk_MTa_number rfl
theorem d_MTa_number_10 : decode MTa_number.2.2.1 10 = .ok (.iconst 1, 1) := lkT_ok tk_MTa_number rfl
theorem d_MTa_number_11 : decode MTa_number.2.2.1 11 = .ok (.goto 4, 3) := lkT_ok tk_MTa_number rfl
theorem d_MTa_number_14 : decode MTa_number.2.2.1 14 = .ok (.iconst 0, 1) := lkT_ok tk_MTa_number rfl
theorem d_MTa_number_15 : decode MTa_number.2.2.1 15 = .ok (.istore_n 3, 1) := lkT_ok tk_MTa_number rfl
theorem d_MTa_number_16 : decode MTa_number.2.2.1 16 = .ok (.iconst 1, 1) := lkT_ok tk_MTa_number rfl
theorem d_MTa_number_17 : decode MTa_number.2.2.1 17 = .ok (.istore 4, 2) := lkT_ok tk_MTa_number rfl
theorem d_MTa_number_19 : decode MTa_number.2.2.1 19 = .ok (.iload 4, 2) := lkT_ok tk_MTa_number rfl
theorem d_MTa_number_21 : decode MTa_number.2.2.1 21 = .ok (.iload_n 1, 1) := lkT_ok tk_MTa_number rfl
theorem d_MTa_number_22 : decode MTa_number.2.2.1 22 = .ok (.if_icmp .ge 43, 3) := lkT_ok tk_MTa_number rfl
theorem d_MTa_number_25 : decode MTa_number.2.2.1 25 = .ok (.iload_n 3, 1) := lkT_ok tk_MTa_number rfl
theorem d_MTa_number_26 : decode MTa_number.2.2.1 26 = .ok (.ifCond .eq 39, 3) := lkT_ok tk_MTa_number rfl
theorem d_MTa_number_29 : decode MTa_number.2.2.1 29 = .ok (.aload_n 0, 1) := lkT_ok tk_MTa_number rfl
theorem d_MTa_number_30 : decode MTa_number.2.2.1 30 = .ok (.iconst 0, 1) := lkT_ok tk_MTa_number rfl
theorem d_MTa_number_31 : decode MTa_number.2.2.1 31 = .ok (.invokevirtual 24, 3) := lkT_ok tk_MTa_number rfl
theorem d_MTa_number_34 : decode MTa_number.2.2.1 34 = .ok (.istore 5, 2) := lkT_ok tk_MTa_number rfl
theorem d_MTa_number_36 : decode MTa_number.2.2.1 36 = .ok (.iload 5, 2) := lkT_ok tk_MTa_number rfl
theorem d_MTa_number_38 : decode MTa_number.2.2.1 38 = .ok (.ifCond .lt 7, 3) := lkT_ok tk_MTa_number rfl
theorem d_MTa_number_41 : decode MTa_number.2.2.1 41 = .ok (.iconst 1, 1) := lkT_ok tk_MTa_number rfl
theorem d_MTa_number_42 : decode MTa_number.2.2.1 42 = .ok (.goto 4, 3) := lkT_ok tk_MTa_number rfl
theorem d_MTa_number_45 : decode MTa_number.2.2.1 45 = .ok (.iconst 0, 1) := lkT_ok tk_MTa_number rfl
theorem d_MTa_number_46 : decode MTa_number.2.2.1 46 = .ok (.istore_n 3, 1) := lkT_ok tk_MTa_number rfl
theorem d_MTa_number_47 : decode MTa_number.2.2.1 47 = .ok (.iload_n 3, 1) := lkT_ok tk_MTa_number rfl
theorem d_MTa_number_48 : decode MTa_number.2.2.1 48 = .ok (.ifCond .eq 11, 3) := lkT_ok tk_MTa_number rfl
theorem d_MTa_number_51 : decode MTa_number.2.2.1 51 = .ok (.bipush 10, 2) := lkT_ok tk_MTa_number rfl
theorem d_MTa_number_53 : decode MTa_number.2.2.1 53 = .ok (.iload_n 2, 1) := lkT_ok tk_MTa_number rfl
theorem d_MTa_number_54 : decode MTa_number.2.2.1 54 = .ok (.imul, 1) := lkT_ok tk_MTa_number rfl
theorem d_MTa_number_55 : decode MTa_number.2.2.1 55 = .ok (.iload 5, 2) := lkT_ok tk_MTa_number rfl
theorem d_MTa_number_57 : decode MTa_number.2.2.1 57 = .ok (.iadd, 1) := lkT_ok tk_MTa_number rfl
theorem d_MTa_number_58 : decode MTa_number.2.2.1 58 = .ok (.istore_n 2, 1) := lkT_ok tk_MTa_number rfl
theorem d_MTa_number_59 : decode MTa_number.2.2.1 59 = .ok (.iinc 4 1, 3) := lkT_ok tk_MTa_number rfl
theorem d_MTa_number_62 : decode MTa_number.2.2.1 62 = .ok (.goto (-43), 3) := lkT_ok tk_MTa_number rfl
theorem d_MTa_number_65 : decode MTa_number.2.2.1 65 = .ok (.iload_n 2, 1) := lkT_ok tk_MTa_number rfl
theorem d_MTa_number_66 : decode MTa_number.2.2.1 66 = .ok (.ireturn, 1) := lkT_ok tk_MTa_number rfl
theorem r_MTa_number_0 {l1 l2 l3 l4 l5 : Value} {x : Nat} : Rr X d MTa_number 0 [.ref x, l1, l2, l3, l4, l5] st h = Rr X d MTa_number 1 [.ref x, l1, l2, l3, l4, l5] (.ref x :: st) h := Rr_nx d_MTa_number_0 rfl
theorem r_MTa_number_1 : Rr X d MTa_number 1 L st h = Rr X d MTa_number 2 L (.int (0) :: st) h := Rr_nx d_MTa_number_1 rfl
theorem fc_8_24 : fC 8 24 = some (0, 8, 1, MTa_digit) := rfl
theorem r_MTa_number_2 {y0 : Int32} {a : Nat} (hO : qO a 8 = true) (hc : ckS st = true) : Rr X (d + 1) MTa_number 2 L (.int y0 :: .ref a :: st) (Wd mu la ro et) = (Rr X d MTa_digit 0 [.ref a, .int y0, mkU] [] (Wd mu la ro et)).bind fun q => Rr X (d + 1) MTa_number 5 L (psh q.1 st) q.2 := R_iv (av := [.int y0]) d_MTa_number_2 fc_8_24 hO (ckS_le hc) rfl (Nat.le_of_ble_eq_true rfl) (Nat.le_of_ble_eq_true rfl)
theorem r_MTa_number_5 {l0 l1 l2 l3 l4 l5 : Value} {x : Int32} : Rr X d MTa_number 5 [l0, l1, l2, l3, l4, l5] (.int x :: st) h = Rr X d MTa_number 6 (sL [l0, l1, l2, l3, l4, l5] 2 (.int x)) st h := Rr_nx d_MTa_number_5 rfl
theorem r_MTa_number_6 {l0 l1 l3 l4 l5 : Value} {x : Int32} : Rr X d MTa_number 6 [l0, l1, .int x, l3, l4, l5] st h = Rr X d MTa_number 7 [l0, l1, .int x, l3, l4, l5] (.int x :: st) h := Rr_nx d_MTa_number_6 rfl
theorem r_MTa_number_7 {x : Int32} : Rr X d MTa_number 7 L (.int x :: st) h = if x < 0 then Rr X d MTa_number 14 L st h else Rr X d MTa_number 10 L st h := R_if_lt d_MTa_number_7 (by decide)
theorem r_MTa_number_10 : Rr X d MTa_number 10 L st h = Rr X d MTa_number 11 L (.int (1) :: st) h := Rr_nx d_MTa_number_10 rfl
theorem r_MTa_number_11 : Rr X d MTa_number 11 L st h = Rr X d MTa_number 15 L st h := R_goto d_MTa_number_11 (by decide)
theorem r_MTa_number_14 : Rr X d MTa_number 14 L st h = Rr X d MTa_number 15 L (.int (0) :: st) h := Rr_nx d_MTa_number_14 rfl
theorem r_MTa_number_15 {l0 l1 l2 l3 l4 l5 : Value} {x : Int32} : Rr X d MTa_number 15 [l0, l1, l2, l3, l4, l5] (.int x :: st) h = Rr X d MTa_number 16 (sL [l0, l1, l2, l3, l4, l5] 3 (.int x)) st h := Rr_nx d_MTa_number_15 rfl
theorem r_MTa_number_16 : Rr X d MTa_number 16 L st h = Rr X d MTa_number 17 L (.int (1) :: st) h := Rr_nx d_MTa_number_16 rfl
theorem r_MTa_number_17 {l0 l1 l2 l3 l4 l5 : Value} {x : Int32} : Rr X d MTa_number 17 [l0, l1, l2, l3, l4, l5] (.int x :: st) h = Rr X d MTa_number 19 (sL [l0, l1, l2, l3, l4, l5] 4 (.int x)) st h := Rr_nx d_MTa_number_17 rfl
theorem r_MTa_number_19 {l0 l1 l2 l3 l5 : Value} {x : Int32} : Rr X d MTa_number 19 [l0, l1, l2, l3, .int x, l5] st h = Rr X d MTa_number 21 [l0, l1, l2, l3, .int x, l5] (.int x :: st) h := Rr_nx d_MTa_number_19 rfl
theorem r_MTa_number_21 {l0 l2 l3 l4 l5 : Value} {x : Int32} : Rr X d MTa_number 21 [l0, .int x, l2, l3, l4, l5] st h = Rr X d MTa_number 22 [l0, .int x, l2, l3, l4, l5] (.int x :: st) h := Rr_nx d_MTa_number_21 rfl
theorem r_MTa_number_22 {x y : Int32} : Rr X d MTa_number 22 L (.int y :: .int x :: st) h = if y ≤ x then Rr X d MTa_number 65 L st h else Rr X d MTa_number 25 L st h := R_ic_ge d_MTa_number_22 (by decide)
theorem r_MTa_number_25 {l0 l1 l2 l4 l5 : Value} {x : Int32} : Rr X d MTa_number 25 [l0, l1, l2, .int x, l4, l5] st h = Rr X d MTa_number 26 [l0, l1, l2, .int x, l4, l5] (.int x :: st) h := Rr_nx d_MTa_number_25 rfl
theorem r_MTa_number_26 {x : Int32} : Rr X d MTa_number 26 L (.int x :: st) h = if x = 0 then Rr X d MTa_number 65 L st h else Rr X d MTa_number 29 L st h := R_if_eq d_MTa_number_26 (by decide)
theorem r_MTa_number_29 {l1 l2 l3 l4 l5 : Value} {x : Nat} : Rr X d MTa_number 29 [.ref x, l1, l2, l3, l4, l5] st h = Rr X d MTa_number 30 [.ref x, l1, l2, l3, l4, l5] (.ref x :: st) h := Rr_nx d_MTa_number_29 rfl
theorem r_MTa_number_30 : Rr X d MTa_number 30 L st h = Rr X d MTa_number 31 L (.int (0) :: st) h := Rr_nx d_MTa_number_30 rfl
theorem r_MTa_number_31 {y0 : Int32} {a : Nat} (hO : qO a 8 = true) (hc : ckS st = true) : Rr X (d + 1) MTa_number 31 L (.int y0 :: .ref a :: st) (Wd mu la ro et) = (Rr X d MTa_digit 0 [.ref a, .int y0, mkU] [] (Wd mu la ro et)).bind fun q => Rr X (d + 1) MTa_number 34 L (psh q.1 st) q.2 := R_iv (av := [.int y0]) d_MTa_number_31 fc_8_24 hO (ckS_le hc) rfl (Nat.le_of_ble_eq_true rfl) (Nat.le_of_ble_eq_true rfl)
theorem r_MTa_number_34 {l0 l1 l2 l3 l4 l5 : Value} {x : Int32} : Rr X d MTa_number 34 [l0, l1, l2, l3, l4, l5] (.int x :: st) h = Rr X d MTa_number 36 (sL [l0, l1, l2, l3, l4, l5] 5 (.int x)) st h := Rr_nx d_MTa_number_34 rfl
theorem r_MTa_number_36 {l0 l1 l2 l3 l4 : Value} {x : Int32} : Rr X d MTa_number 36 [l0, l1, l2, l3, l4, .int x] st h = Rr X d MTa_number 38 [l0, l1, l2, l3, l4, .int x] (.int x :: st) h := Rr_nx d_MTa_number_36 rfl
theorem r_MTa_number_38 {x : Int32} : Rr X d MTa_number 38 L (.int x :: st) h = if x < 0 then Rr X d MTa_number 45 L st h else Rr X d MTa_number 41 L st h := R_if_lt d_MTa_number_38 (by decide)
theorem r_MTa_number_41 : Rr X d MTa_number 41 L st h = Rr X d MTa_number 42 L (.int (1) :: st) h := Rr_nx d_MTa_number_41 rfl
theorem r_MTa_number_42 : Rr X d MTa_number 42 L st h = Rr X d MTa_number 46 L st h := R_goto d_MTa_number_42 (by decide)
theorem r_MTa_number_45 : Rr X d MTa_number 45 L st h = Rr X d MTa_number 46 L (.int (0) :: st) h := Rr_nx d_MTa_number_45 rfl
theorem r_MTa_number_46 {l0 l1 l2 l3 l4 l5 : Value} {x : Int32} : Rr X d MTa_number 46 [l0, l1, l2, l3, l4, l5] (.int x :: st) h = Rr X d MTa_number 47 (sL [l0, l1, l2, l3, l4, l5] 3 (.int x)) st h := Rr_nx d_MTa_number_46 rfl
theorem r_MTa_number_47 {l0 l1 l2 l4 l5 : Value} {x : Int32} : Rr X d MTa_number 47 [l0, l1, l2, .int x, l4, l5] st h = Rr X d MTa_number 48 [l0, l1, l2, .int x, l4, l5] (.int x :: st) h := Rr_nx d_MTa_number_47 rfl
theorem r_MTa_number_48 {x : Int32} : Rr X d MTa_number 48 L (.int x :: st) h = if x = 0 then Rr X d MTa_number 59 L st h else Rr X d MTa_number 51 L st h := R_if_eq d_MTa_number_48 (by decide)
theorem r_MTa_number_51 : Rr X d MTa_number 51 L st h = Rr X d MTa_number 53 L (.int (10) :: st) h := Rr_nx d_MTa_number_51 rfl
theorem r_MTa_number_53 {l0 l1 l3 l4 l5 : Value} {x : Int32} : Rr X d MTa_number 53 [l0, l1, .int x, l3, l4, l5] st h = Rr X d MTa_number 54 [l0, l1, .int x, l3, l4, l5] (.int x :: st) h := Rr_nx d_MTa_number_53 rfl
theorem r_MTa_number_54 {x y : Int32} : Rr X d MTa_number 54 L (.int y :: .int x :: st) h = Rr X d MTa_number 55 L (.int (x * y) :: st) h := Rr_nx d_MTa_number_54 rfl
theorem r_MTa_number_55 {l0 l1 l2 l3 l4 : Value} {x : Int32} : Rr X d MTa_number 55 [l0, l1, l2, l3, l4, .int x] st h = Rr X d MTa_number 57 [l0, l1, l2, l3, l4, .int x] (.int x :: st) h := Rr_nx d_MTa_number_55 rfl
theorem r_MTa_number_57 {x y : Int32} : Rr X d MTa_number 57 L (.int y :: .int x :: st) h = Rr X d MTa_number 58 L (.int (x + y) :: st) h := Rr_nx d_MTa_number_57 rfl
theorem r_MTa_number_58 {l0 l1 l2 l3 l4 l5 : Value} {x : Int32} : Rr X d MTa_number 58 [l0, l1, l2, l3, l4, l5] (.int x :: st) h = Rr X d MTa_number 59 (sL [l0, l1, l2, l3, l4, l5] 2 (.int x)) st h := Rr_nx d_MTa_number_58 rfl
theorem r_MTa_number_59 {l0 l1 l2 l3 l5 : Value} {x : Int32} : Rr X d MTa_number 59 [l0, l1, l2, l3, .int x, l5] st h = Rr X d MTa_number 62 (sL [l0, l1, l2, l3, .int x, l5] 4 (.int (x + (1)))) st h := Rr_nx d_MTa_number_59 rfl
theorem r_MTa_number_62 : Rr X d MTa_number 62 L st h = Rr X d MTa_number 19 L st h := R_goto d_MTa_number_62 (by decide)
theorem r_MTa_number_65 {l0 l1 l3 l4 l5 : Value} {x : Int32} : Rr X d MTa_number 65 [l0, l1, .int x, l3, l4, l5] st h = Rr X d MTa_number 66 [l0, l1, .int x, l3, l4, l5] (.int x :: st) h := Rr_nx d_MTa_number_65 rfl
theorem r_MTa_number_66 {x : Int32} : Rr X d MTa_number 66 L [.int x] h = some (some (.int x), h) := R_ir d_MTa_number_66 rfl
theorem d_MFl_readFrom_0 : decode MFl_readFrom.2.2.1 0 = .ok (.aload_n 0, 1) := lkT_ok tk_MFl_readFrom rfl
theorem d_MFl_readFrom_1 : decode MFl_readFrom.2.2.1 1 = .ok (.iconst 0, 1) := lkT_ok tk_MFl_readFrom rfl
theorem d_MFl_readFrom_2 : decode MFl_readFrom.2.2.1 2 = .ok (.putfield 24, 3) := lkT_ok tk_MFl_readFrom rfl
theorem d_MFl_readFrom_5 : decode MFl_readFrom.2.2.1 5 = .ok (.iconst 1, 1) := lkT_ok tk_MFl_readFrom rfl
theorem d_MFl_readFrom_6 : decode MFl_readFrom.2.2.1 6 = .ok (.istore_n 2, 1) := lkT_ok tk_MFl_readFrom rfl
theorem d_MFl_readFrom_7 : decode MFl_readFrom.2.2.1 7 = .ok (.iconst 0, 1) := lkT_ok tk_MFl_readFrom rfl
theorem d_MFl_readFrom_8 : decode MFl_readFrom.2.2.1 8 = .ok (.istore_n 3, 1) := lkT_ok tk_MFl_readFrom rfl
theorem d_MFl_readFrom_9 : decode MFl_readFrom.2.2.1 9 = .ok (.iload_n 3, 1) := lkT_ok tk_MFl_readFrom rfl
theorem d_MFl_readFrom_10 : decode MFl_readFrom.2.2.1 10 = .ok (.bipush 120, 2) := lkT_ok tk_MFl_readFrom rfl
theorem d_MFl_readFrom_12 : decode MFl_readFrom.2.2.1 12 = .ok (.if_icmp .gt 30, 3) := lkT_ok tk_MFl_readFrom rfl
theorem d_MFl_readFrom_15 : decode MFl_readFrom.2.2.1 15 = .ok (.iload_n 2, 1) := lkT_ok tk_MFl_readFrom rfl
theorem d_MFl_readFrom_16 : decode MFl_readFrom.2.2.1 16 = .ok (.ifCond .eq 26, 3) := lkT_ok tk_MFl_readFrom rfl
theorem d_MFl_readFrom_19 : decode MFl_readFrom.2.2.1 19 = .ok (.aload_n 0, 1) := lkT_ok tk_MFl_readFrom rfl
theorem d_MFl_readFrom_20 : decode MFl_readFrom.2.2.1 20 = .ok (.aload_n 1, 1) := lkT_ok tk_MFl_readFrom rfl
theorem d_MFl_readFrom_21 : decode MFl_readFrom.2.2.1 21 = .ok (.invokevirtual 28, 3) := lkT_ok tk_MFl_readFrom rfl
theorem d_MFl_readFrom_24 : decode MFl_readFrom.2.2.1 24 = .ok (.ifCond .ne 5, 3) := lkT_ok tk_MFl_readFrom rfl
theorem d_MFl_readFrom_27 : decode MFl_readFrom.2.2.1 27 = .ok (.iconst 0, 1) := lkT_ok tk_MFl_readFrom rfl
theorem d_MFl_readFrom_28 : decode MFl_readFrom.2.2.1 28 = .ok (.ireturn, 1) := lkT_ok tk_MFl_readFrom rfl
theorem d_MFl_readFrom_29 : decode MFl_readFrom.2.2.1 29 = .ok (.aload_n 1, 1) := lkT_ok tk_MFl_readFrom rfl
theorem d_MFl_readFrom_30 : decode MFl_readFrom.2.2.1 30 = .ok (.bipush 59, 2) := lkT_ok tk_MFl_readFrom rfl
theorem d_MFl_readFrom_32 : decode MFl_readFrom.2.2.1 32 = .ok (.invokevirtual 32, 3) := lkT_ok tk_MFl_readFrom rfl
theorem d_MFl_readFrom_35 : decode MFl_readFrom.2.2.1 35 = .ok (.istore_n 2, 1) := lkT_ok tk_MFl_readFrom rfl
theorem d_MFl_readFrom_36 : decode MFl_readFrom.2.2.1 36 = .ok (.iinc 3 1, 3) := lkT_ok tk_MFl_readFrom rfl
theorem d_MFl_readFrom_39 : decode MFl_readFrom.2.2.1 39 = .ok (.goto (-30), 3) := lkT_ok tk_MFl_readFrom rfl
theorem d_MFl_readFrom_42 : decode MFl_readFrom.2.2.1 42 = .ok (.aload_n 1, 1) := lkT_ok tk_MFl_readFrom rfl
theorem d_MFl_readFrom_43 : decode MFl_readFrom.2.2.1 43 = .ok (.invokevirtual 36, 3) := lkT_ok tk_MFl_readFrom rfl
theorem d_MFl_readFrom_46 : decode MFl_readFrom.2.2.1 46 = .ok (.ireturn, 1) := lkT_ok tk_MFl_readFrom rfl
theorem r_MFl_readFrom_0 {l1 l2 l3 : Value} {x : Nat} : Rr X d MFl_readFrom 0 [.ref x, l1, l2, l3] st h = Rr X d MFl_readFrom 1 [.ref x, l1, l2, l3] (.ref x :: st) h := Rr_nx d_MFl_readFrom_0 rfl
theorem r_MFl_readFrom_1 : Rr X d MFl_readFrom 1 L st h = Rr X d MFl_readFrom 2 L (.int (0) :: st) h := Rr_nx d_MFl_readFrom_1 rfl
theorem ff_3_24 : fF 3 24 = some (3, 4, 0, 0) := rfl
theorem r_MFl_readFrom_2 {a : Nat} {x : Int32} (hq : qI a 3 4 = true) : Rr X d MFl_readFrom 2 L (.int x :: .ref a :: st) (Wd mu la ro et) = Rr X d MFl_readFrom 5 L st (Wd (up2 mu a 4 x) la ro et) := R_pfI d_MFl_readFrom_2 ff_3_24 hq
theorem r_MFl_readFrom_5 : Rr X d MFl_readFrom 5 L st h = Rr X d MFl_readFrom 6 L (.int (1) :: st) h := Rr_nx d_MFl_readFrom_5 rfl
theorem r_MFl_readFrom_6 {l0 l1 l2 l3 : Value} {x : Int32} : Rr X d MFl_readFrom 6 [l0, l1, l2, l3] (.int x :: st) h = Rr X d MFl_readFrom 7 (sL [l0, l1, l2, l3] 2 (.int x)) st h := Rr_nx d_MFl_readFrom_6 rfl
theorem r_MFl_readFrom_7 : Rr X d MFl_readFrom 7 L st h = Rr X d MFl_readFrom 8 L (.int (0) :: st) h := Rr_nx d_MFl_readFrom_7 rfl
theorem r_MFl_readFrom_8 {l0 l1 l2 l3 : Value} {x : Int32} : Rr X d MFl_readFrom 8 [l0, l1, l2, l3] (.int x :: st) h = Rr X d MFl_readFrom 9 (sL [l0, l1, l2, l3] 3 (.int x)) st h := Rr_nx d_MFl_readFrom_8 rfl
theorem r_MFl_readFrom_9 {l0 l1 l2 : Value} {x : Int32} : Rr X d MFl_readFrom 9 [l0, l1, l2, .int x] st h = Rr X d MFl_readFrom 10 [l0, l1, l2, .int x] (.int x :: st) h := Rr_nx d_MFl_readFrom_9 rfl
theorem r_MFl_readFrom_10 : Rr X d MFl_readFrom 10 L st h = Rr X d MFl_readFrom 12 L (.int (120) :: st) h := Rr_nx d_MFl_readFrom_10 rfl
theorem r_MFl_readFrom_12 {x y : Int32} : Rr X d MFl_readFrom 12 L (.int y :: .int x :: st) h = if y < x then Rr X d MFl_readFrom 42 L st h else Rr X d MFl_readFrom 15 L st h := R_ic_gt d_MFl_readFrom_12 (by decide)
theorem r_MFl_readFrom_15 {l0 l1 l3 : Value} {x : Int32} : Rr X d MFl_readFrom 15 [l0, l1, .int x, l3] st h = Rr X d MFl_readFrom 16 [l0, l1, .int x, l3] (.int x :: st) h := Rr_nx d_MFl_readFrom_15 rfl
theorem r_MFl_readFrom_16 {x : Int32} : Rr X d MFl_readFrom 16 L (.int x :: st) h = if x = 0 then Rr X d MFl_readFrom 42 L st h else Rr X d MFl_readFrom 19 L st h := R_if_eq d_MFl_readFrom_16 (by decide)
theorem r_MFl_readFrom_19 {l1 l2 l3 : Value} {x : Nat} : Rr X d MFl_readFrom 19 [.ref x, l1, l2, l3] st h = Rr X d MFl_readFrom 20 [.ref x, l1, l2, l3] (.ref x :: st) h := Rr_nx d_MFl_readFrom_19 rfl
theorem r_MFl_readFrom_20 {l0 l2 l3 : Value} {x : Nat} : Rr X d MFl_readFrom 20 [l0, .ref x, l2, l3] st h = Rr X d MFl_readFrom 21 [l0, .ref x, l2, l3] (.ref x :: st) h := Rr_nx d_MFl_readFrom_20 rfl
theorem r_MFl_readFrom_20n {l0 l2 l3 : Value} : Rr X d MFl_readFrom 20 [l0, .null, l2, l3] st h = Rr X d MFl_readFrom 21 [l0, .null, l2, l3] (.null :: st) h := Rr_nx d_MFl_readFrom_20 rfl
theorem fc_3_28 : fC 3 28 = some (0, 3, 1, MFl_readLine) := rfl
theorem r_MFl_readFrom_21 {y0 : Nat} {a : Nat} (hO : qO a 3 = true) (hc : ckS st = true) : Rr X (d + 1) MFl_readFrom 21 L (.ref y0 :: .ref a :: st) (Wd mu la ro et) = (Rr X d MFl_readLine 0 [.ref a, .ref y0, mkU] [] (Wd mu la ro et)).bind fun q => Rr X (d + 1) MFl_readFrom 24 L (psh q.1 st) q.2 := R_iv (av := [.ref y0]) d_MFl_readFrom_21 fc_3_28 hO (ckS_le hc) rfl (Nat.le_of_ble_eq_true rfl) (Nat.le_of_ble_eq_true rfl)
theorem r_MFl_readFrom_24 {x : Int32} : Rr X d MFl_readFrom 24 L (.int x :: st) h = if ¬ x = 0 then Rr X d MFl_readFrom 29 L st h else Rr X d MFl_readFrom 27 L st h := R_if_ne d_MFl_readFrom_24 (by decide)
theorem r_MFl_readFrom_27 : Rr X d MFl_readFrom 27 L st h = Rr X d MFl_readFrom 28 L (.int (0) :: st) h := Rr_nx d_MFl_readFrom_27 rfl
theorem r_MFl_readFrom_28 {x : Int32} : Rr X d MFl_readFrom 28 L [.int x] h = if x = 0 ∨ x = 1 then some (some (.int x), h) else none := R_zr d_MFl_readFrom_28 rfl
theorem r_MFl_readFrom_29 {l0 l2 l3 : Value} {x : Nat} : Rr X d MFl_readFrom 29 [l0, .ref x, l2, l3] st h = Rr X d MFl_readFrom 30 [l0, .ref x, l2, l3] (.ref x :: st) h := Rr_nx d_MFl_readFrom_29 rfl
theorem r_MFl_readFrom_29n {l0 l2 l3 : Value} : Rr X d MFl_readFrom 29 [l0, .null, l2, l3] st h = Rr X d MFl_readFrom 30 [l0, .null, l2, l3] (.null :: st) h := Rr_nx d_MFl_readFrom_29 rfl
theorem r_MFl_readFrom_30 : Rr X d MFl_readFrom 30 L st h = Rr X d MFl_readFrom 32 L (.int (59) :: st) h := Rr_nx d_MFl_readFrom_30 rfl
theorem fc_3_32 : fC 3 32 = some (0, 8, 1, MTa_skip) := rfl
theorem r_MFl_readFrom_32 {y0 : Int32} {a : Nat} (hO : qO a 8 = true) (hc : ckS st = true) : Rr X (d + 1) MFl_readFrom 32 L (.int y0 :: .ref a :: st) (Wd mu la ro et) = (Rr X d MTa_skip 0 [.ref a, .int y0] [] (Wd mu la ro et)).bind fun q => Rr X (d + 1) MFl_readFrom 35 L (psh q.1 st) q.2 := R_iv (av := [.int y0]) d_MFl_readFrom_32 fc_3_32 hO (ckS_le hc) rfl (Nat.le_of_ble_eq_true rfl) (Nat.le_of_ble_eq_true rfl)
theorem r_MFl_readFrom_35 {l0 l1 l2 l3 : Value} {x : Int32} : Rr X d MFl_readFrom 35 [l0, l1, l2, l3] (.int x :: st) h = Rr X d MFl_readFrom 36 (sL [l0, l1, l2, l3] 2 (.int x)) st h := Rr_nx d_MFl_readFrom_35 rfl
theorem r_MFl_readFrom_36 {l0 l1 l2 : Value} {x : Int32} : Rr X d MFl_readFrom 36 [l0, l1, l2, .int x] st h = Rr X d MFl_readFrom 39 (sL [l0, l1, l2, .int x] 3 (.int (x + (1)))) st h := Rr_nx d_MFl_readFrom_36 rfl
theorem r_MFl_readFrom_39 : Rr X d MFl_readFrom 39 L st h = Rr X d MFl_readFrom 9 L st h := R_goto d_MFl_readFrom_39 (by decide)
theorem r_MFl_readFrom_42 {l0 l2 l3 : Value} {x : Nat} : Rr X d MFl_readFrom 42 [l0, .ref x, l2, l3] st h = Rr X d MFl_readFrom 43 [l0, .ref x, l2, l3] (.ref x :: st) h := Rr_nx d_MFl_readFrom_42 rfl
theorem r_MFl_readFrom_42n {l0 l2 l3 : Value} : Rr X d MFl_readFrom 42 [l0, .null, l2, l3] st h = Rr X d MFl_readFrom 43 [l0, .null, l2, l3] (.null :: st) h := Rr_nx d_MFl_readFrom_42 rfl
theorem fc_3_36 : fC 3 36 = some (0, 8, 0, MTa_isAtEnd) := rfl
theorem r_MFl_readFrom_43 {a : Nat} (hO : qO a 8 = true) (hc : ckS st = true) : Rr X (d + 1) MFl_readFrom 43 L (.ref a :: st) (Wd mu la ro et) = (Rr X d MTa_isAtEnd 0 [.ref a] [] (Wd mu la ro et)).bind fun q => Rr X (d + 1) MFl_readFrom 46 L (psh q.1 st) q.2 := R_iv (av := []) d_MFl_readFrom_43 fc_3_36 hO (ckS_le hc) rfl (Nat.le_of_ble_eq_true rfl) (Nat.le_of_ble_eq_true rfl)
theorem r_MFl_readFrom_46 {x : Int32} : Rr X d MFl_readFrom 46 L [.int x] h = if x = 0 ∨ x = 1 then some (some (.int x), h) else none := R_zr d_MFl_readFrom_46 rfl
theorem d_MFl_readLine_0 : decode MFl_readLine.2.2.1 0 = .ok (.aload_n 0, 1) := lkT_ok tk_MFl_readLine rfl
theorem d_MFl_readLine_1 : decode MFl_readLine.2.2.1 1 = .ok (.aload_n 1, 1) := lkT_ok tk_MFl_readLine rfl
theorem d_MFl_readLine_2 : decode MFl_readLine.2.2.1 2 = .ok (.iconst 0, 1) := lkT_ok tk_MFl_readLine rfl
theorem d_MFl_readLine_3 : decode MFl_readLine.2.2.1 3 = .ok (.iconst 0, 1) := lkT_ok tk_MFl_readLine rfl
theorem d_MFl_readLine_4 : decode MFl_readLine.2.2.1 4 = .ok (.invokevirtual 40, 3) := lkT_ok tk_MFl_readLine rfl
theorem d_MFl_readLine_7 : decode MFl_readLine.2.2.1 7 = .ok (.istore_n 2, 1) := lkT_ok tk_MFl_readLine rfl
theorem d_MFl_readLine_8 : decode MFl_readLine.2.2.1 8 = .ok (.iload_n 2, 1) := lkT_ok tk_MFl_readLine rfl
theorem d_MFl_readLine_9 : decode MFl_readLine.2.2.1 9 = .ok (.iconst (-1), 1) := lkT_ok tk_MFl_readLine rfl
theorem d_MFl_readLine_10 : decode MFl_readLine.2.2.1 10 = .ok (.if_icmp .eq 28, 3) := lkT_ok tk_MFl_readLine rfl
theorem d_MFl_readLine_13 : decode MFl_readLine.2.2.1 13 = .ok (.aload_n 1, 1) := lkT_ok tk_MFl_readLine rfl
theorem d_MFl_readLine_14 : decode MFl_readLine.2.2.1 14 = .ok (.bipush 63, 2) := lkT_ok tk_MFl_readLine rfl
theorem d_MFl_readLine_16 : decode MFl_readLine.2.2.1 16 = .ok (.invokevirtual 32, 3) := lkT_ok tk_MFl_readLine rfl
theorem d_MFl_readLine_19 : decode MFl_readLine.2.2.1 19 = .ok (.ifCond .eq 19, 3) := lkT_ok tk_MFl_readLine rfl
theorem d_MFl_readLine_22 : decode MFl_readLine.2.2.1 22 = .ok (.aload_n 0, 1) := lkT_ok tk_MFl_readLine rfl
theorem d_MFl_readLine_23 : decode MFl_readLine.2.2.1 23 = .ok (.iconst 3, 1) := lkT_ok tk_MFl_readLine rfl
theorem d_MFl_readLine_24 : decode MFl_readLine.2.2.1 24 = .ok (.iload_n 2, 1) := lkT_ok tk_MFl_readLine rfl
theorem d_MFl_readLine_25 : decode MFl_readLine.2.2.1 25 = .ok (.iconst (-1), 1) := lkT_ok tk_MFl_readLine rfl
theorem d_MFl_readLine_26 : decode MFl_readLine.2.2.1 26 = .ok (.invokevirtual 44, 3) := lkT_ok tk_MFl_readLine rfl
theorem d_MFl_readLine_29 : decode MFl_readLine.2.2.1 29 = .ok (.pop, 1) := lkT_ok tk_MFl_readLine rfl
theorem d_MFl_readLine_30 : decode MFl_readLine.2.2.1 30 = .ok (.aload_n 0, 1) := lkT_ok tk_MFl_readLine rfl
theorem d_MFl_readLine_31 : decode MFl_readLine.2.2.1 31 = .ok (.aload_n 1, 1) := lkT_ok tk_MFl_readLine rfl
theorem d_MFl_readLine_32 : decode MFl_readLine.2.2.1 32 = .ok (.iconst 0, 1) := lkT_ok tk_MFl_readLine rfl
theorem d_MFl_readLine_33 : decode MFl_readLine.2.2.1 33 = .ok (.iconst 0, 1) := lkT_ok tk_MFl_readLine rfl
theorem d_MFl_readLine_34 : decode MFl_readLine.2.2.1 34 = .ok (.invokevirtual 40, 3) := lkT_ok tk_MFl_readLine rfl
theorem d_MFl_readLine_37 : decode MFl_readLine.2.2.1 37 = .ok (.istore_n 2, 1) := lkT_ok tk_MFl_readLine rfl
theorem d_MFl_readLine_38 : decode MFl_readLine.2.2.1 38 = .ok (.aload_n 0, 1) := lkT_ok tk_MFl_readLine rfl
theorem d_MFl_readLine_39 : decode MFl_readLine.2.2.1 39 = .ok (.iconst 4, 1) := lkT_ok tk_MFl_readLine rfl
theorem d_MFl_readLine_40 : decode MFl_readLine.2.2.1 40 = .ok (.iload_n 2, 1) := lkT_ok tk_MFl_readLine rfl
theorem d_MFl_readLine_41 : decode MFl_readLine.2.2.1 41 = .ok (.iconst (-1), 1) := lkT_ok tk_MFl_readLine rfl
theorem d_MFl_readLine_42 : decode MFl_readLine.2.2.1 42 = .ok (.invokevirtual 44, 3) := lkT_ok tk_MFl_readLine rfl
theorem d_MFl_readLine_45 : decode MFl_readLine.2.2.1 45 = .ok (.pop, 1) := lkT_ok tk_MFl_readLine rfl
theorem d_MFl_readLine_46 : decode MFl_readLine.2.2.1 46 = .ok (.iload_n 2, 1) := lkT_ok tk_MFl_readLine rfl
theorem d_MFl_readLine_47 : decode MFl_readLine.2.2.1 47 = .ok (.iconst (-1), 1) := lkT_ok tk_MFl_readLine rfl
theorem d_MFl_readLine_48 : decode MFl_readLine.2.2.1 48 = .ok (.if_icmp .eq 7, 3) := lkT_ok tk_MFl_readLine rfl
theorem d_MFl_readLine_51 : decode MFl_readLine.2.2.1 51 = .ok (.iconst 1, 1) := lkT_ok tk_MFl_readLine rfl
theorem d_MFl_readLine_52 : decode MFl_readLine.2.2.1 52 = .ok (.goto 4, 3) := lkT_ok tk_MFl_readLine rfl
theorem d_MFl_readLine_55 : decode MFl_readLine.2.2.1 55 = .ok (.iconst 0, 1) := lkT_ok tk_MFl_readLine rfl
theorem d_MFl_readLine_56 : decode MFl_readLine.2.2.1 56 = .ok (.ireturn, 1) := lkT_ok tk_MFl_readLine rfl
theorem r_MFl_readLine_0 {l1 l2 : Value} {x : Nat} : Rr X d MFl_readLine 0 [.ref x, l1, l2] st h = Rr X d MFl_readLine 1 [.ref x, l1, l2] (.ref x :: st) h := Rr_nx d_MFl_readLine_0 rfl
theorem r_MFl_readLine_1 {l0 l2 : Value} {x : Nat} : Rr X d MFl_readLine 1 [l0, .ref x, l2] st h = Rr X d MFl_readLine 2 [l0, .ref x, l2] (.ref x :: st) h := Rr_nx d_MFl_readLine_1 rfl
theorem r_MFl_readLine_1n {l0 l2 : Value} : Rr X d MFl_readLine 1 [l0, .null, l2] st h = Rr X d MFl_readLine 2 [l0, .null, l2] (.null :: st) h := Rr_nx d_MFl_readLine_1 rfl
theorem r_MFl_readLine_2 : Rr X d MFl_readLine 2 L st h = Rr X d MFl_readLine 3 L (.int (0) :: st) h := Rr_nx d_MFl_readLine_2 rfl
theorem r_MFl_readLine_3 : Rr X d MFl_readLine 3 L st h = Rr X d MFl_readLine 4 L (.int (0) :: st) h := Rr_nx d_MFl_readLine_3 rfl
theorem fc_3_40 : fC 3 40 = some (0, 3, 3, MFl_readJoined) := rfl
theorem r_MFl_readLine_4 {y0 : Nat} {y1 : Int32} {y2 : Int32} {a : Nat} (hO : qO a 3 = true) (hc : ckS st = true) : Rr X (d + 1) MFl_readLine 4 L (.int y2 :: .int y1 :: .ref y0 :: .ref a :: st) (Wd mu la ro et) = (Rr X d MFl_readJoined 0 [.ref a, .ref y0, .int y1, .int y2, mkU, mkU, mkU, mkU, mkU] [] (Wd mu la ro et)).bind fun q => Rr X (d + 1) MFl_readLine 7 L (psh q.1 st) q.2 := R_iv (av := [.int y2, .int y1, .ref y0]) d_MFl_readLine_4 fc_3_40 hO (ckS_le hc) rfl (Nat.le_of_ble_eq_true rfl) (Nat.le_of_ble_eq_true rfl)
theorem r_MFl_readLine_7 {l0 l1 l2 : Value} {x : Int32} : Rr X d MFl_readLine 7 [l0, l1, l2] (.int x :: st) h = Rr X d MFl_readLine 8 (sL [l0, l1, l2] 2 (.int x)) st h := Rr_nx d_MFl_readLine_7 rfl
theorem r_MFl_readLine_8 {l0 l1 : Value} {x : Int32} : Rr X d MFl_readLine 8 [l0, l1, .int x] st h = Rr X d MFl_readLine 9 [l0, l1, .int x] (.int x :: st) h := Rr_nx d_MFl_readLine_8 rfl
theorem r_MFl_readLine_9 : Rr X d MFl_readLine 9 L st h = Rr X d MFl_readLine 10 L (.int (-1) :: st) h := Rr_nx d_MFl_readLine_9 rfl
theorem r_MFl_readLine_10 {x y : Int32} : Rr X d MFl_readLine 10 L (.int y :: .int x :: st) h = if x = y then Rr X d MFl_readLine 38 L st h else Rr X d MFl_readLine 13 L st h := R_ic_eq d_MFl_readLine_10 (by decide)
theorem r_MFl_readLine_13 {l0 l2 : Value} {x : Nat} : Rr X d MFl_readLine 13 [l0, .ref x, l2] st h = Rr X d MFl_readLine 14 [l0, .ref x, l2] (.ref x :: st) h := Rr_nx d_MFl_readLine_13 rfl
theorem r_MFl_readLine_13n {l0 l2 : Value} : Rr X d MFl_readLine 13 [l0, .null, l2] st h = Rr X d MFl_readLine 14 [l0, .null, l2] (.null :: st) h := Rr_nx d_MFl_readLine_13 rfl
theorem r_MFl_readLine_14 : Rr X d MFl_readLine 14 L st h = Rr X d MFl_readLine 16 L (.int (63) :: st) h := Rr_nx d_MFl_readLine_14 rfl
theorem r_MFl_readLine_16 {y0 : Int32} {a : Nat} (hO : qO a 8 = true) (hc : ckS st = true) : Rr X (d + 1) MFl_readLine 16 L (.int y0 :: .ref a :: st) (Wd mu la ro et) = (Rr X d MTa_skip 0 [.ref a, .int y0] [] (Wd mu la ro et)).bind fun q => Rr X (d + 1) MFl_readLine 19 L (psh q.1 st) q.2 := R_iv (av := [.int y0]) d_MFl_readLine_16 fc_3_32 hO (ckS_le hc) rfl (Nat.le_of_ble_eq_true rfl) (Nat.le_of_ble_eq_true rfl)
theorem r_MFl_readLine_19 {x : Int32} : Rr X d MFl_readLine 19 L (.int x :: st) h = if x = 0 then Rr X d MFl_readLine 38 L st h else Rr X d MFl_readLine 22 L st h := R_if_eq d_MFl_readLine_19 (by decide)
theorem r_MFl_readLine_22 {l1 l2 : Value} {x : Nat} : Rr X d MFl_readLine 22 [.ref x, l1, l2] st h = Rr X d MFl_readLine 23 [.ref x, l1, l2] (.ref x :: st) h := Rr_nx d_MFl_readLine_22 rfl
theorem r_MFl_readLine_23 : Rr X d MFl_readLine 23 L st h = Rr X d MFl_readLine 24 L (.int (3) :: st) h := Rr_nx d_MFl_readLine_23 rfl
theorem r_MFl_readLine_24 {l0 l1 : Value} {x : Int32} : Rr X d MFl_readLine 24 [l0, l1, .int x] st h = Rr X d MFl_readLine 25 [l0, l1, .int x] (.int x :: st) h := Rr_nx d_MFl_readLine_24 rfl
theorem r_MFl_readLine_25 : Rr X d MFl_readLine 25 L st h = Rr X d MFl_readLine 26 L (.int (-1) :: st) h := Rr_nx d_MFl_readLine_25 rfl
theorem fc_3_44 : fC 3 44 = some (0, 3, 3, MFl_append) := rfl
theorem r_MFl_readLine_26 {y0 : Int32} {y1 : Int32} {y2 : Int32} {a : Nat} (hO : qO a 3 = true) (hc : ckS st = true) : Rr X (d + 1) MFl_readLine 26 L (.int y2 :: .int y1 :: .int y0 :: .ref a :: st) (Wd mu la ro et) = (Rr X d MFl_append 0 [.ref a, .int y0, .int y1, .int y2] [] (Wd mu la ro et)).bind fun q => Rr X (d + 1) MFl_readLine 29 L (psh q.1 st) q.2 := R_iv (av := [.int y2, .int y1, .int y0]) d_MFl_readLine_26 fc_3_44 hO (ckS_le hc) rfl (Nat.le_of_ble_eq_true rfl) (Nat.le_of_ble_eq_true rfl)
theorem r_MFl_readLine_29 {x : Int32} : Rr X d MFl_readLine 29 L (.int x :: st) h = Rr X d MFl_readLine 30 L st h := Rr_nx d_MFl_readLine_29 rfl
theorem r_MFl_readLine_30 {l1 l2 : Value} {x : Nat} : Rr X d MFl_readLine 30 [.ref x, l1, l2] st h = Rr X d MFl_readLine 31 [.ref x, l1, l2] (.ref x :: st) h := Rr_nx d_MFl_readLine_30 rfl
theorem r_MFl_readLine_31 {l0 l2 : Value} {x : Nat} : Rr X d MFl_readLine 31 [l0, .ref x, l2] st h = Rr X d MFl_readLine 32 [l0, .ref x, l2] (.ref x :: st) h := Rr_nx d_MFl_readLine_31 rfl
theorem r_MFl_readLine_31n {l0 l2 : Value} : Rr X d MFl_readLine 31 [l0, .null, l2] st h = Rr X d MFl_readLine 32 [l0, .null, l2] (.null :: st) h := Rr_nx d_MFl_readLine_31 rfl
theorem r_MFl_readLine_32 : Rr X d MFl_readLine 32 L st h = Rr X d MFl_readLine 33 L (.int (0) :: st) h := Rr_nx d_MFl_readLine_32 rfl
theorem r_MFl_readLine_33 : Rr X d MFl_readLine 33 L st h = Rr X d MFl_readLine 34 L (.int (0) :: st) h := Rr_nx d_MFl_readLine_33 rfl
theorem r_MFl_readLine_34 {y0 : Nat} {y1 : Int32} {y2 : Int32} {a : Nat} (hO : qO a 3 = true) (hc : ckS st = true) : Rr X (d + 1) MFl_readLine 34 L (.int y2 :: .int y1 :: .ref y0 :: .ref a :: st) (Wd mu la ro et) = (Rr X d MFl_readJoined 0 [.ref a, .ref y0, .int y1, .int y2, mkU, mkU, mkU, mkU, mkU] [] (Wd mu la ro et)).bind fun q => Rr X (d + 1) MFl_readLine 37 L (psh q.1 st) q.2 := R_iv (av := [.int y2, .int y1, .ref y0]) d_MFl_readLine_34 fc_3_40 hO (ckS_le hc) rfl (Nat.le_of_ble_eq_true rfl) (Nat.le_of_ble_eq_true rfl)
theorem r_MFl_readLine_37 {l0 l1 l2 : Value} {x : Int32} : Rr X d MFl_readLine 37 [l0, l1, l2] (.int x :: st) h = Rr X d MFl_readLine 38 (sL [l0, l1, l2] 2 (.int x)) st h := Rr_nx d_MFl_readLine_37 rfl
theorem r_MFl_readLine_38 {l1 l2 : Value} {x : Nat} : Rr X d MFl_readLine 38 [.ref x, l1, l2] st h = Rr X d MFl_readLine 39 [.ref x, l1, l2] (.ref x :: st) h := Rr_nx d_MFl_readLine_38 rfl
theorem r_MFl_readLine_39 : Rr X d MFl_readLine 39 L st h = Rr X d MFl_readLine 40 L (.int (4) :: st) h := Rr_nx d_MFl_readLine_39 rfl
theorem r_MFl_readLine_40 {l0 l1 : Value} {x : Int32} : Rr X d MFl_readLine 40 [l0, l1, .int x] st h = Rr X d MFl_readLine 41 [l0, l1, .int x] (.int x :: st) h := Rr_nx d_MFl_readLine_40 rfl
theorem r_MFl_readLine_41 : Rr X d MFl_readLine 41 L st h = Rr X d MFl_readLine 42 L (.int (-1) :: st) h := Rr_nx d_MFl_readLine_41 rfl
theorem r_MFl_readLine_42 {y0 : Int32} {y1 : Int32} {y2 : Int32} {a : Nat} (hO : qO a 3 = true) (hc : ckS st = true) : Rr X (d + 1) MFl_readLine 42 L (.int y2 :: .int y1 :: .int y0 :: .ref a :: st) (Wd mu la ro et) = (Rr X d MFl_append 0 [.ref a, .int y0, .int y1, .int y2] [] (Wd mu la ro et)).bind fun q => Rr X (d + 1) MFl_readLine 45 L (psh q.1 st) q.2 := R_iv (av := [.int y2, .int y1, .int y0]) d_MFl_readLine_42 fc_3_44 hO (ckS_le hc) rfl (Nat.le_of_ble_eq_true rfl) (Nat.le_of_ble_eq_true rfl)
theorem r_MFl_readLine_45 {x : Int32} : Rr X d MFl_readLine 45 L (.int x :: st) h = Rr X d MFl_readLine 46 L st h := Rr_nx d_MFl_readLine_45 rfl
theorem r_MFl_readLine_46 {l0 l1 : Value} {x : Int32} : Rr X d MFl_readLine 46 [l0, l1, .int x] st h = Rr X d MFl_readLine 47 [l0, l1, .int x] (.int x :: st) h := Rr_nx d_MFl_readLine_46 rfl
theorem r_MFl_readLine_47 : Rr X d MFl_readLine 47 L st h = Rr X d MFl_readLine 48 L (.int (-1) :: st) h := Rr_nx d_MFl_readLine_47 rfl
theorem r_MFl_readLine_48 {x y : Int32} : Rr X d MFl_readLine 48 L (.int y :: .int x :: st) h = if x = y then Rr X d MFl_readLine 55 L st h else Rr X d MFl_readLine 51 L st h := R_ic_eq d_MFl_readLine_48 (by decide)
theorem r_MFl_readLine_51 : Rr X d MFl_readLine 51 L st h = Rr X d MFl_readLine 52 L (.int (1) :: st) h := Rr_nx d_MFl_readLine_51 rfl
theorem r_MFl_readLine_52 : Rr X d MFl_readLine 52 L st h = Rr X d MFl_readLine 56 L st h := R_goto d_MFl_readLine_52 (by decide)
theorem r_MFl_readLine_55 : Rr X d MFl_readLine 55 L st h = Rr X d MFl_readLine 56 L (.int (0) :: st) h := Rr_nx d_MFl_readLine_55 rfl
theorem r_MFl_readLine_56 {x : Int32} : Rr X d MFl_readLine 56 L [.int x] h = if x = 0 ∨ x = 1 then some (some (.int x), h) else none := R_zr d_MFl_readLine_56 rfl
theorem d_MFl_readJoined_0 : decode MFl_readJoined.2.2.1 0 = .ok (.iload_n 2, 1) := lkT_ok tk_MFl_readJoined rfl
theorem d_MFl_readJoined_1 : decode MFl_readJoined.2.2.1 1 = .ok (.iconst 4, 1) := lkT_ok tk_MFl_readJoined rfl
theorem d_MFl_readJoined_2 : decode MFl_readJoined.2.2.1 2 = .ok (.if_icmp .le 10, 3) := lkT_ok tk_MFl_readJoined rfl
theorem d_MFl_readJoined_5 : decode MFl_readJoined.2.2.1 5 = .ok (.aload_n 0, 1) := lkT_ok tk_MFl_readJoined rfl
theorem d_MFl_readJoined_6 : decode MFl_readJoined.2.2.1 6 = .ok (.aload_n 1, 1) := lkT_ok tk_MFl_readJoined rfl
theorem d_MFl_readJoined_7 : decode MFl_readJoined.2.2.1 7 = .ok (.iload_n 3, 1) := lkT_ok tk_MFl_readJoined rfl
theorem d_MFl_readJoined_8 : decode MFl_readJoined.2.2.1 8 = .ok (.invokevirtual 48, 3) := lkT_ok tk_MFl_readJoined rfl
theorem d_MFl_readJoined_11 : decode MFl_readJoined.2.2.1 11 = .ok (.ireturn, 1) := lkT_ok tk_MFl_readJoined rfl
theorem d_MFl_readJoined_12 : decode MFl_readJoined.2.2.1 12 = .ok (.aload_n 0, 1) := lkT_ok tk_MFl_readJoined rfl
theorem d_MFl_readJoined_13 : decode MFl_readJoined.2.2.1 13 = .ok (.aload_n 1, 1) := lkT_ok tk_MFl_readJoined rfl
theorem d_MFl_readJoined_14 : decode MFl_readJoined.2.2.1 14 = .ok (.iload_n 2, 1) := lkT_ok tk_MFl_readJoined rfl
theorem d_MFl_readJoined_15 : decode MFl_readJoined.2.2.1 15 = .ok (.iconst 1, 1) := lkT_ok tk_MFl_readJoined rfl
theorem d_MFl_readJoined_16 : decode MFl_readJoined.2.2.1 16 = .ok (.iadd, 1) := lkT_ok tk_MFl_readJoined rfl
theorem d_MFl_readJoined_17 : decode MFl_readJoined.2.2.1 17 = .ok (.iload_n 3, 1) := lkT_ok tk_MFl_readJoined rfl
theorem d_MFl_readJoined_18 : decode MFl_readJoined.2.2.1 18 = .ok (.invokevirtual 40, 3) := lkT_ok tk_MFl_readJoined rfl
theorem d_MFl_readJoined_21 : decode MFl_readJoined.2.2.1 21 = .ok (.istore 4, 2) := lkT_ok tk_MFl_readJoined rfl
theorem d_MFl_readJoined_23 : decode MFl_readJoined.2.2.1 23 = .ok (.iload_n 2, 1) := lkT_ok tk_MFl_readJoined rfl
theorem d_MFl_readJoined_24 : decode MFl_readJoined.2.2.1 24 = .ok (.iconst 2, 1) := lkT_ok tk_MFl_readJoined rfl
theorem d_MFl_readJoined_25 : decode MFl_readJoined.2.2.1 25 = .ok (.if_icmp .ne 7, 3) := lkT_ok tk_MFl_readJoined rfl
theorem d_MFl_readJoined_28 : decode MFl_readJoined.2.2.1 28 = .ok (.iconst 1, 1) := lkT_ok tk_MFl_readJoined rfl
theorem d_MFl_readJoined_29 : decode MFl_readJoined.2.2.1 29 = .ok (.goto 5, 3) := lkT_ok tk_MFl_readJoined rfl
theorem d_MFl_readJoined_32 : decode MFl_readJoined.2.2.1 32 = .ok (.bipush 120, 2) := lkT_ok tk_MFl_readJoined rfl
theorem d_MFl_readJoined_34 : decode MFl_readJoined.2.2.1 34 = .ok (.istore 5, 2) := lkT_ok tk_MFl_readJoined rfl
theorem d_MFl_readJoined_36 : decode MFl_readJoined.2.2.1 36 = .ok (.iconst 0, 1) := lkT_ok tk_MFl_readJoined rfl
theorem d_MFl_readJoined_37 : decode MFl_readJoined.2.2.1 37 = .ok (.istore 6, 2) := lkT_ok tk_MFl_readJoined rfl
theorem d_MFl_readJoined_39 : decode MFl_readJoined.2.2.1 39 = .ok (.iload 6, 2) := lkT_ok tk_MFl_readJoined rfl
theorem d_MFl_readJoined_41 : decode MFl_readJoined.2.2.1 41 = .ok (.iload 5, 2) := lkT_ok tk_MFl_readJoined rfl
theorem d_MFl_readJoined_43 : decode MFl_readJoined.2.2.1 43 = .ok (.if_icmp .ge 72, 3) := lkT_ok tk_MFl_readJoined rfl
theorem d_MFl_readJoined_46 : decode MFl_readJoined.2.2.1 46 = .ok (.iload 4, 2) := lkT_ok tk_MFl_readJoined rfl
theorem d_MFl_readJoined_48 : decode MFl_readJoined.2.2.1 48 = .ok (.iconst (-1), 1) := lkT_ok tk_MFl_readJoined rfl
theorem d_MFl_readJoined_49 : decode MFl_readJoined.2.2.1 49 = .ok (.if_icmp .eq 66, 3) := lkT_ok tk_MFl_readJoined rfl
theorem d_MFl_readJoined_52 : decode MFl_readJoined.2.2.1 52 = .ok (.aload_n 1, 1) := lkT_ok tk_MFl_readJoined rfl
theorem d_MFl_readJoined_53 : decode MFl_readJoined.2.2.1 53 = .ok (.invokevirtual 52, 3) := lkT_ok tk_MFl_readJoined rfl
theorem d_MFl_readJoined_56 : decode MFl_readJoined.2.2.1 56 = .ok (.invokestatic 56, 3) := lkT_ok tk_MFl_readJoined rfl
theorem d_MFl_readJoined_59 : decode MFl_readJoined.2.2.1 59 = .ok (.iload_n 2, 1) := lkT_ok tk_MFl_readJoined rfl
theorem d_MFl_readJoined_60 : decode MFl_readJoined.2.2.1 60 = .ok (.if_icmp .ne 55, 3) := lkT_ok tk_MFl_readJoined rfl
theorem d_MFl_readJoined_63 : decode MFl_readJoined.2.2.1 63 = .ok (.aload_n 1, 1) := lkT_ok tk_MFl_readJoined rfl
theorem d_MFl_readJoined_64 : decode MFl_readJoined.2.2.1 64 = .ok (.invokevirtual 52, 3) := lkT_ok tk_MFl_readJoined rfl
theorem d_MFl_readJoined_67 : decode MFl_readJoined.2.2.1 67 = .ok (.istore 7, 2) := lkT_ok tk_MFl_readJoined rfl
theorem d_MFl_readJoined_69 : decode MFl_readJoined.2.2.1 69 = .ok (.aload_n 1, 1) := lkT_ok tk_MFl_readJoined rfl
theorem d_MFl_readJoined_70 : decode MFl_readJoined.2.2.1 70 = .ok (.iload 7, 2) := lkT_ok tk_MFl_readJoined rfl
theorem d_MFl_readJoined_72 : decode MFl_readJoined.2.2.1 72 = .ok (.invokevirtual 32, 3) := lkT_ok tk_MFl_readJoined rfl
theorem d_MFl_readJoined_75 : decode MFl_readJoined.2.2.1 75 = .ok (.pop, 1) := lkT_ok tk_MFl_readJoined rfl
theorem d_MFl_readJoined_76 : decode MFl_readJoined.2.2.1 76 = .ok (.aload_n 0, 1) := lkT_ok tk_MFl_readJoined rfl
theorem d_MFl_readJoined_77 : decode MFl_readJoined.2.2.1 77 = .ok (.aload_n 1, 1) := lkT_ok tk_MFl_readJoined rfl
theorem d_MFl_readJoined_78 : decode MFl_readJoined.2.2.1 78 = .ok (.iload_n 2, 1) := lkT_ok tk_MFl_readJoined rfl
theorem d_MFl_readJoined_79 : decode MFl_readJoined.2.2.1 79 = .ok (.iconst 1, 1) := lkT_ok tk_MFl_readJoined rfl
theorem d_MFl_readJoined_80 : decode MFl_readJoined.2.2.1 80 = .ok (.iadd, 1) := lkT_ok tk_MFl_readJoined rfl
theorem d_MFl_readJoined_81 : decode MFl_readJoined.2.2.1 81 = .ok (.iload_n 3, 1) := lkT_ok tk_MFl_readJoined rfl
theorem d_MFl_readJoined_82 : decode MFl_readJoined.2.2.1 82 = .ok (.invokevirtual 40, 3) := lkT_ok tk_MFl_readJoined rfl
theorem d_MFl_readJoined_85 : decode MFl_readJoined.2.2.1 85 = .ok (.istore 8, 2) := lkT_ok tk_MFl_readJoined rfl
theorem d_MFl_readJoined_87 : decode MFl_readJoined.2.2.1 87 = .ok (.iload 8, 2) := lkT_ok tk_MFl_readJoined rfl
theorem d_MFl_readJoined_89 : decode MFl_readJoined.2.2.1 89 = .ok (.iconst (-1), 1) := lkT_ok tk_MFl_readJoined rfl
theorem d_MFl_readJoined_90 : decode MFl_readJoined.2.2.1 90 = .ok (.if_icmp .ne 7, 3) := lkT_ok tk_MFl_readJoined rfl
theorem d_MFl_readJoined_93 : decode MFl_readJoined.2.2.1 93 = .ok (.iconst (-1), 1) := lkT_ok tk_MFl_readJoined rfl
theorem d_MFl_readJoined_94 : decode MFl_readJoined.2.2.1 94 = .ok (.goto 13, 3) := lkT_ok tk_MFl_readJoined rfl
theorem d_MFl_readJoined_97 : decode MFl_readJoined.2.2.1 97 = .ok (.aload_n 0, 1) := lkT_ok tk_MFl_readJoined rfl
theorem d_MFl_readJoined_98 : decode MFl_readJoined.2.2.1 98 = .ok (.iload 7, 2) := lkT_ok tk_MFl_readJoined rfl
theorem d_MFl_readJoined_100 : decode MFl_readJoined.2.2.1 100 = .ok (.iload 4, 2) := lkT_ok tk_MFl_readJoined rfl
theorem d_MFl_readJoined_102 : decode MFl_readJoined.2.2.1 102 = .ok (.iload 8, 2) := lkT_ok tk_MFl_readJoined rfl
theorem d_MFl_readJoined_104 : decode MFl_readJoined.2.2.1 104 = .ok (.invokevirtual 44, 3) := lkT_ok tk_MFl_readJoined rfl
theorem d_MFl_readJoined_107 : decode MFl_readJoined.2.2.1 107 = .ok (.istore 4, 2) := lkT_ok tk_MFl_readJoined rfl
theorem d_MFl_readJoined_109 : decode MFl_readJoined.2.2.1 109 = .ok (.iinc 6 1, 3) := lkT_ok tk_MFl_readJoined rfl
theorem d_MFl_readJoined_112 : decode MFl_readJoined.2.2.1 112 = .ok (.goto (-73), 3) := lkT_ok tk_MFl_readJoined rfl
theorem d_MFl_readJoined_115 : decode MFl_readJoined.2.2.1 115 = .ok (.iload 4, 2) := lkT_ok tk_MFl_readJoined rfl
theorem d_MFl_readJoined_117 : decode MFl_readJoined.2.2.1 117 = .ok (.ireturn, 1) := lkT_ok tk_MFl_readJoined rfl
theorem r_MFl_readJoined_0 {l0 l1 l3 l4 l5 l6 l7 l8 : Value} {x : Int32} : Rr X d MFl_readJoined 0 [l0, l1, .int x, l3, l4, l5, l6, l7, l8] st h = Rr X d MFl_readJoined 1 [l0, l1, .int x, l3, l4, l5, l6, l7, l8] (.int x :: st) h := Rr_nx d_MFl_readJoined_0 rfl
theorem r_MFl_readJoined_1 : Rr X d MFl_readJoined 1 L st h = Rr X d MFl_readJoined 2 L (.int (4) :: st) h := Rr_nx d_MFl_readJoined_1 rfl
theorem r_MFl_readJoined_2 {x y : Int32} : Rr X d MFl_readJoined 2 L (.int y :: .int x :: st) h = if x ≤ y then Rr X d MFl_readJoined 12 L st h else Rr X d MFl_readJoined 5 L st h := R_ic_le d_MFl_readJoined_2 (by decide)
theorem r_MFl_readJoined_5 {l1 l2 l3 l4 l5 l6 l7 l8 : Value} {x : Nat} : Rr X d MFl_readJoined 5 [.ref x, l1, l2, l3, l4, l5, l6, l7, l8] st h = Rr X d MFl_readJoined 6 [.ref x, l1, l2, l3, l4, l5, l6, l7, l8] (.ref x :: st) h := Rr_nx d_MFl_readJoined_5 rfl
theorem r_MFl_readJoined_6 {l0 l2 l3 l4 l5 l6 l7 l8 : Value} {x : Nat} : Rr X d MFl_readJoined 6 [l0, .ref x, l2, l3, l4, l5, l6, l7, l8] st h = Rr X d MFl_readJoined 7 [l0, .ref x, l2, l3, l4, l5, l6, l7, l8] (.ref x :: st) h := Rr_nx d_MFl_readJoined_6 rfl
theorem r_MFl_readJoined_6n {l0 l2 l3 l4 l5 l6 l7 l8 : Value} : Rr X d MFl_readJoined 6 [l0, .null, l2, l3, l4, l5, l6, l7, l8] st h = Rr X d MFl_readJoined 7 [l0, .null, l2, l3, l4, l5, l6, l7, l8] (.null :: st) h := Rr_nx d_MFl_readJoined_6 rfl
theorem r_MFl_readJoined_7 {l0 l1 l2 l4 l5 l6 l7 l8 : Value} {x : Int32} : Rr X d MFl_readJoined 7 [l0, l1, l2, .int x, l4, l5, l6, l7, l8] st h = Rr X d MFl_readJoined 8 [l0, l1, l2, .int x, l4, l5, l6, l7, l8] (.int x :: st) h := Rr_nx d_MFl_readJoined_7 rfl
theorem fc_3_48 : fC 3 48 = some (0, 3, 2, MFl_readOne) := rfl
theorem r_MFl_readJoined_8 {y0 : Nat} {y1 : Int32} {a : Nat} (hO : qO a 3 = true) (hc : ckS st = true) : Rr X (d + 1) MFl_readJoined 8 L (.int y1 :: .ref y0 :: .ref a :: st) (Wd mu la ro et) = (Rr X d MFl_readOne 0 [.ref a, .ref y0, .int y1, mkU, mkU] [] (Wd mu la ro et)).bind fun q => Rr X (d + 1) MFl_readJoined 11 L (psh q.1 st) q.2 := R_iv (av := [.int y1, .ref y0]) d_MFl_readJoined_8 fc_3_48 hO (ckS_le hc) rfl (Nat.le_of_ble_eq_true rfl) (Nat.le_of_ble_eq_true rfl)
theorem r_MFl_readJoined_11 {x : Int32} : Rr X d MFl_readJoined 11 L [.int x] h = some (some (.int x), h) := R_ir d_MFl_readJoined_11 rfl
theorem r_MFl_readJoined_12 {l1 l2 l3 l4 l5 l6 l7 l8 : Value} {x : Nat} : Rr X d MFl_readJoined 12 [.ref x, l1, l2, l3, l4, l5, l6, l7, l8] st h = Rr X d MFl_readJoined 13 [.ref x, l1, l2, l3, l4, l5, l6, l7, l8] (.ref x :: st) h := Rr_nx d_MFl_readJoined_12 rfl
theorem r_MFl_readJoined_13 {l0 l2 l3 l4 l5 l6 l7 l8 : Value} {x : Nat} : Rr X d MFl_readJoined 13 [l0, .ref x, l2, l3, l4, l5, l6, l7, l8] st h = Rr X d MFl_readJoined 14 [l0, .ref x, l2, l3, l4, l5, l6, l7, l8] (.ref x :: st) h := Rr_nx d_MFl_readJoined_13 rfl
theorem r_MFl_readJoined_13n {l0 l2 l3 l4 l5 l6 l7 l8 : Value} : Rr X d MFl_readJoined 13 [l0, .null, l2, l3, l4, l5, l6, l7, l8] st h = Rr X d MFl_readJoined 14 [l0, .null, l2, l3, l4, l5, l6, l7, l8] (.null :: st) h := Rr_nx d_MFl_readJoined_13 rfl
theorem r_MFl_readJoined_14 {l0 l1 l3 l4 l5 l6 l7 l8 : Value} {x : Int32} : Rr X d MFl_readJoined 14 [l0, l1, .int x, l3, l4, l5, l6, l7, l8] st h = Rr X d MFl_readJoined 15 [l0, l1, .int x, l3, l4, l5, l6, l7, l8] (.int x :: st) h := Rr_nx d_MFl_readJoined_14 rfl
theorem r_MFl_readJoined_15 : Rr X d MFl_readJoined 15 L st h = Rr X d MFl_readJoined 16 L (.int (1) :: st) h := Rr_nx d_MFl_readJoined_15 rfl
theorem r_MFl_readJoined_16 {x y : Int32} : Rr X d MFl_readJoined 16 L (.int y :: .int x :: st) h = Rr X d MFl_readJoined 17 L (.int (x + y) :: st) h := Rr_nx d_MFl_readJoined_16 rfl
theorem r_MFl_readJoined_17 {l0 l1 l2 l4 l5 l6 l7 l8 : Value} {x : Int32} : Rr X d MFl_readJoined 17 [l0, l1, l2, .int x, l4, l5, l6, l7, l8] st h = Rr X d MFl_readJoined 18 [l0, l1, l2, .int x, l4, l5, l6, l7, l8] (.int x :: st) h := Rr_nx d_MFl_readJoined_17 rfl
theorem r_MFl_readJoined_18 {y0 : Nat} {y1 : Int32} {y2 : Int32} {a : Nat} (hO : qO a 3 = true) (hc : ckS st = true) : Rr X (d + 1) MFl_readJoined 18 L (.int y2 :: .int y1 :: .ref y0 :: .ref a :: st) (Wd mu la ro et) = (Rr X d MFl_readJoined 0 [.ref a, .ref y0, .int y1, .int y2, mkU, mkU, mkU, mkU, mkU] [] (Wd mu la ro et)).bind fun q => Rr X (d + 1) MFl_readJoined 21 L (psh q.1 st) q.2 := R_iv (av := [.int y2, .int y1, .ref y0]) d_MFl_readJoined_18 fc_3_40 hO (ckS_le hc) rfl (Nat.le_of_ble_eq_true rfl) (Nat.le_of_ble_eq_true rfl)
theorem r_MFl_readJoined_21 {l0 l1 l2 l3 l4 l5 l6 l7 l8 : Value} {x : Int32} : Rr X d MFl_readJoined 21 [l0, l1, l2, l3, l4, l5, l6, l7, l8] (.int x :: st) h = Rr X d MFl_readJoined 23 (sL [l0, l1, l2, l3, l4, l5, l6, l7, l8] 4 (.int x)) st h := Rr_nx d_MFl_readJoined_21 rfl
theorem r_MFl_readJoined_23 {l0 l1 l3 l4 l5 l6 l7 l8 : Value} {x : Int32} : Rr X d MFl_readJoined 23 [l0, l1, .int x, l3, l4, l5, l6, l7, l8] st h = Rr X d MFl_readJoined 24 [l0, l1, .int x, l3, l4, l5, l6, l7, l8] (.int x :: st) h := Rr_nx d_MFl_readJoined_23 rfl
theorem r_MFl_readJoined_24 : Rr X d MFl_readJoined 24 L st h = Rr X d MFl_readJoined 25 L (.int (2) :: st) h := Rr_nx d_MFl_readJoined_24 rfl
theorem r_MFl_readJoined_25 {x y : Int32} : Rr X d MFl_readJoined 25 L (.int y :: .int x :: st) h = if ¬ x = y then Rr X d MFl_readJoined 32 L st h else Rr X d MFl_readJoined 28 L st h := R_ic_ne d_MFl_readJoined_25 (by decide)
theorem r_MFl_readJoined_28 : Rr X d MFl_readJoined 28 L st h = Rr X d MFl_readJoined 29 L (.int (1) :: st) h := Rr_nx d_MFl_readJoined_28 rfl
theorem r_MFl_readJoined_29 : Rr X d MFl_readJoined 29 L st h = Rr X d MFl_readJoined 34 L st h := R_goto d_MFl_readJoined_29 (by decide)
theorem r_MFl_readJoined_32 : Rr X d MFl_readJoined 32 L st h = Rr X d MFl_readJoined 34 L (.int (120) :: st) h := Rr_nx d_MFl_readJoined_32 rfl
theorem r_MFl_readJoined_34 {l0 l1 l2 l3 l4 l5 l6 l7 l8 : Value} {x : Int32} : Rr X d MFl_readJoined 34 [l0, l1, l2, l3, l4, l5, l6, l7, l8] (.int x :: st) h = Rr X d MFl_readJoined 36 (sL [l0, l1, l2, l3, l4, l5, l6, l7, l8] 5 (.int x)) st h := Rr_nx d_MFl_readJoined_34 rfl
theorem r_MFl_readJoined_36 : Rr X d MFl_readJoined 36 L st h = Rr X d MFl_readJoined 37 L (.int (0) :: st) h := Rr_nx d_MFl_readJoined_36 rfl
theorem r_MFl_readJoined_37 {l0 l1 l2 l3 l4 l5 l6 l7 l8 : Value} {x : Int32} : Rr X d MFl_readJoined 37 [l0, l1, l2, l3, l4, l5, l6, l7, l8] (.int x :: st) h = Rr X d MFl_readJoined 39 (sL [l0, l1, l2, l3, l4, l5, l6, l7, l8] 6 (.int x)) st h := Rr_nx d_MFl_readJoined_37 rfl
theorem r_MFl_readJoined_39 {l0 l1 l2 l3 l4 l5 l7 l8 : Value} {x : Int32} : Rr X d MFl_readJoined 39 [l0, l1, l2, l3, l4, l5, .int x, l7, l8] st h = Rr X d MFl_readJoined 41 [l0, l1, l2, l3, l4, l5, .int x, l7, l8] (.int x :: st) h := Rr_nx d_MFl_readJoined_39 rfl
theorem r_MFl_readJoined_41 {l0 l1 l2 l3 l4 l6 l7 l8 : Value} {x : Int32} : Rr X d MFl_readJoined 41 [l0, l1, l2, l3, l4, .int x, l6, l7, l8] st h = Rr X d MFl_readJoined 43 [l0, l1, l2, l3, l4, .int x, l6, l7, l8] (.int x :: st) h := Rr_nx d_MFl_readJoined_41 rfl
theorem r_MFl_readJoined_43 {x y : Int32} : Rr X d MFl_readJoined 43 L (.int y :: .int x :: st) h = if y ≤ x then Rr X d MFl_readJoined 115 L st h else Rr X d MFl_readJoined 46 L st h := R_ic_ge d_MFl_readJoined_43 (by decide)
theorem r_MFl_readJoined_46 {l0 l1 l2 l3 l5 l6 l7 l8 : Value} {x : Int32} : Rr X d MFl_readJoined 46 [l0, l1, l2, l3, .int x, l5, l6, l7, l8] st h = Rr X d MFl_readJoined 48 [l0, l1, l2, l3, .int x, l5, l6, l7, l8] (.int x :: st) h := Rr_nx d_MFl_readJoined_46 rfl
theorem r_MFl_readJoined_48 : Rr X d MFl_readJoined 48 L st h = Rr X d MFl_readJoined 49 L (.int (-1) :: st) h := Rr_nx d_MFl_readJoined_48 rfl
theorem r_MFl_readJoined_49 {x y : Int32} : Rr X d MFl_readJoined 49 L (.int y :: .int x :: st) h = if x = y then Rr X d MFl_readJoined 115 L st h else Rr X d MFl_readJoined 52 L st h := R_ic_eq d_MFl_readJoined_49 (by decide)
theorem r_MFl_readJoined_52 {l0 l2 l3 l4 l5 l6 l7 l8 : Value} {x : Nat} : Rr X d MFl_readJoined 52 [l0, .ref x, l2, l3, l4, l5, l6, l7, l8] st h = Rr X d MFl_readJoined 53 [l0, .ref x, l2, l3, l4, l5, l6, l7, l8] (.ref x :: st) h := Rr_nx d_MFl_readJoined_52 rfl
theorem r_MFl_readJoined_52n {l0 l2 l3 l4 l5 l6 l7 l8 : Value} : Rr X d MFl_readJoined 52 [l0, .null, l2, l3, l4, l5, l6, l7, l8] st h = Rr X d MFl_readJoined 53 [l0, .null, l2, l3, l4, l5, l6, l7, l8] (.null :: st) h := Rr_nx d_MFl_readJoined_52 rfl
theorem fc_3_52 : fC 3 52 = some (0, 8, 0, MTa_here) := rfl
theorem r_MFl_readJoined_53 {a : Nat} (hO : qO a 8 = true) (hc : ckS st = true) : Rr X (d + 1) MFl_readJoined 53 L (.ref a :: st) (Wd mu la ro et) = (Rr X d MTa_here 0 [.ref a] [] (Wd mu la ro et)).bind fun q => Rr X (d + 1) MFl_readJoined 56 L (psh q.1 st) q.2 := R_iv (av := []) d_MFl_readJoined_53 fc_3_52 hO (ckS_le hc) rfl (Nat.le_of_ble_eq_true rfl) (Nat.le_of_ble_eq_true rfl)
theorem fc_3_56 : fC 3 56 = some (1, 0, 1, MFl_levelOf) := rfl
theorem r_MFl_readJoined_56 {y0 : Int32} (hc : ckS st = true) : Rr X (d + 1) MFl_readJoined 56 L (.int y0 :: st) h = (Rr X d MFl_levelOf 0 [.int y0] [] h).bind fun q => Rr X (d + 1) MFl_readJoined 59 L (psh q.1 st) q.2 := R_is (av := [.int y0]) d_MFl_readJoined_56 (Or.inl fc_3_56) (ckS_le hc) rfl (Nat.le_of_ble_eq_true rfl) (Nat.le_of_ble_eq_true rfl)
theorem r_MFl_readJoined_59 {l0 l1 l3 l4 l5 l6 l7 l8 : Value} {x : Int32} : Rr X d MFl_readJoined 59 [l0, l1, .int x, l3, l4, l5, l6, l7, l8] st h = Rr X d MFl_readJoined 60 [l0, l1, .int x, l3, l4, l5, l6, l7, l8] (.int x :: st) h := Rr_nx d_MFl_readJoined_59 rfl
theorem r_MFl_readJoined_60 {x y : Int32} : Rr X d MFl_readJoined 60 L (.int y :: .int x :: st) h = if ¬ x = y then Rr X d MFl_readJoined 115 L st h else Rr X d MFl_readJoined 63 L st h := R_ic_ne d_MFl_readJoined_60 (by decide)
theorem r_MFl_readJoined_63 {l0 l2 l3 l4 l5 l6 l7 l8 : Value} {x : Nat} : Rr X d MFl_readJoined 63 [l0, .ref x, l2, l3, l4, l5, l6, l7, l8] st h = Rr X d MFl_readJoined 64 [l0, .ref x, l2, l3, l4, l5, l6, l7, l8] (.ref x :: st) h := Rr_nx d_MFl_readJoined_63 rfl
theorem r_MFl_readJoined_63n {l0 l2 l3 l4 l5 l6 l7 l8 : Value} : Rr X d MFl_readJoined 63 [l0, .null, l2, l3, l4, l5, l6, l7, l8] st h = Rr X d MFl_readJoined 64 [l0, .null, l2, l3, l4, l5, l6, l7, l8] (.null :: st) h := Rr_nx d_MFl_readJoined_63 rfl
theorem r_MFl_readJoined_64 {a : Nat} (hO : qO a 8 = true) (hc : ckS st = true) : Rr X (d + 1) MFl_readJoined 64 L (.ref a :: st) (Wd mu la ro et) = (Rr X d MTa_here 0 [.ref a] [] (Wd mu la ro et)).bind fun q => Rr X (d + 1) MFl_readJoined 67 L (psh q.1 st) q.2 := R_iv (av := []) d_MFl_readJoined_64 fc_3_52 hO (ckS_le hc) rfl (Nat.le_of_ble_eq_true rfl) (Nat.le_of_ble_eq_true rfl)
theorem r_MFl_readJoined_67 {l0 l1 l2 l3 l4 l5 l6 l7 l8 : Value} {x : Int32} : Rr X d MFl_readJoined 67 [l0, l1, l2, l3, l4, l5, l6, l7, l8] (.int x :: st) h = Rr X d MFl_readJoined 69 (sL [l0, l1, l2, l3, l4, l5, l6, l7, l8] 7 (.int x)) st h := Rr_nx d_MFl_readJoined_67 rfl
theorem r_MFl_readJoined_69 {l0 l2 l3 l4 l5 l6 l7 l8 : Value} {x : Nat} : Rr X d MFl_readJoined 69 [l0, .ref x, l2, l3, l4, l5, l6, l7, l8] st h = Rr X d MFl_readJoined 70 [l0, .ref x, l2, l3, l4, l5, l6, l7, l8] (.ref x :: st) h := Rr_nx d_MFl_readJoined_69 rfl
theorem r_MFl_readJoined_69n {l0 l2 l3 l4 l5 l6 l7 l8 : Value} : Rr X d MFl_readJoined 69 [l0, .null, l2, l3, l4, l5, l6, l7, l8] st h = Rr X d MFl_readJoined 70 [l0, .null, l2, l3, l4, l5, l6, l7, l8] (.null :: st) h := Rr_nx d_MFl_readJoined_69 rfl
theorem r_MFl_readJoined_70 {l0 l1 l2 l3 l4 l5 l6 l8 : Value} {x : Int32} : Rr X d MFl_readJoined 70 [l0, l1, l2, l3, l4, l5, l6, .int x, l8] st h = Rr X d MFl_readJoined 72 [l0, l1, l2, l3, l4, l5, l6, .int x, l8] (.int x :: st) h := Rr_nx d_MFl_readJoined_70 rfl
theorem r_MFl_readJoined_72 {y0 : Int32} {a : Nat} (hO : qO a 8 = true) (hc : ckS st = true) : Rr X (d + 1) MFl_readJoined 72 L (.int y0 :: .ref a :: st) (Wd mu la ro et) = (Rr X d MTa_skip 0 [.ref a, .int y0] [] (Wd mu la ro et)).bind fun q => Rr X (d + 1) MFl_readJoined 75 L (psh q.1 st) q.2 := R_iv (av := [.int y0]) d_MFl_readJoined_72 fc_3_32 hO (ckS_le hc) rfl (Nat.le_of_ble_eq_true rfl) (Nat.le_of_ble_eq_true rfl)
theorem r_MFl_readJoined_75 {x : Int32} : Rr X d MFl_readJoined 75 L (.int x :: st) h = Rr X d MFl_readJoined 76 L st h := Rr_nx d_MFl_readJoined_75 rfl
theorem r_MFl_readJoined_76 {l1 l2 l3 l4 l5 l6 l7 l8 : Value} {x : Nat} : Rr X d MFl_readJoined 76 [.ref x, l1, l2, l3, l4, l5, l6, l7, l8] st h = Rr X d MFl_readJoined 77 [.ref x, l1, l2, l3, l4, l5, l6, l7, l8] (.ref x :: st) h := Rr_nx d_MFl_readJoined_76 rfl
theorem r_MFl_readJoined_77 {l0 l2 l3 l4 l5 l6 l7 l8 : Value} {x : Nat} : Rr X d MFl_readJoined 77 [l0, .ref x, l2, l3, l4, l5, l6, l7, l8] st h = Rr X d MFl_readJoined 78 [l0, .ref x, l2, l3, l4, l5, l6, l7, l8] (.ref x :: st) h := Rr_nx d_MFl_readJoined_77 rfl
theorem r_MFl_readJoined_77n {l0 l2 l3 l4 l5 l6 l7 l8 : Value} : Rr X d MFl_readJoined 77 [l0, .null, l2, l3, l4, l5, l6, l7, l8] st h = Rr X d MFl_readJoined 78 [l0, .null, l2, l3, l4, l5, l6, l7, l8] (.null :: st) h := Rr_nx d_MFl_readJoined_77 rfl
theorem r_MFl_readJoined_78 {l0 l1 l3 l4 l5 l6 l7 l8 : Value} {x : Int32} : Rr X d MFl_readJoined 78 [l0, l1, .int x, l3, l4, l5, l6, l7, l8] st h = Rr X d MFl_readJoined 79 [l0, l1, .int x, l3, l4, l5, l6, l7, l8] (.int x :: st) h := Rr_nx d_MFl_readJoined_78 rfl
theorem r_MFl_readJoined_79 : Rr X d MFl_readJoined 79 L st h = Rr X d MFl_readJoined 80 L (.int (1) :: st) h := Rr_nx d_MFl_readJoined_79 rfl
theorem r_MFl_readJoined_80 {x y : Int32} : Rr X d MFl_readJoined 80 L (.int y :: .int x :: st) h = Rr X d MFl_readJoined 81 L (.int (x + y) :: st) h := Rr_nx d_MFl_readJoined_80 rfl
theorem r_MFl_readJoined_81 {l0 l1 l2 l4 l5 l6 l7 l8 : Value} {x : Int32} : Rr X d MFl_readJoined 81 [l0, l1, l2, .int x, l4, l5, l6, l7, l8] st h = Rr X d MFl_readJoined 82 [l0, l1, l2, .int x, l4, l5, l6, l7, l8] (.int x :: st) h := Rr_nx d_MFl_readJoined_81 rfl
theorem r_MFl_readJoined_82 {y0 : Nat} {y1 : Int32} {y2 : Int32} {a : Nat} (hO : qO a 3 = true) (hc : ckS st = true) : Rr X (d + 1) MFl_readJoined 82 L (.int y2 :: .int y1 :: .ref y0 :: .ref a :: st) (Wd mu la ro et) = (Rr X d MFl_readJoined 0 [.ref a, .ref y0, .int y1, .int y2, mkU, mkU, mkU, mkU, mkU] [] (Wd mu la ro et)).bind fun q => Rr X (d + 1) MFl_readJoined 85 L (psh q.1 st) q.2 := R_iv (av := [.int y2, .int y1, .ref y0]) d_MFl_readJoined_82 fc_3_40 hO (ckS_le hc) rfl (Nat.le_of_ble_eq_true rfl) (Nat.le_of_ble_eq_true rfl)
theorem r_MFl_readJoined_85 {l0 l1 l2 l3 l4 l5 l6 l7 l8 : Value} {x : Int32} : Rr X d MFl_readJoined 85 [l0, l1, l2, l3, l4, l5, l6, l7, l8] (.int x :: st) h = Rr X d MFl_readJoined 87 (sL [l0, l1, l2, l3, l4, l5, l6, l7, l8] 8 (.int x)) st h := Rr_nx d_MFl_readJoined_85 rfl
theorem r_MFl_readJoined_87 {l0 l1 l2 l3 l4 l5 l6 l7 : Value} {x : Int32} : Rr X d MFl_readJoined 87 [l0, l1, l2, l3, l4, l5, l6, l7, .int x] st h = Rr X d MFl_readJoined 89 [l0, l1, l2, l3, l4, l5, l6, l7, .int x] (.int x :: st) h := Rr_nx d_MFl_readJoined_87 rfl
theorem r_MFl_readJoined_89 : Rr X d MFl_readJoined 89 L st h = Rr X d MFl_readJoined 90 L (.int (-1) :: st) h := Rr_nx d_MFl_readJoined_89 rfl
theorem r_MFl_readJoined_90 {x y : Int32} : Rr X d MFl_readJoined 90 L (.int y :: .int x :: st) h = if ¬ x = y then Rr X d MFl_readJoined 97 L st h else Rr X d MFl_readJoined 93 L st h := R_ic_ne d_MFl_readJoined_90 (by decide)
theorem r_MFl_readJoined_93 : Rr X d MFl_readJoined 93 L st h = Rr X d MFl_readJoined 94 L (.int (-1) :: st) h := Rr_nx d_MFl_readJoined_93 rfl
theorem r_MFl_readJoined_94 : Rr X d MFl_readJoined 94 L st h = Rr X d MFl_readJoined 107 L st h := R_goto d_MFl_readJoined_94 (by decide)
theorem r_MFl_readJoined_97 {l1 l2 l3 l4 l5 l6 l7 l8 : Value} {x : Nat} : Rr X d MFl_readJoined 97 [.ref x, l1, l2, l3, l4, l5, l6, l7, l8] st h = Rr X d MFl_readJoined 98 [.ref x, l1, l2, l3, l4, l5, l6, l7, l8] (.ref x :: st) h := Rr_nx d_MFl_readJoined_97 rfl
theorem r_MFl_readJoined_98 {l0 l1 l2 l3 l4 l5 l6 l8 : Value} {x : Int32} : Rr X d MFl_readJoined 98 [l0, l1, l2, l3, l4, l5, l6, .int x, l8] st h = Rr X d MFl_readJoined 100 [l0, l1, l2, l3, l4, l5, l6, .int x, l8] (.int x :: st) h := Rr_nx d_MFl_readJoined_98 rfl
theorem r_MFl_readJoined_100 {l0 l1 l2 l3 l5 l6 l7 l8 : Value} {x : Int32} : Rr X d MFl_readJoined 100 [l0, l1, l2, l3, .int x, l5, l6, l7, l8] st h = Rr X d MFl_readJoined 102 [l0, l1, l2, l3, .int x, l5, l6, l7, l8] (.int x :: st) h := Rr_nx d_MFl_readJoined_100 rfl
theorem r_MFl_readJoined_102 {l0 l1 l2 l3 l4 l5 l6 l7 : Value} {x : Int32} : Rr X d MFl_readJoined 102 [l0, l1, l2, l3, l4, l5, l6, l7, .int x] st h = Rr X d MFl_readJoined 104 [l0, l1, l2, l3, l4, l5, l6, l7, .int x] (.int x :: st) h := Rr_nx d_MFl_readJoined_102 rfl
theorem r_MFl_readJoined_104 {y0 : Int32} {y1 : Int32} {y2 : Int32} {a : Nat} (hO : qO a 3 = true) (hc : ckS st = true) : Rr X (d + 1) MFl_readJoined 104 L (.int y2 :: .int y1 :: .int y0 :: .ref a :: st) (Wd mu la ro et) = (Rr X d MFl_append 0 [.ref a, .int y0, .int y1, .int y2] [] (Wd mu la ro et)).bind fun q => Rr X (d + 1) MFl_readJoined 107 L (psh q.1 st) q.2 := R_iv (av := [.int y2, .int y1, .int y0]) d_MFl_readJoined_104 fc_3_44 hO (ckS_le hc) rfl (Nat.le_of_ble_eq_true rfl) (Nat.le_of_ble_eq_true rfl)
theorem r_MFl_readJoined_107 {l0 l1 l2 l3 l4 l5 l6 l7 l8 : Value} {x : Int32} : Rr X d MFl_readJoined 107 [l0, l1, l2, l3, l4, l5, l6, l7, l8] (.int x :: st) h = Rr X d MFl_readJoined 109 (sL [l0, l1, l2, l3, l4, l5, l6, l7, l8] 4 (.int x)) st h := Rr_nx d_MFl_readJoined_107 rfl
theorem r_MFl_readJoined_109 {l0 l1 l2 l3 l4 l5 l7 l8 : Value} {x : Int32} : Rr X d MFl_readJoined 109 [l0, l1, l2, l3, l4, l5, .int x, l7, l8] st h = Rr X d MFl_readJoined 112 (sL [l0, l1, l2, l3, l4, l5, .int x, l7, l8] 6 (.int (x + (1)))) st h := Rr_nx d_MFl_readJoined_109 rfl
theorem r_MFl_readJoined_112 : Rr X d MFl_readJoined 112 L st h = Rr X d MFl_readJoined 39 L st h := R_goto d_MFl_readJoined_112 (by decide)
theorem r_MFl_readJoined_115 {l0 l1 l2 l3 l5 l6 l7 l8 : Value} {x : Int32} : Rr X d MFl_readJoined 115 [l0, l1, l2, l3, .int x, l5, l6, l7, l8] st h = Rr X d MFl_readJoined 117 [l0, l1, l2, l3, .int x, l5, l6, l7, l8] (.int x :: st) h := Rr_nx d_MFl_readJoined_115 rfl
theorem r_MFl_readJoined_117 {x : Int32} : Rr X d MFl_readJoined 117 L [.int x] h = some (some (.int x), h) := R_ir d_MFl_readJoined_117 rfl
theorem d_MFl_levelOf_0 : decode MFl_levelOf.2.2.1 0 = .ok (.iload_n 0, 1) := lkT_ok tk_MFl_levelOf rfl
theorem d_MFl_levelOf_1 : decode MFl_levelOf.2.2.1 1 = .ok (.lookupswitch 101 #[(37, 99), (38, 93), (42, 99), (43, 97), (45, 97), (47, 99), (60, 95), (61, 95), (62, 95), (124, 91)], 91) := lkT_ok tk_MFl_levelOf rfl
theorem d_MFl_levelOf_92 : decode MFl_levelOf.2.2.1 92 = .ok (.iconst 0, 1) := lkT_ok tk_MFl_levelOf rfl
theorem d_MFl_levelOf_93 : decode MFl_levelOf.2.2.1 93 = .ok (.ireturn, 1) := lkT_ok tk_MFl_levelOf rfl
theorem d_MFl_levelOf_94 : decode MFl_levelOf.2.2.1 94 = .ok (.iconst 1, 1) := lkT_ok tk_MFl_levelOf rfl
theorem d_MFl_levelOf_95 : decode MFl_levelOf.2.2.1 95 = .ok (.ireturn, 1) := lkT_ok tk_MFl_levelOf rfl
theorem d_MFl_levelOf_96 : decode MFl_levelOf.2.2.1 96 = .ok (.iconst 2, 1) := lkT_ok tk_MFl_levelOf rfl
theorem d_MFl_levelOf_97 : decode MFl_levelOf.2.2.1 97 = .ok (.ireturn, 1) := lkT_ok tk_MFl_levelOf rfl
theorem d_MFl_levelOf_98 : decode MFl_levelOf.2.2.1 98 = .ok (.iconst 3, 1) := lkT_ok tk_MFl_levelOf rfl
theorem d_MFl_levelOf_99 : decode MFl_levelOf.2.2.1 99 = .ok (.ireturn, 1) := lkT_ok tk_MFl_levelOf rfl
theorem d_MFl_levelOf_100 : decode MFl_levelOf.2.2.1 100 = .ok (.iconst 4, 1) := lkT_ok tk_MFl_levelOf rfl
theorem d_MFl_levelOf_101 : decode MFl_levelOf.2.2.1 101 = .ok (.ireturn, 1) := lkT_ok tk_MFl_levelOf rfl
theorem d_MFl_levelOf_102 : decode MFl_levelOf.2.2.1 102 = .ok (.iconst (-1), 1) := lkT_ok tk_MFl_levelOf rfl
theorem d_MFl_levelOf_103 : decode MFl_levelOf.2.2.1 103 = .ok (.ireturn, 1) := lkT_ok tk_MFl_levelOf rfl
theorem r_MFl_levelOf_0 {x : Int32} : Rr X d MFl_levelOf 0 [.int x] st h = Rr X d MFl_levelOf 1 [.int x] (.int x :: st) h := Rr_nx d_MFl_levelOf_0 rfl
theorem r_MFl_levelOf_1_37 : Rr X d MFl_levelOf 1 L (.int (37) :: st) h = Rr X d MFl_levelOf 100 L st h := R_lkp (off := 99) d_MFl_levelOf_1 (by decide) (by decide) (by decide)
theorem r_MFl_levelOf_1_38 : Rr X d MFl_levelOf 1 L (.int (38) :: st) h = Rr X d MFl_levelOf 94 L st h := R_lkp (off := 93) d_MFl_levelOf_1 (by decide) (by decide) (by decide)
theorem r_MFl_levelOf_1_42 : Rr X d MFl_levelOf 1 L (.int (42) :: st) h = Rr X d MFl_levelOf 100 L st h := R_lkp (off := 99) d_MFl_levelOf_1 (by decide) (by decide) (by decide)
theorem r_MFl_levelOf_1_43 : Rr X d MFl_levelOf 1 L (.int (43) :: st) h = Rr X d MFl_levelOf 98 L st h := R_lkp (off := 97) d_MFl_levelOf_1 (by decide) (by decide) (by decide)
theorem r_MFl_levelOf_1_45 : Rr X d MFl_levelOf 1 L (.int (45) :: st) h = Rr X d MFl_levelOf 98 L st h := R_lkp (off := 97) d_MFl_levelOf_1 (by decide) (by decide) (by decide)
theorem r_MFl_levelOf_1_47 : Rr X d MFl_levelOf 1 L (.int (47) :: st) h = Rr X d MFl_levelOf 100 L st h := R_lkp (off := 99) d_MFl_levelOf_1 (by decide) (by decide) (by decide)
theorem r_MFl_levelOf_1_60 : Rr X d MFl_levelOf 1 L (.int (60) :: st) h = Rr X d MFl_levelOf 96 L st h := R_lkp (off := 95) d_MFl_levelOf_1 (by decide) (by decide) (by decide)
theorem r_MFl_levelOf_1_61 : Rr X d MFl_levelOf 1 L (.int (61) :: st) h = Rr X d MFl_levelOf 96 L st h := R_lkp (off := 95) d_MFl_levelOf_1 (by decide) (by decide) (by decide)
theorem r_MFl_levelOf_1_62 : Rr X d MFl_levelOf 1 L (.int (62) :: st) h = Rr X d MFl_levelOf 96 L st h := R_lkp (off := 95) d_MFl_levelOf_1 (by decide) (by decide) (by decide)
theorem r_MFl_levelOf_1_124 : Rr X d MFl_levelOf 1 L (.int (124) :: st) h = Rr X d MFl_levelOf 92 L st h := R_lkp (off := 91) d_MFl_levelOf_1 (by decide) (by decide) (by decide)
theorem r_MFl_levelOf_1_m1 : Rr X d MFl_levelOf 1 L (.int (-1) :: st) h = Rr X d MFl_levelOf 102 L st h := R_lkp (off := 101) d_MFl_levelOf_1 (by decide) (by decide) (by decide)
theorem r_MFl_levelOf_1D {x : Int32} (hx : Op.lookupswitch.offset [(37, 99), (38, 93), (42, 99), (43, 97), (45, 97), (47, 99), (60, 95), (61, 95), (62, 95), (124, 91)] (101) x.toInt = 101) : Rr X d MFl_levelOf 1 L (.int x :: st) h = Rr X d MFl_levelOf 102 L st h := R_lkp d_MFl_levelOf_1 (by decide) hx (by decide)
theorem r_MFl_levelOf_92 : Rr X d MFl_levelOf 92 L st h = Rr X d MFl_levelOf 93 L (.int (0) :: st) h := Rr_nx d_MFl_levelOf_92 rfl
theorem r_MFl_levelOf_93 {x : Int32} : Rr X d MFl_levelOf 93 L [.int x] h = some (some (.int x), h) := R_ir d_MFl_levelOf_93 rfl
theorem r_MFl_levelOf_94 : Rr X d MFl_levelOf 94 L st h = Rr X d MFl_levelOf 95 L (.int (1) :: st) h := Rr_nx d_MFl_levelOf_94 rfl
theorem r_MFl_levelOf_95 {x : Int32} : Rr X d MFl_levelOf 95 L [.int x] h = some (some (.int x), h) := R_ir d_MFl_levelOf_95 rfl
theorem r_MFl_levelOf_96 : Rr X d MFl_levelOf 96 L st h = Rr X d MFl_levelOf 97 L (.int (2) :: st) h := Rr_nx d_MFl_levelOf_96 rfl
theorem r_MFl_levelOf_97 {x : Int32} : Rr X d MFl_levelOf 97 L [.int x] h = some (some (.int x), h) := R_ir d_MFl_levelOf_97 rfl
theorem r_MFl_levelOf_98 : Rr X d MFl_levelOf 98 L st h = Rr X d MFl_levelOf 99 L (.int (3) :: st) h := Rr_nx d_MFl_levelOf_98 rfl
theorem r_MFl_levelOf_99 {x : Int32} : Rr X d MFl_levelOf 99 L [.int x] h = some (some (.int x), h) := R_ir d_MFl_levelOf_99 rfl
theorem r_MFl_levelOf_100 : Rr X d MFl_levelOf 100 L st h = Rr X d MFl_levelOf 101 L (.int (4) :: st) h := Rr_nx d_MFl_levelOf_100 rfl
theorem r_MFl_levelOf_101 {x : Int32} : Rr X d MFl_levelOf 101 L [.int x] h = some (some (.int x), h) := R_ir d_MFl_levelOf_101 rfl
theorem r_MFl_levelOf_102 : Rr X d MFl_levelOf 102 L st h = Rr X d MFl_levelOf 103 L (.int (-1) :: st) h := Rr_nx d_MFl_levelOf_102 rfl
theorem r_MFl_levelOf_103 {x : Int32} : Rr X d MFl_levelOf 103 L [.int x] h = some (some (.int x), h) := R_ir d_MFl_levelOf_103 rfl
theorem d_MFl_readOne_0 : decode MFl_readOne.2.2.1 0 = .ok (.aload_n 1, 1) := lkT_ok tk_MFl_readOne rfl
theorem d_MFl_readOne_1 : decode MFl_readOne.2.2.1 1 = .ok (.invokevirtual 52, 3) := lkT_ok tk_MFl_readOne rfl
theorem d_MFl_readOne_4 : decode MFl_readOne.2.2.1 4 = .ok (.istore_n 3, 1) := lkT_ok tk_MFl_readOne rfl
theorem d_MFl_readOne_5 : decode MFl_readOne.2.2.1 5 = .ok (.iload_n 3, 1) := lkT_ok tk_MFl_readOne rfl
theorem d_MFl_readOne_6 : decode MFl_readOne.2.2.1 6 = .ok (.lookupswitch 124 #[(33, 96), (40, 96), (45, 96), (105, 82), (112, 82), (113, 82), (115, 82), (118, 82), (119, 82)], 82) := lkT_ok tk_MFl_readOne rfl
theorem d_MFl_readOne_88 : decode MFl_readOne.2.2.1 88 = .ok (.aload_n 1, 1) := lkT_ok tk_MFl_readOne rfl
theorem d_MFl_readOne_89 : decode MFl_readOne.2.2.1 89 = .ok (.iload_n 3, 1) := lkT_ok tk_MFl_readOne rfl
theorem d_MFl_readOne_90 : decode MFl_readOne.2.2.1 90 = .ok (.invokevirtual 32, 3) := lkT_ok tk_MFl_readOne rfl
theorem d_MFl_readOne_93 : decode MFl_readOne.2.2.1 93 = .ok (.pop, 1) := lkT_ok tk_MFl_readOne rfl
theorem d_MFl_readOne_94 : decode MFl_readOne.2.2.1 94 = .ok (.aload_n 0, 1) := lkT_ok tk_MFl_readOne rfl
theorem d_MFl_readOne_95 : decode MFl_readOne.2.2.1 95 = .ok (.iload_n 3, 1) := lkT_ok tk_MFl_readOne rfl
theorem d_MFl_readOne_96 : decode MFl_readOne.2.2.1 96 = .ok (.iconst (-1), 1) := lkT_ok tk_MFl_readOne rfl
theorem d_MFl_readOne_97 : decode MFl_readOne.2.2.1 97 = .ok (.iconst (-1), 1) := lkT_ok tk_MFl_readOne rfl
theorem d_MFl_readOne_98 : decode MFl_readOne.2.2.1 98 = .ok (.invokevirtual 44, 3) := lkT_ok tk_MFl_readOne rfl
theorem d_MFl_readOne_101 : decode MFl_readOne.2.2.1 101 = .ok (.ireturn, 1) := lkT_ok tk_MFl_readOne rfl
theorem d_MFl_readOne_102 : decode MFl_readOne.2.2.1 102 = .ok (.iload_n 2, 1) := lkT_ok tk_MFl_readOne rfl
theorem d_MFl_readOne_103 : decode MFl_readOne.2.2.1 103 = .ok (.bipush 6, 2) := lkT_ok tk_MFl_readOne rfl
theorem d_MFl_readOne_105 : decode MFl_readOne.2.2.1 105 = .ok (.if_icmp .ge 23, 3) := lkT_ok tk_MFl_readOne rfl
theorem d_MFl_readOne_108 : decode MFl_readOne.2.2.1 108 = .ok (.aload_n 1, 1) := lkT_ok tk_MFl_readOne rfl
theorem d_MFl_readOne_109 : decode MFl_readOne.2.2.1 109 = .ok (.iload_n 3, 1) := lkT_ok tk_MFl_readOne rfl
theorem d_MFl_readOne_110 : decode MFl_readOne.2.2.1 110 = .ok (.invokevirtual 32, 3) := lkT_ok tk_MFl_readOne rfl
theorem d_MFl_readOne_113 : decode MFl_readOne.2.2.1 113 = .ok (.ifCond .eq 15, 3) := lkT_ok tk_MFl_readOne rfl
theorem d_MFl_readOne_116 : decode MFl_readOne.2.2.1 116 = .ok (.aload_n 0, 1) := lkT_ok tk_MFl_readOne rfl
theorem d_MFl_readOne_117 : decode MFl_readOne.2.2.1 117 = .ok (.aload_n 1, 1) := lkT_ok tk_MFl_readOne rfl
theorem d_MFl_readOne_118 : decode MFl_readOne.2.2.1 118 = .ok (.iload_n 3, 1) := lkT_ok tk_MFl_readOne rfl
theorem d_MFl_readOne_119 : decode MFl_readOne.2.2.1 119 = .ok (.iload_n 2, 1) := lkT_ok tk_MFl_readOne rfl
theorem d_MFl_readOne_120 : decode MFl_readOne.2.2.1 120 = .ok (.iconst 1, 1) := lkT_ok tk_MFl_readOne rfl
theorem d_MFl_readOne_121 : decode MFl_readOne.2.2.1 121 = .ok (.iadd, 1) := lkT_ok tk_MFl_readOne rfl
theorem d_MFl_readOne_122 : decode MFl_readOne.2.2.1 122 = .ok (.invokevirtual 60, 3) := lkT_ok tk_MFl_readOne rfl
theorem d_MFl_readOne_125 : decode MFl_readOne.2.2.1 125 = .ok (.goto 4, 3) := lkT_ok tk_MFl_readOne rfl
theorem d_MFl_readOne_128 : decode MFl_readOne.2.2.1 128 = .ok (.iconst (-1), 1) := lkT_ok tk_MFl_readOne rfl
theorem d_MFl_readOne_129 : decode MFl_readOne.2.2.1 129 = .ok (.ireturn, 1) := lkT_ok tk_MFl_readOne rfl
theorem d_MFl_readOne_130 : decode MFl_readOne.2.2.1 130 = .ok (.aload_n 1, 1) := lkT_ok tk_MFl_readOne rfl
theorem d_MFl_readOne_131 : decode MFl_readOne.2.2.1 131 = .ok (.iconst 4, 1) := lkT_ok tk_MFl_readOne rfl
theorem d_MFl_readOne_132 : decode MFl_readOne.2.2.1 132 = .ok (.invokevirtual 63, 3) := lkT_ok tk_MFl_readOne rfl
theorem d_MFl_readOne_135 : decode MFl_readOne.2.2.1 135 = .ok (.istore 4, 2) := lkT_ok tk_MFl_readOne rfl
theorem d_MFl_readOne_137 : decode MFl_readOne.2.2.1 137 = .ok (.iload 4, 2) := lkT_ok tk_MFl_readOne rfl
theorem d_MFl_readOne_139 : decode MFl_readOne.2.2.1 139 = .ok (.ifCond .ge 7, 3) := lkT_ok tk_MFl_readOne rfl
theorem d_MFl_readOne_142 : decode MFl_readOne.2.2.1 142 = .ok (.iconst (-1), 1) := lkT_ok tk_MFl_readOne rfl
theorem d_MFl_readOne_143 : decode MFl_readOne.2.2.1 143 = .ok (.goto 9, 3) := lkT_ok tk_MFl_readOne rfl
theorem d_MFl_readOne_146 : decode MFl_readOne.2.2.1 146 = .ok (.aload_n 0, 1) := lkT_ok tk_MFl_readOne rfl
theorem d_MFl_readOne_147 : decode MFl_readOne.2.2.1 147 = .ok (.iload 4, 2) := lkT_ok tk_MFl_readOne rfl
theorem d_MFl_readOne_149 : decode MFl_readOne.2.2.1 149 = .ok (.invokevirtual 66, 3) := lkT_ok tk_MFl_readOne rfl
theorem d_MFl_readOne_152 : decode MFl_readOne.2.2.1 152 = .ok (.ireturn, 1) := lkT_ok tk_MFl_readOne rfl
theorem r_MFl_readOne_0 {l0 l2 l3 l4 : Value} {x : Nat} : Rr X d MFl_readOne 0 [l0, .ref x, l2, l3, l4] st h = Rr X d MFl_readOne 1 [l0, .ref x, l2, l3, l4] (.ref x :: st) h := Rr_nx d_MFl_readOne_0 rfl
theorem r_MFl_readOne_0n {l0 l2 l3 l4 : Value} : Rr X d MFl_readOne 0 [l0, .null, l2, l3, l4] st h = Rr X d MFl_readOne 1 [l0, .null, l2, l3, l4] (.null :: st) h := Rr_nx d_MFl_readOne_0 rfl
theorem r_MFl_readOne_1 {a : Nat} (hO : qO a 8 = true) (hc : ckS st = true) : Rr X (d + 1) MFl_readOne 1 L (.ref a :: st) (Wd mu la ro et) = (Rr X d MTa_here 0 [.ref a] [] (Wd mu la ro et)).bind fun q => Rr X (d + 1) MFl_readOne 4 L (psh q.1 st) q.2 := R_iv (av := []) d_MFl_readOne_1 fc_3_52 hO (ckS_le hc) rfl (Nat.le_of_ble_eq_true rfl) (Nat.le_of_ble_eq_true rfl)
theorem r_MFl_readOne_4 {l0 l1 l2 l3 l4 : Value} {x : Int32} : Rr X d MFl_readOne 4 [l0, l1, l2, l3, l4] (.int x :: st) h = Rr X d MFl_readOne 5 (sL [l0, l1, l2, l3, l4] 3 (.int x)) st h := Rr_nx d_MFl_readOne_4 rfl
theorem r_MFl_readOne_5 {l0 l1 l2 l4 : Value} {x : Int32} : Rr X d MFl_readOne 5 [l0, l1, l2, .int x, l4] st h = Rr X d MFl_readOne 6 [l0, l1, l2, .int x, l4] (.int x :: st) h := Rr_nx d_MFl_readOne_5 rfl
theorem r_MFl_readOne_6_33 : Rr X d MFl_readOne 6 L (.int (33) :: st) h = Rr X d MFl_readOne 102 L st h := R_lkp (off := 96) d_MFl_readOne_6 (by decide) (by decide) (by decide)
theorem r_MFl_readOne_6_40 : Rr X d MFl_readOne 6 L (.int (40) :: st) h = Rr X d MFl_readOne 102 L st h := R_lkp (off := 96) d_MFl_readOne_6 (by decide) (by decide) (by decide)
theorem r_MFl_readOne_6_45 : Rr X d MFl_readOne 6 L (.int (45) :: st) h = Rr X d MFl_readOne 102 L st h := R_lkp (off := 96) d_MFl_readOne_6 (by decide) (by decide) (by decide)
theorem r_MFl_readOne_6_105 : Rr X d MFl_readOne 6 L (.int (105) :: st) h = Rr X d MFl_readOne 88 L st h := R_lkp (off := 82) d_MFl_readOne_6 (by decide) (by decide) (by decide)
theorem r_MFl_readOne_6_112 : Rr X d MFl_readOne 6 L (.int (112) :: st) h = Rr X d MFl_readOne 88 L st h := R_lkp (off := 82) d_MFl_readOne_6 (by decide) (by decide) (by decide)
theorem r_MFl_readOne_6_113 : Rr X d MFl_readOne 6 L (.int (113) :: st) h = Rr X d MFl_readOne 88 L st h := R_lkp (off := 82) d_MFl_readOne_6 (by decide) (by decide) (by decide)
theorem r_MFl_readOne_6_115 : Rr X d MFl_readOne 6 L (.int (115) :: st) h = Rr X d MFl_readOne 88 L st h := R_lkp (off := 82) d_MFl_readOne_6 (by decide) (by decide) (by decide)
theorem r_MFl_readOne_6_118 : Rr X d MFl_readOne 6 L (.int (118) :: st) h = Rr X d MFl_readOne 88 L st h := R_lkp (off := 82) d_MFl_readOne_6 (by decide) (by decide) (by decide)
theorem r_MFl_readOne_6_119 : Rr X d MFl_readOne 6 L (.int (119) :: st) h = Rr X d MFl_readOne 88 L st h := R_lkp (off := 82) d_MFl_readOne_6 (by decide) (by decide) (by decide)
theorem r_MFl_readOne_6_m1 : Rr X d MFl_readOne 6 L (.int (-1) :: st) h = Rr X d MFl_readOne 130 L st h := R_lkp (off := 124) d_MFl_readOne_6 (by decide) (by decide) (by decide)
theorem r_MFl_readOne_6D {x : Int32} (hx : Op.lookupswitch.offset [(33, 96), (40, 96), (45, 96), (105, 82), (112, 82), (113, 82), (115, 82), (118, 82), (119, 82)] (124) x.toInt = 124) : Rr X d MFl_readOne 6 L (.int x :: st) h = Rr X d MFl_readOne 130 L st h := R_lkp d_MFl_readOne_6 (by decide) hx (by decide)
theorem r_MFl_readOne_88 {l0 l2 l3 l4 : Value} {x : Nat} : Rr X d MFl_readOne 88 [l0, .ref x, l2, l3, l4] st h = Rr X d MFl_readOne 89 [l0, .ref x, l2, l3, l4] (.ref x :: st) h := Rr_nx d_MFl_readOne_88 rfl
theorem r_MFl_readOne_88n {l0 l2 l3 l4 : Value} : Rr X d MFl_readOne 88 [l0, .null, l2, l3, l4] st h = Rr X d MFl_readOne 89 [l0, .null, l2, l3, l4] (.null :: st) h := Rr_nx d_MFl_readOne_88 rfl
theorem r_MFl_readOne_89 {l0 l1 l2 l4 : Value} {x : Int32} : Rr X d MFl_readOne 89 [l0, l1, l2, .int x, l4] st h = Rr X d MFl_readOne 90 [l0, l1, l2, .int x, l4] (.int x :: st) h := Rr_nx d_MFl_readOne_89 rfl
theorem r_MFl_readOne_90 {y0 : Int32} {a : Nat} (hO : qO a 8 = true) (hc : ckS st = true) : Rr X (d + 1) MFl_readOne 90 L (.int y0 :: .ref a :: st) (Wd mu la ro et) = (Rr X d MTa_skip 0 [.ref a, .int y0] [] (Wd mu la ro et)).bind fun q => Rr X (d + 1) MFl_readOne 93 L (psh q.1 st) q.2 := R_iv (av := [.int y0]) d_MFl_readOne_90 fc_3_32 hO (ckS_le hc) rfl (Nat.le_of_ble_eq_true rfl) (Nat.le_of_ble_eq_true rfl)
theorem r_MFl_readOne_93 {x : Int32} : Rr X d MFl_readOne 93 L (.int x :: st) h = Rr X d MFl_readOne 94 L st h := Rr_nx d_MFl_readOne_93 rfl
theorem r_MFl_readOne_94 {l1 l2 l3 l4 : Value} {x : Nat} : Rr X d MFl_readOne 94 [.ref x, l1, l2, l3, l4] st h = Rr X d MFl_readOne 95 [.ref x, l1, l2, l3, l4] (.ref x :: st) h := Rr_nx d_MFl_readOne_94 rfl
theorem r_MFl_readOne_95 {l0 l1 l2 l4 : Value} {x : Int32} : Rr X d MFl_readOne 95 [l0, l1, l2, .int x, l4] st h = Rr X d MFl_readOne 96 [l0, l1, l2, .int x, l4] (.int x :: st) h := Rr_nx d_MFl_readOne_95 rfl
theorem r_MFl_readOne_96 : Rr X d MFl_readOne 96 L st h = Rr X d MFl_readOne 97 L (.int (-1) :: st) h := Rr_nx d_MFl_readOne_96 rfl
theorem r_MFl_readOne_97 : Rr X d MFl_readOne 97 L st h = Rr X d MFl_readOne 98 L (.int (-1) :: st) h := Rr_nx d_MFl_readOne_97 rfl
theorem r_MFl_readOne_98 {y0 : Int32} {y1 : Int32} {y2 : Int32} {a : Nat} (hO : qO a 3 = true) (hc : ckS st = true) : Rr X (d + 1) MFl_readOne 98 L (.int y2 :: .int y1 :: .int y0 :: .ref a :: st) (Wd mu la ro et) = (Rr X d MFl_append 0 [.ref a, .int y0, .int y1, .int y2] [] (Wd mu la ro et)).bind fun q => Rr X (d + 1) MFl_readOne 101 L (psh q.1 st) q.2 := R_iv (av := [.int y2, .int y1, .int y0]) d_MFl_readOne_98 fc_3_44 hO (ckS_le hc) rfl (Nat.le_of_ble_eq_true rfl) (Nat.le_of_ble_eq_true rfl)
theorem r_MFl_readOne_101 {x : Int32} : Rr X d MFl_readOne 101 L [.int x] h = some (some (.int x), h) := R_ir d_MFl_readOne_101 rfl
theorem r_MFl_readOne_102 {l0 l1 l3 l4 : Value} {x : Int32} : Rr X d MFl_readOne 102 [l0, l1, .int x, l3, l4] st h = Rr X d MFl_readOne 103 [l0, l1, .int x, l3, l4] (.int x :: st) h := Rr_nx d_MFl_readOne_102 rfl
theorem r_MFl_readOne_103 : Rr X d MFl_readOne 103 L st h = Rr X d MFl_readOne 105 L (.int (6) :: st) h := Rr_nx d_MFl_readOne_103 rfl
theorem r_MFl_readOne_105 {x y : Int32} : Rr X d MFl_readOne 105 L (.int y :: .int x :: st) h = if y ≤ x then Rr X d MFl_readOne 128 L st h else Rr X d MFl_readOne 108 L st h := R_ic_ge d_MFl_readOne_105 (by decide)
theorem r_MFl_readOne_108 {l0 l2 l3 l4 : Value} {x : Nat} : Rr X d MFl_readOne 108 [l0, .ref x, l2, l3, l4] st h = Rr X d MFl_readOne 109 [l0, .ref x, l2, l3, l4] (.ref x :: st) h := Rr_nx d_MFl_readOne_108 rfl
theorem r_MFl_readOne_108n {l0 l2 l3 l4 : Value} : Rr X d MFl_readOne 108 [l0, .null, l2, l3, l4] st h = Rr X d MFl_readOne 109 [l0, .null, l2, l3, l4] (.null :: st) h := Rr_nx d_MFl_readOne_108 rfl
theorem r_MFl_readOne_109 {l0 l1 l2 l4 : Value} {x : Int32} : Rr X d MFl_readOne 109 [l0, l1, l2, .int x, l4] st h = Rr X d MFl_readOne 110 [l0, l1, l2, .int x, l4] (.int x :: st) h := Rr_nx d_MFl_readOne_109 rfl
theorem r_MFl_readOne_110 {y0 : Int32} {a : Nat} (hO : qO a 8 = true) (hc : ckS st = true) : Rr X (d + 1) MFl_readOne 110 L (.int y0 :: .ref a :: st) (Wd mu la ro et) = (Rr X d MTa_skip 0 [.ref a, .int y0] [] (Wd mu la ro et)).bind fun q => Rr X (d + 1) MFl_readOne 113 L (psh q.1 st) q.2 := R_iv (av := [.int y0]) d_MFl_readOne_110 fc_3_32 hO (ckS_le hc) rfl (Nat.le_of_ble_eq_true rfl) (Nat.le_of_ble_eq_true rfl)
theorem r_MFl_readOne_113 {x : Int32} : Rr X d MFl_readOne 113 L (.int x :: st) h = if x = 0 then Rr X d MFl_readOne 128 L st h else Rr X d MFl_readOne 116 L st h := R_if_eq d_MFl_readOne_113 (by decide)
theorem r_MFl_readOne_116 {l1 l2 l3 l4 : Value} {x : Nat} : Rr X d MFl_readOne 116 [.ref x, l1, l2, l3, l4] st h = Rr X d MFl_readOne 117 [.ref x, l1, l2, l3, l4] (.ref x :: st) h := Rr_nx d_MFl_readOne_116 rfl
theorem r_MFl_readOne_117 {l0 l2 l3 l4 : Value} {x : Nat} : Rr X d MFl_readOne 117 [l0, .ref x, l2, l3, l4] st h = Rr X d MFl_readOne 118 [l0, .ref x, l2, l3, l4] (.ref x :: st) h := Rr_nx d_MFl_readOne_117 rfl
theorem r_MFl_readOne_117n {l0 l2 l3 l4 : Value} : Rr X d MFl_readOne 117 [l0, .null, l2, l3, l4] st h = Rr X d MFl_readOne 118 [l0, .null, l2, l3, l4] (.null :: st) h := Rr_nx d_MFl_readOne_117 rfl
theorem r_MFl_readOne_118 {l0 l1 l2 l4 : Value} {x : Int32} : Rr X d MFl_readOne 118 [l0, l1, l2, .int x, l4] st h = Rr X d MFl_readOne 119 [l0, l1, l2, .int x, l4] (.int x :: st) h := Rr_nx d_MFl_readOne_118 rfl
theorem r_MFl_readOne_119 {l0 l1 l3 l4 : Value} {x : Int32} : Rr X d MFl_readOne 119 [l0, l1, .int x, l3, l4] st h = Rr X d MFl_readOne 120 [l0, l1, .int x, l3, l4] (.int x :: st) h := Rr_nx d_MFl_readOne_119 rfl
theorem r_MFl_readOne_120 : Rr X d MFl_readOne 120 L st h = Rr X d MFl_readOne 121 L (.int (1) :: st) h := Rr_nx d_MFl_readOne_120 rfl
theorem r_MFl_readOne_121 {x y : Int32} : Rr X d MFl_readOne 121 L (.int y :: .int x :: st) h = Rr X d MFl_readOne 122 L (.int (x + y) :: st) h := Rr_nx d_MFl_readOne_121 rfl
theorem fc_3_60 : fC 3 60 = some (0, 3, 3, MFl_readOpened) := rfl
theorem r_MFl_readOne_122 {y0 : Nat} {y1 : Int32} {y2 : Int32} {a : Nat} (hO : qO a 3 = true) (hc : ckS st = true) : Rr X (d + 1) MFl_readOne 122 L (.int y2 :: .int y1 :: .ref y0 :: .ref a :: st) (Wd mu la ro et) = (Rr X d MFl_readOpened 0 [.ref a, .ref y0, .int y1, .int y2, mkU] [] (Wd mu la ro et)).bind fun q => Rr X (d + 1) MFl_readOne 125 L (psh q.1 st) q.2 := R_iv (av := [.int y2, .int y1, .ref y0]) d_MFl_readOne_122 fc_3_60 hO (ckS_le hc) rfl (Nat.le_of_ble_eq_true rfl) (Nat.le_of_ble_eq_true rfl)
theorem r_MFl_readOne_125 : Rr X d MFl_readOne 125 L st h = Rr X d MFl_readOne 129 L st h := R_goto d_MFl_readOne_125 (by decide)
theorem r_MFl_readOne_128 : Rr X d MFl_readOne 128 L st h = Rr X d MFl_readOne 129 L (.int (-1) :: st) h := Rr_nx d_MFl_readOne_128 rfl
theorem r_MFl_readOne_129 {x : Int32} : Rr X d MFl_readOne 129 L [.int x] h = some (some (.int x), h) := R_ir d_MFl_readOne_129 rfl
theorem r_MFl_readOne_130 {l0 l2 l3 l4 : Value} {x : Nat} : Rr X d MFl_readOne 130 [l0, .ref x, l2, l3, l4] st h = Rr X d MFl_readOne 131 [l0, .ref x, l2, l3, l4] (.ref x :: st) h := Rr_nx d_MFl_readOne_130 rfl
theorem r_MFl_readOne_130n {l0 l2 l3 l4 : Value} : Rr X d MFl_readOne 130 [l0, .null, l2, l3, l4] st h = Rr X d MFl_readOne 131 [l0, .null, l2, l3, l4] (.null :: st) h := Rr_nx d_MFl_readOne_130 rfl
theorem r_MFl_readOne_131 : Rr X d MFl_readOne 131 L st h = Rr X d MFl_readOne 132 L (.int (4) :: st) h := Rr_nx d_MFl_readOne_131 rfl
theorem fc_3_63 : fC 3 63 = some (0, 8, 1, MTa_number) := rfl
theorem r_MFl_readOne_132 {y0 : Int32} {a : Nat} (hO : qO a 8 = true) (hc : ckS st = true) : Rr X (d + 1) MFl_readOne 132 L (.int y0 :: .ref a :: st) (Wd mu la ro et) = (Rr X d MTa_number 0 [.ref a, .int y0, mkU, mkU, mkU, mkU] [] (Wd mu la ro et)).bind fun q => Rr X (d + 1) MFl_readOne 135 L (psh q.1 st) q.2 := R_iv (av := [.int y0]) d_MFl_readOne_132 fc_3_63 hO (ckS_le hc) rfl (Nat.le_of_ble_eq_true rfl) (Nat.le_of_ble_eq_true rfl)
theorem r_MFl_readOne_135 {l0 l1 l2 l3 l4 : Value} {x : Int32} : Rr X d MFl_readOne 135 [l0, l1, l2, l3, l4] (.int x :: st) h = Rr X d MFl_readOne 137 (sL [l0, l1, l2, l3, l4] 4 (.int x)) st h := Rr_nx d_MFl_readOne_135 rfl
theorem r_MFl_readOne_137 {l0 l1 l2 l3 : Value} {x : Int32} : Rr X d MFl_readOne 137 [l0, l1, l2, l3, .int x] st h = Rr X d MFl_readOne 139 [l0, l1, l2, l3, .int x] (.int x :: st) h := Rr_nx d_MFl_readOne_137 rfl
theorem r_MFl_readOne_139 {x : Int32} : Rr X d MFl_readOne 139 L (.int x :: st) h = if 0 ≤ x then Rr X d MFl_readOne 146 L st h else Rr X d MFl_readOne 142 L st h := R_if_ge d_MFl_readOne_139 (by decide)
theorem r_MFl_readOne_142 : Rr X d MFl_readOne 142 L st h = Rr X d MFl_readOne 143 L (.int (-1) :: st) h := Rr_nx d_MFl_readOne_142 rfl
theorem r_MFl_readOne_143 : Rr X d MFl_readOne 143 L st h = Rr X d MFl_readOne 152 L st h := R_goto d_MFl_readOne_143 (by decide)
theorem r_MFl_readOne_146 {l1 l2 l3 l4 : Value} {x : Nat} : Rr X d MFl_readOne 146 [.ref x, l1, l2, l3, l4] st h = Rr X d MFl_readOne 147 [.ref x, l1, l2, l3, l4] (.ref x :: st) h := Rr_nx d_MFl_readOne_146 rfl
theorem r_MFl_readOne_147 {l0 l1 l2 l3 : Value} {x : Int32} : Rr X d MFl_readOne 147 [l0, l1, l2, l3, .int x] st h = Rr X d MFl_readOne 149 [l0, l1, l2, l3, .int x] (.int x :: st) h := Rr_nx d_MFl_readOne_147 rfl
theorem fc_3_66 : fC 3 66 = some (0, 3, 1, MFl_appendNumber) := rfl
theorem r_MFl_readOne_149 {y0 : Int32} {a : Nat} (hO : qO a 3 = true) (hc : ckS st = true) : Rr X (d + 1) MFl_readOne 149 L (.int y0 :: .ref a :: st) (Wd mu la ro et) = (Rr X d MFl_appendNumber 0 [.ref a, .int y0, mkU] [] (Wd mu la ro et)).bind fun q => Rr X (d + 1) MFl_readOne 152 L (psh q.1 st) q.2 := R_iv (av := [.int y0]) d_MFl_readOne_149 fc_3_66 hO (ckS_le hc) rfl (Nat.le_of_ble_eq_true rfl) (Nat.le_of_ble_eq_true rfl)
theorem r_MFl_readOne_152 {x : Int32} : Rr X d MFl_readOne 152 L [.int x] h = some (some (.int x), h) := R_ir d_MFl_readOne_152 rfl
theorem d_MFl_readOpened_0 : decode MFl_readOpened.2.2.1 0 = .ok (.iload_n 2, 1) := lkT_ok tk_MFl_readOpened rfl
theorem d_MFl_readOpened_1 : decode MFl_readOpened.2.2.1 1 = .ok (.bipush 40, 2) := lkT_ok tk_MFl_readOpened rfl
theorem d_MFl_readOpened_3 : decode MFl_readOpened.2.2.1 3 = .ok (.if_icmp .ne 34, 3) := lkT_ok tk_MFl_readOpened rfl
theorem d_MFl_readOpened_6 : decode MFl_readOpened.2.2.1 6 = .ok (.aload_n 0, 1) := lkT_ok tk_MFl_readOpened rfl
theorem d_MFl_readOpened_7 : decode MFl_readOpened.2.2.1 7 = .ok (.aload_n 1, 1) := lkT_ok tk_MFl_readOpened rfl
theorem d_MFl_readOpened_8 : decode MFl_readOpened.2.2.1 8 = .ok (.iconst 0, 1) := lkT_ok tk_MFl_readOpened rfl
theorem d_MFl_readOpened_9 : decode MFl_readOpened.2.2.1 9 = .ok (.iload_n 3, 1) := lkT_ok tk_MFl_readOpened rfl
theorem d_MFl_readOpened_10 : decode MFl_readOpened.2.2.1 10 = .ok (.invokevirtual 40, 3) := lkT_ok tk_MFl_readOpened rfl
theorem d_MFl_readOpened_13 : decode MFl_readOpened.2.2.1 13 = .ok (.istore 4, 2) := lkT_ok tk_MFl_readOpened rfl
theorem d_MFl_readOpened_15 : decode MFl_readOpened.2.2.1 15 = .ok (.iload 4, 2) := lkT_ok tk_MFl_readOpened rfl
theorem d_MFl_readOpened_17 : decode MFl_readOpened.2.2.1 17 = .ok (.iconst (-1), 1) := lkT_ok tk_MFl_readOpened rfl
theorem d_MFl_readOpened_18 : decode MFl_readOpened.2.2.1 18 = .ok (.if_icmp .eq 17, 3) := lkT_ok tk_MFl_readOpened rfl
theorem d_MFl_readOpened_21 : decode MFl_readOpened.2.2.1 21 = .ok (.aload_n 1, 1) := lkT_ok tk_MFl_readOpened rfl
theorem d_MFl_readOpened_22 : decode MFl_readOpened.2.2.1 22 = .ok (.bipush 41, 2) := lkT_ok tk_MFl_readOpened rfl
theorem d_MFl_readOpened_24 : decode MFl_readOpened.2.2.1 24 = .ok (.invokevirtual 32, 3) := lkT_ok tk_MFl_readOpened rfl
theorem d_MFl_readOpened_27 : decode MFl_readOpened.2.2.1 27 = .ok (.ifCond .eq 8, 3) := lkT_ok tk_MFl_readOpened rfl
theorem d_MFl_readOpened_30 : decode MFl_readOpened.2.2.1 30 = .ok (.iload 4, 2) := lkT_ok tk_MFl_readOpened rfl
theorem d_MFl_readOpened_32 : decode MFl_readOpened.2.2.1 32 = .ok (.goto 4, 3) := lkT_ok tk_MFl_readOpened rfl
theorem d_MFl_readOpened_35 : decode MFl_readOpened.2.2.1 35 = .ok (.iconst (-1), 1) := lkT_ok tk_MFl_readOpened rfl
theorem d_MFl_readOpened_36 : decode MFl_readOpened.2.2.1 36 = .ok (.ireturn, 1) := lkT_ok tk_MFl_readOpened rfl
theorem d_MFl_readOpened_37 : decode MFl_readOpened.2.2.1 37 = .ok (.aload_n 0, 1) := lkT_ok tk_MFl_readOpened rfl
theorem d_MFl_readOpened_38 : decode MFl_readOpened.2.2.1 38 = .ok (.aload_n 1, 1) := lkT_ok tk_MFl_readOpened rfl
theorem d_MFl_readOpened_39 : decode MFl_readOpened.2.2.1 39 = .ok (.iload_n 3, 1) := lkT_ok tk_MFl_readOpened rfl
theorem d_MFl_readOpened_40 : decode MFl_readOpened.2.2.1 40 = .ok (.invokevirtual 48, 3) := lkT_ok tk_MFl_readOpened rfl
theorem d_MFl_readOpened_43 : decode MFl_readOpened.2.2.1 43 = .ok (.istore 4, 2) := lkT_ok tk_MFl_readOpened rfl
theorem d_MFl_readOpened_45 : decode MFl_readOpened.2.2.1 45 = .ok (.iload 4, 2) := lkT_ok tk_MFl_readOpened rfl
theorem d_MFl_readOpened_47 : decode MFl_readOpened.2.2.1 47 = .ok (.iconst (-1), 1) := lkT_ok tk_MFl_readOpened rfl
theorem d_MFl_readOpened_48 : decode MFl_readOpened.2.2.1 48 = .ok (.if_icmp .ne 7, 3) := lkT_ok tk_MFl_readOpened rfl
theorem d_MFl_readOpened_51 : decode MFl_readOpened.2.2.1 51 = .ok (.iconst (-1), 1) := lkT_ok tk_MFl_readOpened rfl
theorem d_MFl_readOpened_52 : decode MFl_readOpened.2.2.1 52 = .ok (.goto 21, 3) := lkT_ok tk_MFl_readOpened rfl
theorem d_MFl_readOpened_55 : decode MFl_readOpened.2.2.1 55 = .ok (.aload_n 0, 1) := lkT_ok tk_MFl_readOpened rfl
theorem d_MFl_readOpened_56 : decode MFl_readOpened.2.2.1 56 = .ok (.iload_n 2, 1) := lkT_ok tk_MFl_readOpened rfl
theorem d_MFl_readOpened_57 : decode MFl_readOpened.2.2.1 57 = .ok (.bipush 45, 2) := lkT_ok tk_MFl_readOpened rfl
theorem d_MFl_readOpened_59 : decode MFl_readOpened.2.2.1 59 = .ok (.if_icmp .ne 7, 3) := lkT_ok tk_MFl_readOpened rfl
theorem d_MFl_readOpened_62 : decode MFl_readOpened.2.2.1 62 = .ok (.iconst 2, 1) := lkT_ok tk_MFl_readOpened rfl
theorem d_MFl_readOpened_63 : decode MFl_readOpened.2.2.1 63 = .ok (.goto 4, 3) := lkT_ok tk_MFl_readOpened rfl
theorem d_MFl_readOpened_66 : decode MFl_readOpened.2.2.1 66 = .ok (.iload_n 2, 1) := lkT_ok tk_MFl_readOpened rfl
theorem d_MFl_readOpened_67 : decode MFl_readOpened.2.2.1 67 = .ok (.iload 4, 2) := lkT_ok tk_MFl_readOpened rfl
theorem d_MFl_readOpened_69 : decode MFl_readOpened.2.2.1 69 = .ok (.iconst (-1), 1) := lkT_ok tk_MFl_readOpened rfl
theorem d_MFl_readOpened_70 : decode MFl_readOpened.2.2.1 70 = .ok (.invokevirtual 44, 3) := lkT_ok tk_MFl_readOpened rfl
theorem d_MFl_readOpened_73 : decode MFl_readOpened.2.2.1 73 = .ok (.ireturn, 1) := lkT_ok tk_MFl_readOpened rfl
theorem r_MFl_readOpened_0 {l0 l1 l3 l4 : Value} {x : Int32} : Rr X d MFl_readOpened 0 [l0, l1, .int x, l3, l4] st h = Rr X d MFl_readOpened 1 [l0, l1, .int x, l3, l4] (.int x :: st) h := Rr_nx d_MFl_readOpened_0 rfl
theorem r_MFl_readOpened_1 : Rr X d MFl_readOpened 1 L st h = Rr X d MFl_readOpened 3 L (.int (40) :: st) h := Rr_nx d_MFl_readOpened_1 rfl
theorem r_MFl_readOpened_3 {x y : Int32} : Rr X d MFl_readOpened 3 L (.int y :: .int x :: st) h = if ¬ x = y then Rr X d MFl_readOpened 37 L st h else Rr X d MFl_readOpened 6 L st h := R_ic_ne d_MFl_readOpened_3 (by decide)
theorem r_MFl_readOpened_6 {l1 l2 l3 l4 : Value} {x : Nat} : Rr X d MFl_readOpened 6 [.ref x, l1, l2, l3, l4] st h = Rr X d MFl_readOpened 7 [.ref x, l1, l2, l3, l4] (.ref x :: st) h := Rr_nx d_MFl_readOpened_6 rfl
theorem r_MFl_readOpened_7 {l0 l2 l3 l4 : Value} {x : Nat} : Rr X d MFl_readOpened 7 [l0, .ref x, l2, l3, l4] st h = Rr X d MFl_readOpened 8 [l0, .ref x, l2, l3, l4] (.ref x :: st) h := Rr_nx d_MFl_readOpened_7 rfl
theorem r_MFl_readOpened_7n {l0 l2 l3 l4 : Value} : Rr X d MFl_readOpened 7 [l0, .null, l2, l3, l4] st h = Rr X d MFl_readOpened 8 [l0, .null, l2, l3, l4] (.null :: st) h := Rr_nx d_MFl_readOpened_7 rfl
theorem r_MFl_readOpened_8 : Rr X d MFl_readOpened 8 L st h = Rr X d MFl_readOpened 9 L (.int (0) :: st) h := Rr_nx d_MFl_readOpened_8 rfl
theorem r_MFl_readOpened_9 {l0 l1 l2 l4 : Value} {x : Int32} : Rr X d MFl_readOpened 9 [l0, l1, l2, .int x, l4] st h = Rr X d MFl_readOpened 10 [l0, l1, l2, .int x, l4] (.int x :: st) h := Rr_nx d_MFl_readOpened_9 rfl
theorem r_MFl_readOpened_10 {y0 : Nat} {y1 : Int32} {y2 : Int32} {a : Nat} (hO : qO a 3 = true) (hc : ckS st = true) : Rr X (d + 1) MFl_readOpened 10 L (.int y2 :: .int y1 :: .ref y0 :: .ref a :: st) (Wd mu la ro et) = (Rr X d MFl_readJoined 0 [.ref a, .ref y0, .int y1, .int y2, mkU, mkU, mkU, mkU, mkU] [] (Wd mu la ro et)).bind fun q => Rr X (d + 1) MFl_readOpened 13 L (psh q.1 st) q.2 := R_iv (av := [.int y2, .int y1, .ref y0]) d_MFl_readOpened_10 fc_3_40 hO (ckS_le hc) rfl (Nat.le_of_ble_eq_true rfl) (Nat.le_of_ble_eq_true rfl)
theorem r_MFl_readOpened_13 {l0 l1 l2 l3 l4 : Value} {x : Int32} : Rr X d MFl_readOpened 13 [l0, l1, l2, l3, l4] (.int x :: st) h = Rr X d MFl_readOpened 15 (sL [l0, l1, l2, l3, l4] 4 (.int x)) st h := Rr_nx d_MFl_readOpened_13 rfl
theorem r_MFl_readOpened_15 {l0 l1 l2 l3 : Value} {x : Int32} : Rr X d MFl_readOpened 15 [l0, l1, l2, l3, .int x] st h = Rr X d MFl_readOpened 17 [l0, l1, l2, l3, .int x] (.int x :: st) h := Rr_nx d_MFl_readOpened_15 rfl
theorem r_MFl_readOpened_17 : Rr X d MFl_readOpened 17 L st h = Rr X d MFl_readOpened 18 L (.int (-1) :: st) h := Rr_nx d_MFl_readOpened_17 rfl
theorem r_MFl_readOpened_18 {x y : Int32} : Rr X d MFl_readOpened 18 L (.int y :: .int x :: st) h = if x = y then Rr X d MFl_readOpened 35 L st h else Rr X d MFl_readOpened 21 L st h := R_ic_eq d_MFl_readOpened_18 (by decide)
theorem r_MFl_readOpened_21 {l0 l2 l3 l4 : Value} {x : Nat} : Rr X d MFl_readOpened 21 [l0, .ref x, l2, l3, l4] st h = Rr X d MFl_readOpened 22 [l0, .ref x, l2, l3, l4] (.ref x :: st) h := Rr_nx d_MFl_readOpened_21 rfl
theorem r_MFl_readOpened_21n {l0 l2 l3 l4 : Value} : Rr X d MFl_readOpened 21 [l0, .null, l2, l3, l4] st h = Rr X d MFl_readOpened 22 [l0, .null, l2, l3, l4] (.null :: st) h := Rr_nx d_MFl_readOpened_21 rfl
theorem r_MFl_readOpened_22 : Rr X d MFl_readOpened 22 L st h = Rr X d MFl_readOpened 24 L (.int (41) :: st) h := Rr_nx d_MFl_readOpened_22 rfl
theorem r_MFl_readOpened_24 {y0 : Int32} {a : Nat} (hO : qO a 8 = true) (hc : ckS st = true) : Rr X (d + 1) MFl_readOpened 24 L (.int y0 :: .ref a :: st) (Wd mu la ro et) = (Rr X d MTa_skip 0 [.ref a, .int y0] [] (Wd mu la ro et)).bind fun q => Rr X (d + 1) MFl_readOpened 27 L (psh q.1 st) q.2 := R_iv (av := [.int y0]) d_MFl_readOpened_24 fc_3_32 hO (ckS_le hc) rfl (Nat.le_of_ble_eq_true rfl) (Nat.le_of_ble_eq_true rfl)
theorem r_MFl_readOpened_27 {x : Int32} : Rr X d MFl_readOpened 27 L (.int x :: st) h = if x = 0 then Rr X d MFl_readOpened 35 L st h else Rr X d MFl_readOpened 30 L st h := R_if_eq d_MFl_readOpened_27 (by decide)
theorem r_MFl_readOpened_30 {l0 l1 l2 l3 : Value} {x : Int32} : Rr X d MFl_readOpened 30 [l0, l1, l2, l3, .int x] st h = Rr X d MFl_readOpened 32 [l0, l1, l2, l3, .int x] (.int x :: st) h := Rr_nx d_MFl_readOpened_30 rfl
theorem r_MFl_readOpened_32 : Rr X d MFl_readOpened 32 L st h = Rr X d MFl_readOpened 36 L st h := R_goto d_MFl_readOpened_32 (by decide)
theorem r_MFl_readOpened_35 : Rr X d MFl_readOpened 35 L st h = Rr X d MFl_readOpened 36 L (.int (-1) :: st) h := Rr_nx d_MFl_readOpened_35 rfl
theorem r_MFl_readOpened_36 {x : Int32} : Rr X d MFl_readOpened 36 L [.int x] h = some (some (.int x), h) := R_ir d_MFl_readOpened_36 rfl
theorem r_MFl_readOpened_37 {l1 l2 l3 l4 : Value} {x : Nat} : Rr X d MFl_readOpened 37 [.ref x, l1, l2, l3, l4] st h = Rr X d MFl_readOpened 38 [.ref x, l1, l2, l3, l4] (.ref x :: st) h := Rr_nx d_MFl_readOpened_37 rfl
theorem r_MFl_readOpened_38 {l0 l2 l3 l4 : Value} {x : Nat} : Rr X d MFl_readOpened 38 [l0, .ref x, l2, l3, l4] st h = Rr X d MFl_readOpened 39 [l0, .ref x, l2, l3, l4] (.ref x :: st) h := Rr_nx d_MFl_readOpened_38 rfl
theorem r_MFl_readOpened_38n {l0 l2 l3 l4 : Value} : Rr X d MFl_readOpened 38 [l0, .null, l2, l3, l4] st h = Rr X d MFl_readOpened 39 [l0, .null, l2, l3, l4] (.null :: st) h := Rr_nx d_MFl_readOpened_38 rfl
theorem r_MFl_readOpened_39 {l0 l1 l2 l4 : Value} {x : Int32} : Rr X d MFl_readOpened 39 [l0, l1, l2, .int x, l4] st h = Rr X d MFl_readOpened 40 [l0, l1, l2, .int x, l4] (.int x :: st) h := Rr_nx d_MFl_readOpened_39 rfl
theorem r_MFl_readOpened_40 {y0 : Nat} {y1 : Int32} {a : Nat} (hO : qO a 3 = true) (hc : ckS st = true) : Rr X (d + 1) MFl_readOpened 40 L (.int y1 :: .ref y0 :: .ref a :: st) (Wd mu la ro et) = (Rr X d MFl_readOne 0 [.ref a, .ref y0, .int y1, mkU, mkU] [] (Wd mu la ro et)).bind fun q => Rr X (d + 1) MFl_readOpened 43 L (psh q.1 st) q.2 := R_iv (av := [.int y1, .ref y0]) d_MFl_readOpened_40 fc_3_48 hO (ckS_le hc) rfl (Nat.le_of_ble_eq_true rfl) (Nat.le_of_ble_eq_true rfl)
theorem r_MFl_readOpened_43 {l0 l1 l2 l3 l4 : Value} {x : Int32} : Rr X d MFl_readOpened 43 [l0, l1, l2, l3, l4] (.int x :: st) h = Rr X d MFl_readOpened 45 (sL [l0, l1, l2, l3, l4] 4 (.int x)) st h := Rr_nx d_MFl_readOpened_43 rfl
theorem r_MFl_readOpened_45 {l0 l1 l2 l3 : Value} {x : Int32} : Rr X d MFl_readOpened 45 [l0, l1, l2, l3, .int x] st h = Rr X d MFl_readOpened 47 [l0, l1, l2, l3, .int x] (.int x :: st) h := Rr_nx d_MFl_readOpened_45 rfl
theorem r_MFl_readOpened_47 : Rr X d MFl_readOpened 47 L st h = Rr X d MFl_readOpened 48 L (.int (-1) :: st) h := Rr_nx d_MFl_readOpened_47 rfl
theorem r_MFl_readOpened_48 {x y : Int32} : Rr X d MFl_readOpened 48 L (.int y :: .int x :: st) h = if ¬ x = y then Rr X d MFl_readOpened 55 L st h else Rr X d MFl_readOpened 51 L st h := R_ic_ne d_MFl_readOpened_48 (by decide)
theorem r_MFl_readOpened_51 : Rr X d MFl_readOpened 51 L st h = Rr X d MFl_readOpened 52 L (.int (-1) :: st) h := Rr_nx d_MFl_readOpened_51 rfl
theorem r_MFl_readOpened_52 : Rr X d MFl_readOpened 52 L st h = Rr X d MFl_readOpened 73 L st h := R_goto d_MFl_readOpened_52 (by decide)
theorem r_MFl_readOpened_55 {l1 l2 l3 l4 : Value} {x : Nat} : Rr X d MFl_readOpened 55 [.ref x, l1, l2, l3, l4] st h = Rr X d MFl_readOpened 56 [.ref x, l1, l2, l3, l4] (.ref x :: st) h := Rr_nx d_MFl_readOpened_55 rfl
theorem r_MFl_readOpened_56 {l0 l1 l3 l4 : Value} {x : Int32} : Rr X d MFl_readOpened 56 [l0, l1, .int x, l3, l4] st h = Rr X d MFl_readOpened 57 [l0, l1, .int x, l3, l4] (.int x :: st) h := Rr_nx d_MFl_readOpened_56 rfl
theorem r_MFl_readOpened_57 : Rr X d MFl_readOpened 57 L st h = Rr X d MFl_readOpened 59 L (.int (45) :: st) h := Rr_nx d_MFl_readOpened_57 rfl
theorem r_MFl_readOpened_59 {x y : Int32} : Rr X d MFl_readOpened 59 L (.int y :: .int x :: st) h = if ¬ x = y then Rr X d MFl_readOpened 66 L st h else Rr X d MFl_readOpened 62 L st h := R_ic_ne d_MFl_readOpened_59 (by decide)
theorem r_MFl_readOpened_62 : Rr X d MFl_readOpened 62 L st h = Rr X d MFl_readOpened 63 L (.int (2) :: st) h := Rr_nx d_MFl_readOpened_62 rfl
theorem r_MFl_readOpened_63 : Rr X d MFl_readOpened 63 L st h = Rr X d MFl_readOpened 67 L st h := R_goto d_MFl_readOpened_63 (by decide)
theorem r_MFl_readOpened_66 {l0 l1 l3 l4 : Value} {x : Int32} : Rr X d MFl_readOpened 66 [l0, l1, .int x, l3, l4] st h = Rr X d MFl_readOpened 67 [l0, l1, .int x, l3, l4] (.int x :: st) h := Rr_nx d_MFl_readOpened_66 rfl
theorem r_MFl_readOpened_67 {l0 l1 l2 l3 : Value} {x : Int32} : Rr X d MFl_readOpened 67 [l0, l1, l2, l3, .int x] st h = Rr X d MFl_readOpened 69 [l0, l1, l2, l3, .int x] (.int x :: st) h := Rr_nx d_MFl_readOpened_67 rfl
theorem r_MFl_readOpened_69 : Rr X d MFl_readOpened 69 L st h = Rr X d MFl_readOpened 70 L (.int (-1) :: st) h := Rr_nx d_MFl_readOpened_69 rfl
theorem r_MFl_readOpened_70 {y0 : Int32} {y1 : Int32} {y2 : Int32} {a : Nat} (hO : qO a 3 = true) (hc : ckS st = true) : Rr X (d + 1) MFl_readOpened 70 L (.int y2 :: .int y1 :: .int y0 :: .ref a :: st) (Wd mu la ro et) = (Rr X d MFl_append 0 [.ref a, .int y0, .int y1, .int y2] [] (Wd mu la ro et)).bind fun q => Rr X (d + 1) MFl_readOpened 73 L (psh q.1 st) q.2 := R_iv (av := [.int y2, .int y1, .int y0]) d_MFl_readOpened_70 fc_3_44 hO (ckS_le hc) rfl (Nat.le_of_ble_eq_true rfl) (Nat.le_of_ble_eq_true rfl)
theorem r_MFl_readOpened_73 {x : Int32} : Rr X d MFl_readOpened 73 L [.int x] h = some (some (.int x), h) := R_ir d_MFl_readOpened_73 rfl
theorem d_MFl_append_0 : decode MFl_append.2.2.1 0 = .ok (.aload_n 0, 1) := lkT_ok tk_MFl_append rfl
theorem d_MFl_append_1 : decode MFl_append.2.2.1 1 = .ok (.getfield 24, 3) := lkT_ok tk_MFl_append rfl
theorem d_MFl_append_4 : decode MFl_append.2.2.1 4 = .ok (.ifCond .lt 12, 3) := lkT_ok tk_MFl_append rfl
theorem d_MFl_append_7 : decode MFl_append.2.2.1 7 = .ok (.aload_n 0, 1) := lkT_ok tk_MFl_append rfl
theorem d_MFl_append_8 : decode MFl_append.2.2.1 8 = .ok (.getfield 24, 3) := lkT_ok tk_MFl_append rfl
theorem d_MFl_append_11 : decode MFl_append.2.2.1 11 = .ok (.bipush 121, 2) := lkT_ok tk_MFl_append rfl
theorem d_MFl_append_13 : decode MFl_append.2.2.1 13 = .ok (.if_icmp .lt 5, 3) := lkT_ok tk_MFl_append rfl
theorem d_MFl_append_16 : decode MFl_append.2.2.1 16 = .ok (.iconst (-1), 1) := lkT_ok tk_MFl_append rfl
theorem d_MFl_append_17 : decode MFl_append.2.2.1 17 = .ok (.ireturn, 1) := lkT_ok tk_MFl_append rfl
theorem d_MFl_append_18 : decode MFl_append.2.2.1 18 = .ok (.aload_n 0, 1) := lkT_ok tk_MFl_append rfl
theorem d_MFl_append_19 : decode MFl_append.2.2.1 19 = .ok (.getfield 11, 3) := lkT_ok tk_MFl_append rfl
theorem d_MFl_append_22 : decode MFl_append.2.2.1 22 = .ok (.aload_n 0, 1) := lkT_ok tk_MFl_append rfl
theorem d_MFl_append_23 : decode MFl_append.2.2.1 23 = .ok (.getfield 24, 3) := lkT_ok tk_MFl_append rfl
theorem d_MFl_append_26 : decode MFl_append.2.2.1 26 = .ok (.iload_n 1, 1) := lkT_ok tk_MFl_append rfl
theorem d_MFl_append_27 : decode MFl_append.2.2.1 27 = .ok (.iastore, 1) := lkT_ok tk_MFl_append rfl
theorem d_MFl_append_28 : decode MFl_append.2.2.1 28 = .ok (.aload_n 0, 1) := lkT_ok tk_MFl_append rfl
theorem d_MFl_append_29 : decode MFl_append.2.2.1 29 = .ok (.getfield 15, 3) := lkT_ok tk_MFl_append rfl
theorem d_MFl_append_32 : decode MFl_append.2.2.1 32 = .ok (.aload_n 0, 1) := lkT_ok tk_MFl_append rfl
theorem d_MFl_append_33 : decode MFl_append.2.2.1 33 = .ok (.getfield 24, 3) := lkT_ok tk_MFl_append rfl
theorem d_MFl_append_36 : decode MFl_append.2.2.1 36 = .ok (.iload_n 2, 1) := lkT_ok tk_MFl_append rfl
theorem d_MFl_append_37 : decode MFl_append.2.2.1 37 = .ok (.iastore, 1) := lkT_ok tk_MFl_append rfl
theorem d_MFl_append_38 : decode MFl_append.2.2.1 38 = .ok (.aload_n 0, 1) := lkT_ok tk_MFl_append rfl
theorem d_MFl_append_39 : decode MFl_append.2.2.1 39 = .ok (.getfield 18, 3) := lkT_ok tk_MFl_append rfl
theorem d_MFl_append_42 : decode MFl_append.2.2.1 42 = .ok (.aload_n 0, 1) := lkT_ok tk_MFl_append rfl
theorem d_MFl_append_43 : decode MFl_append.2.2.1 43 = .ok (.getfield 24, 3) := lkT_ok tk_MFl_append rfl
theorem d_MFl_append_46 : decode MFl_append.2.2.1 46 = .ok (.iload_n 3, 1) := lkT_ok tk_MFl_append rfl
theorem d_MFl_append_47 : decode MFl_append.2.2.1 47 = .ok (.iastore, 1) := lkT_ok tk_MFl_append rfl
theorem d_MFl_append_48 : decode MFl_append.2.2.1 48 = .ok (.aload_n 0, 1) := lkT_ok tk_MFl_append rfl
theorem d_MFl_append_49 : decode MFl_append.2.2.1 49 = .ok (.dup, 1) := lkT_ok tk_MFl_append rfl
theorem d_MFl_append_50 : decode MFl_append.2.2.1 50 = .ok (.getfield 24, 3) := lkT_ok tk_MFl_append rfl
theorem d_MFl_append_53 : decode MFl_append.2.2.1 53 = .ok (.iconst 1, 1) := lkT_ok tk_MFl_append rfl
theorem d_MFl_append_54 : decode MFl_append.2.2.1 54 = .ok (.iadd, 1) := lkT_ok tk_MFl_append rfl
theorem d_MFl_append_55 : decode MFl_append.2.2.1 55 = .ok (.putfield 24, 3) := lkT_ok tk_MFl_append rfl
theorem d_MFl_append_58 : decode MFl_append.2.2.1 58 = .ok (.aload_n 0, 1) := lkT_ok tk_MFl_append rfl
theorem d_MFl_append_59 : decode MFl_append.2.2.1 59 = .ok (.getfield 24, 3) := lkT_ok tk_MFl_append rfl
theorem d_MFl_append_62 : decode MFl_append.2.2.1 62 = .ok (.iconst 1, 1) := lkT_ok tk_MFl_append rfl
theorem d_MFl_append_63 : decode MFl_append.2.2.1 63 = .ok (.isub, 1) := lkT_ok tk_MFl_append rfl
theorem d_MFl_append_64 : decode MFl_append.2.2.1 64 = .ok (.ireturn, 1) := lkT_ok tk_MFl_append rfl
theorem r_MFl_append_0 {l1 l2 l3 : Value} {x : Nat} : Rr X d MFl_append 0 [.ref x, l1, l2, l3] st h = Rr X d MFl_append 1 [.ref x, l1, l2, l3] (.ref x :: st) h := Rr_nx d_MFl_append_0 rfl
theorem r_MFl_append_1 {a : Nat} (hq : qI a 3 4 = true) : Rr X d MFl_append 1 L (.ref a :: st) (Wd mu la ro et) = Rr X d MFl_append 4 L (.int (mu a 4) :: st) (Wd mu la ro et) := R_gfI d_MFl_append_1 ff_3_24 hq
theorem r_MFl_append_4 {x : Int32} : Rr X d MFl_append 4 L (.int x :: st) h = if x < 0 then Rr X d MFl_append 16 L st h else Rr X d MFl_append 7 L st h := R_if_lt d_MFl_append_4 (by decide)
theorem r_MFl_append_7 {l1 l2 l3 : Value} {x : Nat} : Rr X d MFl_append 7 [.ref x, l1, l2, l3] st h = Rr X d MFl_append 8 [.ref x, l1, l2, l3] (.ref x :: st) h := Rr_nx d_MFl_append_7 rfl
theorem r_MFl_append_8 {a : Nat} (hq : qI a 3 4 = true) : Rr X d MFl_append 8 L (.ref a :: st) (Wd mu la ro et) = Rr X d MFl_append 11 L (.int (mu a 4) :: st) (Wd mu la ro et) := R_gfI d_MFl_append_8 ff_3_24 hq
theorem r_MFl_append_11 : Rr X d MFl_append 11 L st h = Rr X d MFl_append 13 L (.int (121) :: st) h := Rr_nx d_MFl_append_11 rfl
theorem r_MFl_append_13 {x y : Int32} : Rr X d MFl_append 13 L (.int y :: .int x :: st) h = if x < y then Rr X d MFl_append 18 L st h else Rr X d MFl_append 16 L st h := R_ic_lt d_MFl_append_13 (by decide)
theorem r_MFl_append_16 : Rr X d MFl_append 16 L st h = Rr X d MFl_append 17 L (.int (-1) :: st) h := Rr_nx d_MFl_append_16 rfl
theorem r_MFl_append_17 {x : Int32} : Rr X d MFl_append 17 L [.int x] h = some (some (.int x), h) := R_ir d_MFl_append_17 rfl
theorem r_MFl_append_18 {l1 l2 l3 : Value} {x : Nat} : Rr X d MFl_append 18 [.ref x, l1, l2, l3] st h = Rr X d MFl_append 19 [.ref x, l1, l2, l3] (.ref x :: st) h := Rr_nx d_MFl_append_18 rfl
theorem ff_3_11 : fF 3 11 = some (3, 0, 1, 1) := rfl
theorem r_MFl_append_19 {a : Nat} (hq : (qR a 3 0).isSome = true) : Rr X d MFl_append 19 L (.ref a :: st) (Wd mu la ro et) = Rr X d MFl_append 22 L (.ref (qRd a 3 0) :: st) (Wd mu la ro et) := R_gfR d_MFl_append_19 ff_3_11 hq
theorem r_MFl_append_22 {l1 l2 l3 : Value} {x : Nat} : Rr X d MFl_append 22 [.ref x, l1, l2, l3] st h = Rr X d MFl_append 23 [.ref x, l1, l2, l3] (.ref x :: st) h := Rr_nx d_MFl_append_22 rfl
theorem r_MFl_append_23 {a : Nat} (hq : qI a 3 4 = true) : Rr X d MFl_append 23 L (.ref a :: st) (Wd mu la ro et) = Rr X d MFl_append 26 L (.int (mu a 4) :: st) (Wd mu la ro et) := R_gfI d_MFl_append_23 ff_3_24 hq
theorem r_MFl_append_26 {l0 l2 l3 : Value} {x : Int32} : Rr X d MFl_append 26 [l0, .int x, l2, l3] st h = Rr X d MFl_append 27 [l0, .int x, l2, l3] (.int x :: st) h := Rr_nx d_MFl_append_26 rfl
theorem r_MFl_append_27 {a : Nat} {j x : Int32} (hq : (qA a 0).isSome = true) : Rr X d MFl_append 27 L (.int x :: .int j :: .ref a :: st) (Wd mu la ro et) = if j < 0 ∨ qAd a 0 ≤ j.toNatClampNeg then none else Rr X d MFl_append 28 L st (Wd (up2 mu a j.toNatClampNeg (x)) la ro et) := R_iasW d_MFl_append_27 hq
theorem r_MFl_append_28 {l1 l2 l3 : Value} {x : Nat} : Rr X d MFl_append 28 [.ref x, l1, l2, l3] st h = Rr X d MFl_append 29 [.ref x, l1, l2, l3] (.ref x :: st) h := Rr_nx d_MFl_append_28 rfl
theorem ff_3_15 : fF 3 15 = some (3, 1, 1, 1) := rfl
theorem r_MFl_append_29 {a : Nat} (hq : (qR a 3 1).isSome = true) : Rr X d MFl_append 29 L (.ref a :: st) (Wd mu la ro et) = Rr X d MFl_append 32 L (.ref (qRd a 3 1) :: st) (Wd mu la ro et) := R_gfR d_MFl_append_29 ff_3_15 hq
theorem r_MFl_append_32 {l1 l2 l3 : Value} {x : Nat} : Rr X d MFl_append 32 [.ref x, l1, l2, l3] st h = Rr X d MFl_append 33 [.ref x, l1, l2, l3] (.ref x :: st) h := Rr_nx d_MFl_append_32 rfl
theorem r_MFl_append_33 {a : Nat} (hq : qI a 3 4 = true) : Rr X d MFl_append 33 L (.ref a :: st) (Wd mu la ro et) = Rr X d MFl_append 36 L (.int (mu a 4) :: st) (Wd mu la ro et) := R_gfI d_MFl_append_33 ff_3_24 hq
theorem r_MFl_append_36 {l0 l1 l3 : Value} {x : Int32} : Rr X d MFl_append 36 [l0, l1, .int x, l3] st h = Rr X d MFl_append 37 [l0, l1, .int x, l3] (.int x :: st) h := Rr_nx d_MFl_append_36 rfl
theorem r_MFl_append_37 {a : Nat} {j x : Int32} (hq : (qA a 0).isSome = true) : Rr X d MFl_append 37 L (.int x :: .int j :: .ref a :: st) (Wd mu la ro et) = if j < 0 ∨ qAd a 0 ≤ j.toNatClampNeg then none else Rr X d MFl_append 38 L st (Wd (up2 mu a j.toNatClampNeg (x)) la ro et) := R_iasW d_MFl_append_37 hq
theorem r_MFl_append_38 {l1 l2 l3 : Value} {x : Nat} : Rr X d MFl_append 38 [.ref x, l1, l2, l3] st h = Rr X d MFl_append 39 [.ref x, l1, l2, l3] (.ref x :: st) h := Rr_nx d_MFl_append_38 rfl
theorem ff_3_18 : fF 3 18 = some (3, 2, 1, 1) := rfl
theorem r_MFl_append_39 {a : Nat} (hq : (qR a 3 2).isSome = true) : Rr X d MFl_append 39 L (.ref a :: st) (Wd mu la ro et) = Rr X d MFl_append 42 L (.ref (qRd a 3 2) :: st) (Wd mu la ro et) := R_gfR d_MFl_append_39 ff_3_18 hq
theorem r_MFl_append_42 {l1 l2 l3 : Value} {x : Nat} : Rr X d MFl_append 42 [.ref x, l1, l2, l3] st h = Rr X d MFl_append 43 [.ref x, l1, l2, l3] (.ref x :: st) h := Rr_nx d_MFl_append_42 rfl
theorem r_MFl_append_43 {a : Nat} (hq : qI a 3 4 = true) : Rr X d MFl_append 43 L (.ref a :: st) (Wd mu la ro et) = Rr X d MFl_append 46 L (.int (mu a 4) :: st) (Wd mu la ro et) := R_gfI d_MFl_append_43 ff_3_24 hq
theorem r_MFl_append_46 {l0 l1 l2 : Value} {x : Int32} : Rr X d MFl_append 46 [l0, l1, l2, .int x] st h = Rr X d MFl_append 47 [l0, l1, l2, .int x] (.int x :: st) h := Rr_nx d_MFl_append_46 rfl
theorem r_MFl_append_47 {a : Nat} {j x : Int32} (hq : (qA a 0).isSome = true) : Rr X d MFl_append 47 L (.int x :: .int j :: .ref a :: st) (Wd mu la ro et) = if j < 0 ∨ qAd a 0 ≤ j.toNatClampNeg then none else Rr X d MFl_append 48 L st (Wd (up2 mu a j.toNatClampNeg (x)) la ro et) := R_iasW d_MFl_append_47 hq
theorem r_MFl_append_48 {l1 l2 l3 : Value} {x : Nat} : Rr X d MFl_append 48 [.ref x, l1, l2, l3] st h = Rr X d MFl_append 49 [.ref x, l1, l2, l3] (.ref x :: st) h := Rr_nx d_MFl_append_48 rfl
theorem r_MFl_append_49 {x : Nat} : Rr X d MFl_append 49 L (.ref x :: st) h = Rr X d MFl_append 50 L (.ref x :: .ref x :: st) h := Rr_nx d_MFl_append_49 rfl
theorem r_MFl_append_49i {x : Int32} : Rr X d MFl_append 49 L (.int x :: st) h = Rr X d MFl_append 50 L (.int x :: .int x :: st) h := Rr_nx d_MFl_append_49 rfl
theorem r_MFl_append_50 {a : Nat} (hq : qI a 3 4 = true) : Rr X d MFl_append 50 L (.ref a :: st) (Wd mu la ro et) = Rr X d MFl_append 53 L (.int (mu a 4) :: st) (Wd mu la ro et) := R_gfI d_MFl_append_50 ff_3_24 hq
theorem r_MFl_append_53 : Rr X d MFl_append 53 L st h = Rr X d MFl_append 54 L (.int (1) :: st) h := Rr_nx d_MFl_append_53 rfl
theorem r_MFl_append_54 {x y : Int32} : Rr X d MFl_append 54 L (.int y :: .int x :: st) h = Rr X d MFl_append 55 L (.int (x + y) :: st) h := Rr_nx d_MFl_append_54 rfl
theorem r_MFl_append_55 {a : Nat} {x : Int32} (hq : qI a 3 4 = true) : Rr X d MFl_append 55 L (.int x :: .ref a :: st) (Wd mu la ro et) = Rr X d MFl_append 58 L st (Wd (up2 mu a 4 x) la ro et) := R_pfI d_MFl_append_55 ff_3_24 hq
theorem r_MFl_append_58 {l1 l2 l3 : Value} {x : Nat} : Rr X d MFl_append 58 [.ref x, l1, l2, l3] st h = Rr X d MFl_append 59 [.ref x, l1, l2, l3] (.ref x :: st) h := Rr_nx d_MFl_append_58 rfl
theorem r_MFl_append_59 {a : Nat} (hq : qI a 3 4 = true) : Rr X d MFl_append 59 L (.ref a :: st) (Wd mu la ro et) = Rr X d MFl_append 62 L (.int (mu a 4) :: st) (Wd mu la ro et) := R_gfI d_MFl_append_59 ff_3_24 hq
theorem r_MFl_append_62 : Rr X d MFl_append 62 L st h = Rr X d MFl_append 63 L (.int (1) :: st) h := Rr_nx d_MFl_append_62 rfl
theorem r_MFl_append_63 {x y : Int32} : Rr X d MFl_append 63 L (.int y :: .int x :: st) h = Rr X d MFl_append 64 L (.int (x - y) :: st) h := Rr_nx d_MFl_append_63 rfl
theorem r_MFl_append_64 {x : Int32} : Rr X d MFl_append 64 L [.int x] h = some (some (.int x), h) := R_ir d_MFl_append_64 rfl
theorem d_MFl_appendNumber_0 : decode MFl_appendNumber.2.2.1 0 = .ok (.aload_n 0, 1) := lkT_ok tk_MFl_appendNumber rfl
theorem d_MFl_appendNumber_1 : decode MFl_appendNumber.2.2.1 1 = .ok (.iconst 1, 1) := lkT_ok tk_MFl_appendNumber rfl
theorem d_MFl_appendNumber_2 : decode MFl_appendNumber.2.2.1 2 = .ok (.iconst (-1), 1) := lkT_ok tk_MFl_appendNumber rfl
theorem d_MFl_appendNumber_3 : decode MFl_appendNumber.2.2.1 3 = .ok (.iconst (-1), 1) := lkT_ok tk_MFl_appendNumber rfl
theorem d_MFl_appendNumber_4 : decode MFl_appendNumber.2.2.1 4 = .ok (.invokevirtual 44, 3) := lkT_ok tk_MFl_appendNumber rfl
theorem d_MFl_appendNumber_7 : decode MFl_appendNumber.2.2.1 7 = .ok (.istore_n 2, 1) := lkT_ok tk_MFl_appendNumber rfl
theorem d_MFl_appendNumber_8 : decode MFl_appendNumber.2.2.1 8 = .ok (.iload_n 2, 1) := lkT_ok tk_MFl_appendNumber rfl
theorem d_MFl_appendNumber_9 : decode MFl_appendNumber.2.2.1 9 = .ok (.ifCond .lt 16, 3) := lkT_ok tk_MFl_appendNumber rfl
theorem d_MFl_appendNumber_12 : decode MFl_appendNumber.2.2.1 12 = .ok (.iload_n 2, 1) := lkT_ok tk_MFl_appendNumber rfl
theorem d_MFl_appendNumber_13 : decode MFl_appendNumber.2.2.1 13 = .ok (.bipush 121, 2) := lkT_ok tk_MFl_appendNumber rfl
theorem d_MFl_appendNumber_15 : decode MFl_appendNumber.2.2.1 15 = .ok (.if_icmp .ge 10, 3) := lkT_ok tk_MFl_appendNumber rfl
theorem d_MFl_appendNumber_18 : decode MFl_appendNumber.2.2.1 18 = .ok (.aload_n 0, 1) := lkT_ok tk_MFl_appendNumber rfl
theorem d_MFl_appendNumber_19 : decode MFl_appendNumber.2.2.1 19 = .ok (.getfield 21, 3) := lkT_ok tk_MFl_appendNumber rfl
theorem d_MFl_appendNumber_22 : decode MFl_appendNumber.2.2.1 22 = .ok (.iload_n 2, 1) := lkT_ok tk_MFl_appendNumber rfl
theorem d_MFl_appendNumber_23 : decode MFl_appendNumber.2.2.1 23 = .ok (.iload_n 1, 1) := lkT_ok tk_MFl_appendNumber rfl
theorem d_MFl_appendNumber_24 : decode MFl_appendNumber.2.2.1 24 = .ok (.iastore, 1) := lkT_ok tk_MFl_appendNumber rfl
theorem d_MFl_appendNumber_25 : decode MFl_appendNumber.2.2.1 25 = .ok (.iload_n 2, 1) := lkT_ok tk_MFl_appendNumber rfl
theorem d_MFl_appendNumber_26 : decode MFl_appendNumber.2.2.1 26 = .ok (.ireturn, 1) := lkT_ok tk_MFl_appendNumber rfl
theorem r_MFl_appendNumber_0 {l1 l2 : Value} {x : Nat} : Rr X d MFl_appendNumber 0 [.ref x, l1, l2] st h = Rr X d MFl_appendNumber 1 [.ref x, l1, l2] (.ref x :: st) h := Rr_nx d_MFl_appendNumber_0 rfl
theorem r_MFl_appendNumber_1 : Rr X d MFl_appendNumber 1 L st h = Rr X d MFl_appendNumber 2 L (.int (1) :: st) h := Rr_nx d_MFl_appendNumber_1 rfl
theorem r_MFl_appendNumber_2 : Rr X d MFl_appendNumber 2 L st h = Rr X d MFl_appendNumber 3 L (.int (-1) :: st) h := Rr_nx d_MFl_appendNumber_2 rfl
theorem r_MFl_appendNumber_3 : Rr X d MFl_appendNumber 3 L st h = Rr X d MFl_appendNumber 4 L (.int (-1) :: st) h := Rr_nx d_MFl_appendNumber_3 rfl
theorem r_MFl_appendNumber_4 {y0 : Int32} {y1 : Int32} {y2 : Int32} {a : Nat} (hO : qO a 3 = true) (hc : ckS st = true) : Rr X (d + 1) MFl_appendNumber 4 L (.int y2 :: .int y1 :: .int y0 :: .ref a :: st) (Wd mu la ro et) = (Rr X d MFl_append 0 [.ref a, .int y0, .int y1, .int y2] [] (Wd mu la ro et)).bind fun q => Rr X (d + 1) MFl_appendNumber 7 L (psh q.1 st) q.2 := R_iv (av := [.int y2, .int y1, .int y0]) d_MFl_appendNumber_4 fc_3_44 hO (ckS_le hc) rfl (Nat.le_of_ble_eq_true rfl) (Nat.le_of_ble_eq_true rfl)
theorem r_MFl_appendNumber_7 {l0 l1 l2 : Value} {x : Int32} : Rr X d MFl_appendNumber 7 [l0, l1, l2] (.int x :: st) h = Rr X d MFl_appendNumber 8 (sL [l0, l1, l2] 2 (.int x)) st h := Rr_nx d_MFl_appendNumber_7 rfl
theorem r_MFl_appendNumber_8 {l0 l1 : Value} {x : Int32} : Rr X d MFl_appendNumber 8 [l0, l1, .int x] st h = Rr X d MFl_appendNumber 9 [l0, l1, .int x] (.int x :: st) h := Rr_nx d_MFl_appendNumber_8 rfl
theorem r_MFl_appendNumber_9 {x : Int32} : Rr X d MFl_appendNumber 9 L (.int x :: st) h = if x < 0 then Rr X d MFl_appendNumber 25 L st h else Rr X d MFl_appendNumber 12 L st h := R_if_lt d_MFl_appendNumber_9 (by decide)
theorem r_MFl_appendNumber_12 {l0 l1 : Value} {x : Int32} : Rr X d MFl_appendNumber 12 [l0, l1, .int x] st h = Rr X d MFl_appendNumber 13 [l0, l1, .int x] (.int x :: st) h := Rr_nx d_MFl_appendNumber_12 rfl
theorem r_MFl_appendNumber_13 : Rr X d MFl_appendNumber 13 L st h = Rr X d MFl_appendNumber 15 L (.int (121) :: st) h := Rr_nx d_MFl_appendNumber_13 rfl
theorem r_MFl_appendNumber_15 {x y : Int32} : Rr X d MFl_appendNumber 15 L (.int y :: .int x :: st) h = if y ≤ x then Rr X d MFl_appendNumber 25 L st h else Rr X d MFl_appendNumber 18 L st h := R_ic_ge d_MFl_appendNumber_15 (by decide)
theorem r_MFl_appendNumber_18 {l1 l2 : Value} {x : Nat} : Rr X d MFl_appendNumber 18 [.ref x, l1, l2] st h = Rr X d MFl_appendNumber 19 [.ref x, l1, l2] (.ref x :: st) h := Rr_nx d_MFl_appendNumber_18 rfl
theorem ff_3_21 : fF 3 21 = some (3, 3, 1, 1) := rfl
theorem r_MFl_appendNumber_19 {a : Nat} (hq : (qR a 3 3).isSome = true) : Rr X d MFl_appendNumber 19 L (.ref a :: st) (Wd mu la ro et) = Rr X d MFl_appendNumber 22 L (.ref (qRd a 3 3) :: st) (Wd mu la ro et) := R_gfR d_MFl_appendNumber_19 ff_3_21 hq
theorem r_MFl_appendNumber_22 {l0 l1 : Value} {x : Int32} : Rr X d MFl_appendNumber 22 [l0, l1, .int x] st h = Rr X d MFl_appendNumber 23 [l0, l1, .int x] (.int x :: st) h := Rr_nx d_MFl_appendNumber_22 rfl
theorem r_MFl_appendNumber_23 {l0 l2 : Value} {x : Int32} : Rr X d MFl_appendNumber 23 [l0, .int x, l2] st h = Rr X d MFl_appendNumber 24 [l0, .int x, l2] (.int x :: st) h := Rr_nx d_MFl_appendNumber_23 rfl
theorem r_MFl_appendNumber_24 {a : Nat} {j x : Int32} (hq : (qA a 0).isSome = true) : Rr X d MFl_appendNumber 24 L (.int x :: .int j :: .ref a :: st) (Wd mu la ro et) = if j < 0 ∨ qAd a 0 ≤ j.toNatClampNeg then none else Rr X d MFl_appendNumber 25 L st (Wd (up2 mu a j.toNatClampNeg (x)) la ro et) := R_iasW d_MFl_appendNumber_24 hq
theorem r_MFl_appendNumber_25 {l0 l1 : Value} {x : Int32} : Rr X d MFl_appendNumber 25 [l0, l1, .int x] st h = Rr X d MFl_appendNumber 26 [l0, l1, .int x] (.int x :: st) h := Rr_nx d_MFl_appendNumber_25 rfl
theorem r_MFl_appendNumber_26 {x : Int32} : Rr X d MFl_appendNumber 26 L [.int x] h = some (some (.int x), h) := R_ir d_MFl_appendNumber_26 rfl
theorem d_MTo_floor_0 : decode MTo_floor.2.2.1 0 = .ok (.aload_n 0, 1) := lkT_ok tk_MTo_floor rfl
theorem d_MTo_floor_1 : decode MTo_floor.2.2.1 1 = .ok (.getfield 127, 3) := lkT_ok tk_MTo_floor rfl
theorem d_MTo_floor_4 : decode MTo_floor.2.2.1 4 = .ok (.ifCond .lt 27, 3) := lkT_ok tk_MTo_floor rfl
theorem d_MTo_floor_7 : decode MTo_floor.2.2.1 7 = .ok (.aload_n 0, 1) := lkT_ok tk_MTo_floor rfl
theorem d_MTo_floor_8 : decode MTo_floor.2.2.1 8 = .ok (.getfield 127, 3) := lkT_ok tk_MTo_floor rfl
theorem d_MTo_floor_11 : decode MTo_floor.2.2.1 11 = .ok (.aload_n 0, 1) := lkT_ok tk_MTo_floor rfl
theorem d_MTo_floor_12 : decode MTo_floor.2.2.1 12 = .ok (.getfield 24, 3) := lkT_ok tk_MTo_floor rfl
theorem d_MTo_floor_15 : decode MTo_floor.2.2.1 15 = .ok (.arraylength, 1) := lkT_ok tk_MTo_floor rfl
theorem d_MTo_floor_16 : decode MTo_floor.2.2.1 16 = .ok (.if_icmp .ge 15, 3) := lkT_ok tk_MTo_floor rfl
theorem d_MTo_floor_19 : decode MTo_floor.2.2.1 19 = .ok (.aload_n 0, 1) := lkT_ok tk_MTo_floor rfl
theorem d_MTo_floor_20 : decode MTo_floor.2.2.1 20 = .ok (.getfield 24, 3) := lkT_ok tk_MTo_floor rfl
theorem d_MTo_floor_23 : decode MTo_floor.2.2.1 23 = .ok (.aload_n 0, 1) := lkT_ok tk_MTo_floor rfl
theorem d_MTo_floor_24 : decode MTo_floor.2.2.1 24 = .ok (.getfield 127, 3) := lkT_ok tk_MTo_floor rfl
theorem d_MTo_floor_27 : decode MTo_floor.2.2.1 27 = .ok (.aaload, 1) := lkT_ok tk_MTo_floor rfl
theorem d_MTo_floor_28 : decode MTo_floor.2.2.1 28 = .ok (.ifnonnull 6, 3) := lkT_ok tk_MTo_floor rfl
theorem d_MTo_floor_31 : decode MTo_floor.2.2.1 31 = .ok (.bipush (-3), 2) := lkT_ok tk_MTo_floor rfl
theorem d_MTo_floor_33 : decode MTo_floor.2.2.1 33 = .ok (.ireturn, 1) := lkT_ok tk_MTo_floor rfl
theorem d_MTo_floor_34 : decode MTo_floor.2.2.1 34 = .ok (.aload_n 0, 1) := lkT_ok tk_MTo_floor rfl
theorem d_MTo_floor_35 : decode MTo_floor.2.2.1 35 = .ok (.getfield 10, 3) := lkT_ok tk_MTo_floor rfl
theorem d_MTo_floor_38 : decode MTo_floor.2.2.1 38 = .ok (.invokevirtual 87, 3) := lkT_ok tk_MTo_floor rfl
theorem d_MTo_floor_41 : decode MTo_floor.2.2.1 41 = .ok (.bipush (-100), 2) := lkT_ok tk_MTo_floor rfl
theorem d_MTo_floor_43 : decode MTo_floor.2.2.1 43 = .ok (.istore_n 1, 1) := lkT_ok tk_MTo_floor rfl
theorem d_MTo_floor_44 : decode MTo_floor.2.2.1 44 = .ok (.aload_n 0, 1) := lkT_ok tk_MTo_floor rfl
theorem d_MTo_floor_45 : decode MTo_floor.2.2.1 45 = .ok (.getfield 24, 3) := lkT_ok tk_MTo_floor rfl
theorem d_MTo_floor_48 : decode MTo_floor.2.2.1 48 = .ok (.aload_n 0, 1) := lkT_ok tk_MTo_floor rfl
theorem d_MTo_floor_49 : decode MTo_floor.2.2.1 49 = .ok (.getfield 127, 3) := lkT_ok tk_MTo_floor rfl
theorem d_MTo_floor_52 : decode MTo_floor.2.2.1 52 = .ok (.aaload, 1) := lkT_ok tk_MTo_floor rfl
theorem d_MTo_floor_53 : decode MTo_floor.2.2.1 53 = .ok (.aload_n 0, 1) := lkT_ok tk_MTo_floor rfl
theorem d_MTo_floor_54 : decode MTo_floor.2.2.1 54 = .ok (.getfield 10, 3) := lkT_ok tk_MTo_floor rfl
theorem d_MTo_floor_57 : decode MTo_floor.2.2.1 57 = .ok (.invokevirtual 130, 3) := lkT_ok tk_MTo_floor rfl
theorem d_MTo_floor_60 : decode MTo_floor.2.2.1 60 = .ok (.ifCond .eq 21, 3) := lkT_ok tk_MTo_floor rfl
theorem d_MTo_floor_63 : decode MTo_floor.2.2.1 63 = .ok (.aload_n 0, 1) := lkT_ok tk_MTo_floor rfl
theorem d_MTo_floor_64 : decode MTo_floor.2.2.1 64 = .ok (.getfield 127, 3) := lkT_ok tk_MTo_floor rfl
theorem d_MTo_floor_67 : decode MTo_floor.2.2.1 67 = .ok (.istore_n 1, 1) := lkT_ok tk_MTo_floor rfl
theorem d_MTo_floor_68 : decode MTo_floor.2.2.1 68 = .ok (.aload_n 0, 1) := lkT_ok tk_MTo_floor rfl
theorem d_MTo_floor_69 : decode MTo_floor.2.2.1 69 = .ok (.dup, 1) := lkT_ok tk_MTo_floor rfl
theorem d_MTo_floor_70 : decode MTo_floor.2.2.1 70 = .ok (.getfield 127, 3) := lkT_ok tk_MTo_floor rfl
theorem d_MTo_floor_73 : decode MTo_floor.2.2.1 73 = .ok (.iconst 1, 1) := lkT_ok tk_MTo_floor rfl
theorem d_MTo_floor_74 : decode MTo_floor.2.2.1 74 = .ok (.iadd, 1) := lkT_ok tk_MTo_floor rfl
theorem d_MTo_floor_75 : decode MTo_floor.2.2.1 75 = .ok (.putfield 127, 3) := lkT_ok tk_MTo_floor rfl
theorem d_MTo_floor_78 : decode MTo_floor.2.2.1 78 = .ok (.goto 13, 3) := lkT_ok tk_MTo_floor rfl
theorem d_MTo_floor_81 : decode MTo_floor.2.2.1 81 = .ok (.iload_n 1, 1) := lkT_ok tk_MTo_floor rfl
theorem d_MTo_floor_82 : decode MTo_floor.2.2.1 82 = .ok (.aload_n 0, 1) := lkT_ok tk_MTo_floor rfl
theorem d_MTo_floor_83 : decode MTo_floor.2.2.1 83 = .ok (.getfield 10, 3) := lkT_ok tk_MTo_floor rfl
theorem d_MTo_floor_86 : decode MTo_floor.2.2.1 86 = .ok (.getfield 94, 3) := lkT_ok tk_MTo_floor rfl
theorem d_MTo_floor_89 : decode MTo_floor.2.2.1 89 = .ok (.isub, 1) := lkT_ok tk_MTo_floor rfl
theorem d_MTo_floor_90 : decode MTo_floor.2.2.1 90 = .ok (.istore_n 1, 1) := lkT_ok tk_MTo_floor rfl
theorem d_MTo_floor_91 : decode MTo_floor.2.2.1 91 = .ok (.aload_n 0, 1) := lkT_ok tk_MTo_floor rfl
theorem d_MTo_floor_92 : decode MTo_floor.2.2.1 92 = .ok (.getfield 10, 3) := lkT_ok tk_MTo_floor rfl
theorem d_MTo_floor_95 : decode MTo_floor.2.2.1 95 = .ok (.invokevirtual 97, 3) := lkT_ok tk_MTo_floor rfl
theorem d_MTo_floor_98 : decode MTo_floor.2.2.1 98 = .ok (.iload_n 1, 1) := lkT_ok tk_MTo_floor rfl
theorem d_MTo_floor_99 : decode MTo_floor.2.2.1 99 = .ok (.ireturn, 1) := lkT_ok tk_MTo_floor rfl
theorem r_MTo_floor_0 {l1 : Value} {x : Nat} : Rr X d MTo_floor 0 [.ref x, l1] st h = Rr X d MTo_floor 1 [.ref x, l1] (.ref x :: st) h := Rr_nx d_MTo_floor_0 rfl
theorem ff_9_127 : fF 9 127 = some (9, 10, 0, 0) := rfl
theorem r_MTo_floor_1 {a : Nat} (hq : qI a 9 10 = true) : Rr X d MTo_floor 1 L (.ref a :: st) (Wd mu la ro et) = Rr X d MTo_floor 4 L (.int (mu a 10) :: st) (Wd mu la ro et) := R_gfI d_MTo_floor_1 ff_9_127 hq
theorem r_MTo_floor_4 {x : Int32} : Rr X d MTo_floor 4 L (.int x :: st) h = if x < 0 then Rr X d MTo_floor 31 L st h else Rr X d MTo_floor 7 L st h := R_if_lt d_MTo_floor_4 (by decide)
theorem r_MTo_floor_7 {l1 : Value} {x : Nat} : Rr X d MTo_floor 7 [.ref x, l1] st h = Rr X d MTo_floor 8 [.ref x, l1] (.ref x :: st) h := Rr_nx d_MTo_floor_7 rfl
theorem r_MTo_floor_8 {a : Nat} (hq : qI a 9 10 = true) : Rr X d MTo_floor 8 L (.ref a :: st) (Wd mu la ro et) = Rr X d MTo_floor 11 L (.int (mu a 10) :: st) (Wd mu la ro et) := R_gfI d_MTo_floor_8 ff_9_127 hq
theorem r_MTo_floor_11 {l1 : Value} {x : Nat} : Rr X d MTo_floor 11 [.ref x, l1] st h = Rr X d MTo_floor 12 [.ref x, l1] (.ref x :: st) h := Rr_nx d_MTo_floor_11 rfl
theorem ff_9_24 : fF 9 24 = some (9, 2, 1, 1) := rfl
theorem r_MTo_floor_12 {a : Nat} (hq : (qR a 9 2).isSome = true) : Rr X d MTo_floor 12 L (.ref a :: st) (Wd mu la ro et) = Rr X d MTo_floor 15 L (.ref (qRd a 9 2) :: st) (Wd mu la ro et) := R_gfR d_MTo_floor_12 ff_9_24 hq
theorem r_MTo_floor_15 {a : Nat} (hq : (qL a).isSome = true) : Rr X d MTo_floor 15 L (.ref a :: st) (Wd mu la ro et) = Rr X d MTo_floor 16 L (.int (Int32.ofNat (qLd a)) :: st) (Wd mu la ro et) := R_lenW d_MTo_floor_15 hq
theorem r_MTo_floor_16 {x y : Int32} : Rr X d MTo_floor 16 L (.int y :: .int x :: st) h = if y ≤ x then Rr X d MTo_floor 31 L st h else Rr X d MTo_floor 19 L st h := R_ic_ge d_MTo_floor_16 (by decide)
theorem r_MTo_floor_19 {l1 : Value} {x : Nat} : Rr X d MTo_floor 19 [.ref x, l1] st h = Rr X d MTo_floor 20 [.ref x, l1] (.ref x :: st) h := Rr_nx d_MTo_floor_19 rfl
theorem r_MTo_floor_20 {a : Nat} (hq : (qR a 9 2).isSome = true) : Rr X d MTo_floor 20 L (.ref a :: st) (Wd mu la ro et) = Rr X d MTo_floor 23 L (.ref (qRd a 9 2) :: st) (Wd mu la ro et) := R_gfR d_MTo_floor_20 ff_9_24 hq
theorem r_MTo_floor_23 {l1 : Value} {x : Nat} : Rr X d MTo_floor 23 [.ref x, l1] st h = Rr X d MTo_floor 24 [.ref x, l1] (.ref x :: st) h := Rr_nx d_MTo_floor_23 rfl
theorem r_MTo_floor_24 {a : Nat} (hq : qI a 9 10 = true) : Rr X d MTo_floor 24 L (.ref a :: st) (Wd mu la ro et) = Rr X d MTo_floor 27 L (.int (mu a 10) :: st) (Wd mu la ro et) := R_gfI d_MTo_floor_24 ff_9_127 hq
theorem r_MTo_floor_27 {a : Nat} {j : Int32} (hq : (qQ a).isSome = true) : Rr X d MTo_floor 27 L (.int j :: .ref a :: st) (Wd mu la ro et) = if j < 0 ∨ qQd a ≤ j.toNatClampNeg then none else Rr X d MTo_floor 28 L (va_rf (ro a j.toNatClampNeg) :: st) (Wd mu la ro et) := R_aalW d_MTo_floor_27 hq
theorem r_MTo_floor_28 {x : Nat} : Rr X d MTo_floor 28 L (.ref x :: st) h = Rr X d MTo_floor 34 L st h := R_nnl1 d_MTo_floor_28 (by decide)
theorem r_MTo_floor_28n : Rr X d MTo_floor 28 L (.null :: st) h = Rr X d MTo_floor 31 L st h := R_nnl0 d_MTo_floor_28
theorem r_MTo_floor_31 : Rr X d MTo_floor 31 L st h = Rr X d MTo_floor 33 L (.int (-3) :: st) h := Rr_nx d_MTo_floor_31 rfl
theorem r_MTo_floor_33 {x : Int32} : Rr X d MTo_floor 33 L [.int x] h = some (some (.int x), h) := R_ir d_MTo_floor_33 rfl
theorem r_MTo_floor_34 {l1 : Value} {x : Nat} : Rr X d MTo_floor 34 [.ref x, l1] st h = Rr X d MTo_floor 35 [.ref x, l1] (.ref x :: st) h := Rr_nx d_MTo_floor_34 rfl
theorem ff_9_10 : fF 9 10 = some (9, 0, 1, 1) := rfl
theorem r_MTo_floor_35 {a : Nat} (hq : (qR a 9 0).isSome = true) : Rr X d MTo_floor 35 L (.ref a :: st) (Wd mu la ro et) = Rr X d MTo_floor 38 L (.ref (qRd a 9 0) :: st) (Wd mu la ro et) := R_gfR d_MTo_floor_35 ff_9_10 hq
theorem fc_9_87 : fC 9 87 = some (0, 8, 0, MTa_rewind) := rfl
theorem r_MTo_floor_38 {a : Nat} (hO : qO a 8 = true) (hc : ckS st = true) : Rr X (d + 1) MTo_floor 38 L (.ref a :: st) (Wd mu la ro et) = (Rr X d MTa_rewind 0 [.ref a] [] (Wd mu la ro et)).bind fun q => Rr X (d + 1) MTo_floor 41 L (psh q.1 st) q.2 := R_iv (av := []) d_MTo_floor_38 fc_9_87 hO (ckS_le hc) rfl (Nat.le_of_ble_eq_true rfl) (Nat.le_of_ble_eq_true rfl)
theorem r_MTo_floor_41 : Rr X d MTo_floor 41 L st h = Rr X d MTo_floor 43 L (.int (-100) :: st) h := Rr_nx d_MTo_floor_41 rfl
theorem r_MTo_floor_43 {l0 l1 : Value} {x : Int32} : Rr X d MTo_floor 43 [l0, l1] (.int x :: st) h = Rr X d MTo_floor 44 (sL [l0, l1] 1 (.int x)) st h := Rr_nx d_MTo_floor_43 rfl
theorem r_MTo_floor_44 {l1 : Value} {x : Nat} : Rr X d MTo_floor 44 [.ref x, l1] st h = Rr X d MTo_floor 45 [.ref x, l1] (.ref x :: st) h := Rr_nx d_MTo_floor_44 rfl
theorem r_MTo_floor_45 {a : Nat} (hq : (qR a 9 2).isSome = true) : Rr X d MTo_floor 45 L (.ref a :: st) (Wd mu la ro et) = Rr X d MTo_floor 48 L (.ref (qRd a 9 2) :: st) (Wd mu la ro et) := R_gfR d_MTo_floor_45 ff_9_24 hq
theorem r_MTo_floor_48 {l1 : Value} {x : Nat} : Rr X d MTo_floor 48 [.ref x, l1] st h = Rr X d MTo_floor 49 [.ref x, l1] (.ref x :: st) h := Rr_nx d_MTo_floor_48 rfl
theorem r_MTo_floor_49 {a : Nat} (hq : qI a 9 10 = true) : Rr X d MTo_floor 49 L (.ref a :: st) (Wd mu la ro et) = Rr X d MTo_floor 52 L (.int (mu a 10) :: st) (Wd mu la ro et) := R_gfI d_MTo_floor_49 ff_9_127 hq
theorem r_MTo_floor_52 {a : Nat} {j : Int32} (hq : (qQ a).isSome = true) : Rr X d MTo_floor 52 L (.int j :: .ref a :: st) (Wd mu la ro et) = if j < 0 ∨ qQd a ≤ j.toNatClampNeg then none else Rr X d MTo_floor 53 L (va_rf (ro a j.toNatClampNeg) :: st) (Wd mu la ro et) := R_aalW d_MTo_floor_52 hq
theorem r_MTo_floor_53 {l1 : Value} {x : Nat} : Rr X d MTo_floor 53 [.ref x, l1] st h = Rr X d MTo_floor 54 [.ref x, l1] (.ref x :: st) h := Rr_nx d_MTo_floor_53 rfl
theorem r_MTo_floor_54 {a : Nat} (hq : (qR a 9 0).isSome = true) : Rr X d MTo_floor 54 L (.ref a :: st) (Wd mu la ro et) = Rr X d MTo_floor 57 L (.ref (qRd a 9 0) :: st) (Wd mu la ro et) := R_gfR d_MTo_floor_54 ff_9_10 hq
theorem fc_9_130 : fC 9 130 = some (0, 3, 1, MFl_readFrom) := rfl
theorem r_MTo_floor_57 {y0 : Nat} {a : Nat} (hO : qO a 3 = true) (hc : ckS st = true) : Rr X (d + 1) MTo_floor 57 L (.ref y0 :: .ref a :: st) (Wd mu la ro et) = (Rr X d MFl_readFrom 0 [.ref a, .ref y0, mkU, mkU] [] (Wd mu la ro et)).bind fun q => Rr X (d + 1) MTo_floor 60 L (psh q.1 st) q.2 := R_iv (av := [.ref y0]) d_MTo_floor_57 fc_9_130 hO (ckS_le hc) rfl (Nat.le_of_ble_eq_true rfl) (Nat.le_of_ble_eq_true rfl)
theorem r_MTo_floor_60 {x : Int32} : Rr X d MTo_floor 60 L (.int x :: st) h = if x = 0 then Rr X d MTo_floor 81 L st h else Rr X d MTo_floor 63 L st h := R_if_eq d_MTo_floor_60 (by decide)
theorem r_MTo_floor_63 {l1 : Value} {x : Nat} : Rr X d MTo_floor 63 [.ref x, l1] st h = Rr X d MTo_floor 64 [.ref x, l1] (.ref x :: st) h := Rr_nx d_MTo_floor_63 rfl
theorem r_MTo_floor_64 {a : Nat} (hq : qI a 9 10 = true) : Rr X d MTo_floor 64 L (.ref a :: st) (Wd mu la ro et) = Rr X d MTo_floor 67 L (.int (mu a 10) :: st) (Wd mu la ro et) := R_gfI d_MTo_floor_64 ff_9_127 hq
theorem r_MTo_floor_67 {l0 l1 : Value} {x : Int32} : Rr X d MTo_floor 67 [l0, l1] (.int x :: st) h = Rr X d MTo_floor 68 (sL [l0, l1] 1 (.int x)) st h := Rr_nx d_MTo_floor_67 rfl
theorem r_MTo_floor_68 {l1 : Value} {x : Nat} : Rr X d MTo_floor 68 [.ref x, l1] st h = Rr X d MTo_floor 69 [.ref x, l1] (.ref x :: st) h := Rr_nx d_MTo_floor_68 rfl
theorem r_MTo_floor_69 {x : Nat} : Rr X d MTo_floor 69 L (.ref x :: st) h = Rr X d MTo_floor 70 L (.ref x :: .ref x :: st) h := Rr_nx d_MTo_floor_69 rfl
theorem r_MTo_floor_69i {x : Int32} : Rr X d MTo_floor 69 L (.int x :: st) h = Rr X d MTo_floor 70 L (.int x :: .int x :: st) h := Rr_nx d_MTo_floor_69 rfl
theorem r_MTo_floor_70 {a : Nat} (hq : qI a 9 10 = true) : Rr X d MTo_floor 70 L (.ref a :: st) (Wd mu la ro et) = Rr X d MTo_floor 73 L (.int (mu a 10) :: st) (Wd mu la ro et) := R_gfI d_MTo_floor_70 ff_9_127 hq
theorem r_MTo_floor_73 : Rr X d MTo_floor 73 L st h = Rr X d MTo_floor 74 L (.int (1) :: st) h := Rr_nx d_MTo_floor_73 rfl
theorem r_MTo_floor_74 {x y : Int32} : Rr X d MTo_floor 74 L (.int y :: .int x :: st) h = Rr X d MTo_floor 75 L (.int (x + y) :: st) h := Rr_nx d_MTo_floor_74 rfl
theorem r_MTo_floor_75 {a : Nat} {x : Int32} (hq : qI a 9 10 = true) : Rr X d MTo_floor 75 L (.int x :: .ref a :: st) (Wd mu la ro et) = Rr X d MTo_floor 78 L st (Wd (up2 mu a 10 x) la ro et) := R_pfI d_MTo_floor_75 ff_9_127 hq
theorem r_MTo_floor_78 : Rr X d MTo_floor 78 L st h = Rr X d MTo_floor 91 L st h := R_goto d_MTo_floor_78 (by decide)
theorem r_MTo_floor_81 {l0 : Value} {x : Int32} : Rr X d MTo_floor 81 [l0, .int x] st h = Rr X d MTo_floor 82 [l0, .int x] (.int x :: st) h := Rr_nx d_MTo_floor_81 rfl
theorem r_MTo_floor_82 {l1 : Value} {x : Nat} : Rr X d MTo_floor 82 [.ref x, l1] st h = Rr X d MTo_floor 83 [.ref x, l1] (.ref x :: st) h := Rr_nx d_MTo_floor_82 rfl
theorem r_MTo_floor_83 {a : Nat} (hq : (qR a 9 0).isSome = true) : Rr X d MTo_floor 83 L (.ref a :: st) (Wd mu la ro et) = Rr X d MTo_floor 86 L (.ref (qRd a 9 0) :: st) (Wd mu la ro et) := R_gfR d_MTo_floor_83 ff_9_10 hq
theorem ff_9_94 : fF 9 94 = some (8, 2, 0, 0) := rfl
theorem r_MTo_floor_86 {a : Nat} (hq : qI a 8 2 = true) : Rr X d MTo_floor 86 L (.ref a :: st) (Wd mu la ro et) = Rr X d MTo_floor 89 L (.int (mu a 2) :: st) (Wd mu la ro et) := R_gfI d_MTo_floor_86 ff_9_94 hq
theorem r_MTo_floor_89 {x y : Int32} : Rr X d MTo_floor 89 L (.int y :: .int x :: st) h = Rr X d MTo_floor 90 L (.int (x - y) :: st) h := Rr_nx d_MTo_floor_89 rfl
theorem r_MTo_floor_90 {l0 l1 : Value} {x : Int32} : Rr X d MTo_floor 90 [l0, l1] (.int x :: st) h = Rr X d MTo_floor 91 (sL [l0, l1] 1 (.int x)) st h := Rr_nx d_MTo_floor_90 rfl
theorem r_MTo_floor_91 {l1 : Value} {x : Nat} : Rr X d MTo_floor 91 [.ref x, l1] st h = Rr X d MTo_floor 92 [.ref x, l1] (.ref x :: st) h := Rr_nx d_MTo_floor_91 rfl
theorem r_MTo_floor_92 {a : Nat} (hq : (qR a 9 0).isSome = true) : Rr X d MTo_floor 92 L (.ref a :: st) (Wd mu la ro et) = Rr X d MTo_floor 95 L (.ref (qRd a 9 0) :: st) (Wd mu la ro et) := R_gfR d_MTo_floor_92 ff_9_10 hq
theorem fc_9_97 : fC 9 97 = some (0, 8, 0, MTa_clear) := rfl
theorem r_MTo_floor_95 {a : Nat} (hO : qO a 8 = true) (hc : ckS st = true) : Rr X (d + 1) MTo_floor 95 L (.ref a :: st) (Wd mu la ro et) = (Rr X d MTa_clear 0 [.ref a] [] (Wd mu la ro et)).bind fun q => Rr X (d + 1) MTo_floor 98 L (psh q.1 st) q.2 := R_iv (av := []) d_MTo_floor_95 fc_9_97 hO (ckS_le hc) rfl (Nat.le_of_ble_eq_true rfl) (Nat.le_of_ble_eq_true rfl)
theorem r_MTo_floor_98 {l0 : Value} {x : Int32} : Rr X d MTo_floor 98 [l0, .int x] st h = Rr X d MTo_floor 99 [l0, .int x] (.int x :: st) h := Rr_nx d_MTo_floor_98 rfl
theorem r_MTo_floor_99 {x : Int32} : Rr X d MTo_floor 99 L [.int x] h = some (some (.int x), h) := R_ir d_MTo_floor_99 rfl
theorem d_MTo_feed_0 : decode MTo_feed.2.2.1 0 = .ok (.iload_n 1, 1) := lkT_ok tk_MTo_feed rfl
theorem d_MTo_feed_1 : decode MTo_feed.2.2.1 1 = .ok (.iconst 1, 1) := lkT_ok tk_MTo_feed rfl
theorem d_MTo_feed_2 : decode MTo_feed.2.2.1 2 = .ok (.iconst 4, 1) := lkT_ok tk_MTo_feed rfl
theorem d_MTo_feed_3 : decode MTo_feed.2.2.1 3 = .ok (.invokestatic 72, 3) := lkT_ok tk_MTo_feed rfl
theorem d_MTo_feed_6 : decode MTo_feed.2.2.1 6 = .ok (.ifCond .ne 5, 3) := lkT_ok tk_MTo_feed rfl
theorem d_MTo_feed_9 : decode MTo_feed.2.2.1 9 = .ok (.iconst (-1), 1) := lkT_ok tk_MTo_feed rfl
theorem d_MTo_feed_10 : decode MTo_feed.2.2.1 10 = .ok (.ireturn, 1) := lkT_ok tk_MTo_feed rfl
theorem d_MTo_feed_11 : decode MTo_feed.2.2.1 11 = .ok (.aload_n 0, 1) := lkT_ok tk_MTo_feed rfl
theorem d_MTo_feed_12 : decode MTo_feed.2.2.1 12 = .ok (.getfield 10, 3) := lkT_ok tk_MTo_feed rfl
theorem d_MTo_feed_15 : decode MTo_feed.2.2.1 15 = .ok (.getfield 76, 3) := lkT_ok tk_MTo_feed rfl
theorem d_MTo_feed_18 : decode MTo_feed.2.2.1 18 = .ok (.iload_n 1, 1) := lkT_ok tk_MTo_feed rfl
theorem d_MTo_feed_19 : decode MTo_feed.2.2.1 19 = .ok (.iadd, 1) := lkT_ok tk_MTo_feed rfl
theorem d_MTo_feed_20 : decode MTo_feed.2.2.1 20 = .ok (.bipush 120, 2) := lkT_ok tk_MTo_feed rfl
theorem d_MTo_feed_22 : decode MTo_feed.2.2.1 22 = .ok (.if_icmp .le 6, 3) := lkT_ok tk_MTo_feed rfl
theorem d_MTo_feed_25 : decode MTo_feed.2.2.1 25 = .ok (.bipush (-3), 2) := lkT_ok tk_MTo_feed rfl
theorem d_MTo_feed_27 : decode MTo_feed.2.2.1 27 = .ok (.ireturn, 1) := lkT_ok tk_MTo_feed rfl
theorem d_MTo_feed_28 : decode MTo_feed.2.2.1 28 = .ok (.iconst 0, 1) := lkT_ok tk_MTo_feed rfl
theorem d_MTo_feed_29 : decode MTo_feed.2.2.1 29 = .ok (.istore_n 3, 1) := lkT_ok tk_MTo_feed rfl
theorem d_MTo_feed_30 : decode MTo_feed.2.2.1 30 = .ok (.iload_n 3, 1) := lkT_ok tk_MTo_feed rfl
theorem d_MTo_feed_31 : decode MTo_feed.2.2.1 31 = .ok (.iload_n 1, 1) := lkT_ok tk_MTo_feed rfl
theorem d_MTo_feed_32 : decode MTo_feed.2.2.1 32 = .ok (.if_icmp .ge 22, 3) := lkT_ok tk_MTo_feed rfl
theorem d_MTo_feed_35 : decode MTo_feed.2.2.1 35 = .ok (.aload_n 0, 1) := lkT_ok tk_MTo_feed rfl
theorem d_MTo_feed_36 : decode MTo_feed.2.2.1 36 = .ok (.getfield 10, 3) := lkT_ok tk_MTo_feed rfl
theorem d_MTo_feed_39 : decode MTo_feed.2.2.1 39 = .ok (.iload_n 2, 1) := lkT_ok tk_MTo_feed rfl
theorem d_MTo_feed_40 : decode MTo_feed.2.2.1 40 = .ok (.bipush 8, 2) := lkT_ok tk_MTo_feed rfl
theorem d_MTo_feed_42 : decode MTo_feed.2.2.1 42 = .ok (.iload_n 3, 1) := lkT_ok tk_MTo_feed rfl
theorem d_MTo_feed_43 : decode MTo_feed.2.2.1 43 = .ok (.imul, 1) := lkT_ok tk_MTo_feed rfl
theorem d_MTo_feed_44 : decode MTo_feed.2.2.1 44 = .ok (.iushr, 1) := lkT_ok tk_MTo_feed rfl
theorem d_MTo_feed_45 : decode MTo_feed.2.2.1 45 = .ok (.invokevirtual 80, 3) := lkT_ok tk_MTo_feed rfl
theorem d_MTo_feed_48 : decode MTo_feed.2.2.1 48 = .ok (.iinc 3 1, 3) := lkT_ok tk_MTo_feed rfl
theorem d_MTo_feed_51 : decode MTo_feed.2.2.1 51 = .ok (.goto (-21), 3) := lkT_ok tk_MTo_feed rfl
theorem d_MTo_feed_54 : decode MTo_feed.2.2.1 54 = .ok (.aload_n 0, 1) := lkT_ok tk_MTo_feed rfl
theorem d_MTo_feed_55 : decode MTo_feed.2.2.1 55 = .ok (.getfield 10, 3) := lkT_ok tk_MTo_feed rfl
theorem d_MTo_feed_58 : decode MTo_feed.2.2.1 58 = .ok (.getfield 76, 3) := lkT_ok tk_MTo_feed rfl
theorem d_MTo_feed_61 : decode MTo_feed.2.2.1 61 = .ok (.ireturn, 1) := lkT_ok tk_MTo_feed rfl
theorem r_MTo_feed_0 {l0 l2 l3 : Value} {x : Int32} : Rr X d MTo_feed 0 [l0, .int x, l2, l3] st h = Rr X d MTo_feed 1 [l0, .int x, l2, l3] (.int x :: st) h := Rr_nx d_MTo_feed_0 rfl
theorem r_MTo_feed_1 : Rr X d MTo_feed 1 L st h = Rr X d MTo_feed 2 L (.int (1) :: st) h := Rr_nx d_MTo_feed_1 rfl
theorem r_MTo_feed_2 : Rr X d MTo_feed 2 L st h = Rr X d MTo_feed 3 L (.int (4) :: st) h := Rr_nx d_MTo_feed_2 rfl
theorem r_MTo_feed_3 {y0 : Int32} {y1 : Int32} {y2 : Int32} (hc : ckS st = true) : Rr X (d + 1) MTo_feed 3 L (.int y2 :: .int y1 :: .int y0 :: st) h = (Rr X d MTo_isWithin 0 [.int y0, .int y1, .int y2] [] h).bind fun q => Rr X (d + 1) MTo_feed 6 L (psh q.1 st) q.2 := R_is (av := [.int y2, .int y1, .int y0]) d_MTo_feed_3 (Or.inl fc_9_72) (ckS_le hc) rfl (Nat.le_of_ble_eq_true rfl) (Nat.le_of_ble_eq_true rfl)
theorem r_MTo_feed_6 {x : Int32} : Rr X d MTo_feed 6 L (.int x :: st) h = if ¬ x = 0 then Rr X d MTo_feed 11 L st h else Rr X d MTo_feed 9 L st h := R_if_ne d_MTo_feed_6 (by decide)
theorem r_MTo_feed_9 : Rr X d MTo_feed 9 L st h = Rr X d MTo_feed 10 L (.int (-1) :: st) h := Rr_nx d_MTo_feed_9 rfl
theorem r_MTo_feed_10 {x : Int32} : Rr X d MTo_feed 10 L [.int x] h = some (some (.int x), h) := R_ir d_MTo_feed_10 rfl
theorem r_MTo_feed_11 {l1 l2 l3 : Value} {x : Nat} : Rr X d MTo_feed 11 [.ref x, l1, l2, l3] st h = Rr X d MTo_feed 12 [.ref x, l1, l2, l3] (.ref x :: st) h := Rr_nx d_MTo_feed_11 rfl
theorem r_MTo_feed_12 {a : Nat} (hq : (qR a 9 0).isSome = true) : Rr X d MTo_feed 12 L (.ref a :: st) (Wd mu la ro et) = Rr X d MTo_feed 15 L (.ref (qRd a 9 0) :: st) (Wd mu la ro et) := R_gfR d_MTo_feed_12 ff_9_10 hq
theorem ff_9_76 : fF 9 76 = some (8, 1, 0, 0) := rfl
theorem r_MTo_feed_15 {a : Nat} (hq : qI a 8 1 = true) : Rr X d MTo_feed 15 L (.ref a :: st) (Wd mu la ro et) = Rr X d MTo_feed 18 L (.int (mu a 1) :: st) (Wd mu la ro et) := R_gfI d_MTo_feed_15 ff_9_76 hq
theorem r_MTo_feed_18 {l0 l2 l3 : Value} {x : Int32} : Rr X d MTo_feed 18 [l0, .int x, l2, l3] st h = Rr X d MTo_feed 19 [l0, .int x, l2, l3] (.int x :: st) h := Rr_nx d_MTo_feed_18 rfl
theorem r_MTo_feed_19 {x y : Int32} : Rr X d MTo_feed 19 L (.int y :: .int x :: st) h = Rr X d MTo_feed 20 L (.int (x + y) :: st) h := Rr_nx d_MTo_feed_19 rfl
theorem r_MTo_feed_20 : Rr X d MTo_feed 20 L st h = Rr X d MTo_feed 22 L (.int (120) :: st) h := Rr_nx d_MTo_feed_20 rfl
theorem r_MTo_feed_22 {x y : Int32} : Rr X d MTo_feed 22 L (.int y :: .int x :: st) h = if x ≤ y then Rr X d MTo_feed 28 L st h else Rr X d MTo_feed 25 L st h := R_ic_le d_MTo_feed_22 (by decide)
theorem r_MTo_feed_25 : Rr X d MTo_feed 25 L st h = Rr X d MTo_feed 27 L (.int (-3) :: st) h := Rr_nx d_MTo_feed_25 rfl
theorem r_MTo_feed_27 {x : Int32} : Rr X d MTo_feed 27 L [.int x] h = some (some (.int x), h) := R_ir d_MTo_feed_27 rfl
theorem r_MTo_feed_28 : Rr X d MTo_feed 28 L st h = Rr X d MTo_feed 29 L (.int (0) :: st) h := Rr_nx d_MTo_feed_28 rfl
theorem r_MTo_feed_29 {l0 l1 l2 l3 : Value} {x : Int32} : Rr X d MTo_feed 29 [l0, l1, l2, l3] (.int x :: st) h = Rr X d MTo_feed 30 (sL [l0, l1, l2, l3] 3 (.int x)) st h := Rr_nx d_MTo_feed_29 rfl
theorem r_MTo_feed_30 {l0 l1 l2 : Value} {x : Int32} : Rr X d MTo_feed 30 [l0, l1, l2, .int x] st h = Rr X d MTo_feed 31 [l0, l1, l2, .int x] (.int x :: st) h := Rr_nx d_MTo_feed_30 rfl
theorem r_MTo_feed_31 {l0 l2 l3 : Value} {x : Int32} : Rr X d MTo_feed 31 [l0, .int x, l2, l3] st h = Rr X d MTo_feed 32 [l0, .int x, l2, l3] (.int x :: st) h := Rr_nx d_MTo_feed_31 rfl
theorem r_MTo_feed_32 {x y : Int32} : Rr X d MTo_feed 32 L (.int y :: .int x :: st) h = if y ≤ x then Rr X d MTo_feed 54 L st h else Rr X d MTo_feed 35 L st h := R_ic_ge d_MTo_feed_32 (by decide)
theorem r_MTo_feed_35 {l1 l2 l3 : Value} {x : Nat} : Rr X d MTo_feed 35 [.ref x, l1, l2, l3] st h = Rr X d MTo_feed 36 [.ref x, l1, l2, l3] (.ref x :: st) h := Rr_nx d_MTo_feed_35 rfl
theorem r_MTo_feed_36 {a : Nat} (hq : (qR a 9 0).isSome = true) : Rr X d MTo_feed 36 L (.ref a :: st) (Wd mu la ro et) = Rr X d MTo_feed 39 L (.ref (qRd a 9 0) :: st) (Wd mu la ro et) := R_gfR d_MTo_feed_36 ff_9_10 hq
theorem r_MTo_feed_39 {l0 l1 l3 : Value} {x : Int32} : Rr X d MTo_feed 39 [l0, l1, .int x, l3] st h = Rr X d MTo_feed 40 [l0, l1, .int x, l3] (.int x :: st) h := Rr_nx d_MTo_feed_39 rfl
theorem r_MTo_feed_40 : Rr X d MTo_feed 40 L st h = Rr X d MTo_feed 42 L (.int (8) :: st) h := Rr_nx d_MTo_feed_40 rfl
theorem r_MTo_feed_42 {l0 l1 l2 : Value} {x : Int32} : Rr X d MTo_feed 42 [l0, l1, l2, .int x] st h = Rr X d MTo_feed 43 [l0, l1, l2, .int x] (.int x :: st) h := Rr_nx d_MTo_feed_42 rfl
theorem r_MTo_feed_43 {x y : Int32} : Rr X d MTo_feed 43 L (.int y :: .int x :: st) h = Rr X d MTo_feed 44 L (.int (x * y) :: st) h := Rr_nx d_MTo_feed_43 rfl
theorem r_MTo_feed_44 {x y : Int32} : Rr X d MTo_feed 44 L (.int y :: .int x :: st) h = Rr X d MTo_feed 45 L (.int ((x.toUInt32 >>> (y.toUInt32 &&& Int32.toUInt32 31)).toInt32) :: st) h := Rr_nx d_MTo_feed_44 rfl
theorem fc_9_80 : fC 9 80 = some (0, 8, 1, MTa_append) := rfl
theorem r_MTo_feed_45 {y0 : Int32} {a : Nat} (hO : qO a 8 = true) (hc : ckS st = true) : Rr X (d + 1) MTo_feed 45 L (.int y0 :: .ref a :: st) (Wd mu la ro et) = (Rr X d MTa_append 0 [.ref a, .int y0] [] (Wd mu la ro et)).bind fun q => Rr X (d + 1) MTo_feed 48 L (psh q.1 st) q.2 := R_iv (av := [.int y0]) d_MTo_feed_45 fc_9_80 hO (ckS_le hc) rfl (Nat.le_of_ble_eq_true rfl) (Nat.le_of_ble_eq_true rfl)
theorem r_MTo_feed_48 {l0 l1 l2 : Value} {x : Int32} : Rr X d MTo_feed 48 [l0, l1, l2, .int x] st h = Rr X d MTo_feed 51 (sL [l0, l1, l2, .int x] 3 (.int (x + (1)))) st h := Rr_nx d_MTo_feed_48 rfl
theorem r_MTo_feed_51 : Rr X d MTo_feed 51 L st h = Rr X d MTo_feed 30 L st h := R_goto d_MTo_feed_51 (by decide)
theorem r_MTo_feed_54 {l1 l2 l3 : Value} {x : Nat} : Rr X d MTo_feed 54 [.ref x, l1, l2, l3] st h = Rr X d MTo_feed 55 [.ref x, l1, l2, l3] (.ref x :: st) h := Rr_nx d_MTo_feed_54 rfl
theorem r_MTo_feed_55 {a : Nat} (hq : (qR a 9 0).isSome = true) : Rr X d MTo_feed 55 L (.ref a :: st) (Wd mu la ro et) = Rr X d MTo_feed 58 L (.ref (qRd a 9 0) :: st) (Wd mu la ro et) := R_gfR d_MTo_feed_55 ff_9_10 hq
theorem r_MTo_feed_58 {a : Nat} (hq : qI a 8 1 = true) : Rr X d MTo_feed 58 L (.ref a :: st) (Wd mu la ro et) = Rr X d MTo_feed 61 L (.int (mu a 1) :: st) (Wd mu la ro et) := R_gfI d_MTo_feed_58 ff_9_76 hq
theorem r_MTo_feed_61 {x : Int32} : Rr X d MTo_feed 61 L [.int x] h = some (some (.int x), h) := R_ir d_MTo_feed_61 rfl
theorem d_MRm_feed_0 : decode MRm_feed.2.2.1 0 = .ok (.iload_n 1, 1) := lkT_ok tk_MRm_feed rfl
theorem d_MRm_feed_1 : decode MRm_feed.2.2.1 1 = .ok (.iconst 1, 1) := lkT_ok tk_MRm_feed rfl
theorem d_MRm_feed_2 : decode MRm_feed.2.2.1 2 = .ok (.iconst 4, 1) := lkT_ok tk_MRm_feed rfl
theorem d_MRm_feed_3 : decode MRm_feed.2.2.1 3 = .ok (.invokestatic 107, 3) := lkT_ok tk_MRm_feed rfl
theorem d_MRm_feed_6 : decode MRm_feed.2.2.1 6 = .ok (.ifCond .ne 5, 3) := lkT_ok tk_MRm_feed rfl
theorem d_MRm_feed_9 : decode MRm_feed.2.2.1 9 = .ok (.iconst (-1), 1) := lkT_ok tk_MRm_feed rfl
theorem d_MRm_feed_10 : decode MRm_feed.2.2.1 10 = .ok (.ireturn, 1) := lkT_ok tk_MRm_feed rfl
theorem d_MRm_feed_11 : decode MRm_feed.2.2.1 11 = .ok (.aload_n 0, 1) := lkT_ok tk_MRm_feed rfl
theorem d_MRm_feed_12 : decode MRm_feed.2.2.1 12 = .ok (.getfield 111, 3) := lkT_ok tk_MRm_feed rfl
theorem d_MRm_feed_15 : decode MRm_feed.2.2.1 15 = .ok (.iload_n 1, 1) := lkT_ok tk_MRm_feed rfl
theorem d_MRm_feed_16 : decode MRm_feed.2.2.1 16 = .ok (.iadd, 1) := lkT_ok tk_MRm_feed rfl
theorem d_MRm_feed_17 : decode MRm_feed.2.2.1 17 = .ok (.bipush 120, 2) := lkT_ok tk_MRm_feed rfl
theorem d_MRm_feed_19 : decode MRm_feed.2.2.1 19 = .ok (.if_icmp .le 6, 3) := lkT_ok tk_MRm_feed rfl
theorem d_MRm_feed_22 : decode MRm_feed.2.2.1 22 = .ok (.bipush (-3), 2) := lkT_ok tk_MRm_feed rfl
theorem d_MRm_feed_24 : decode MRm_feed.2.2.1 24 = .ok (.ireturn, 1) := lkT_ok tk_MRm_feed rfl
theorem d_MRm_feed_25 : decode MRm_feed.2.2.1 25 = .ok (.iconst 0, 1) := lkT_ok tk_MRm_feed rfl
theorem d_MRm_feed_26 : decode MRm_feed.2.2.1 26 = .ok (.istore_n 3, 1) := lkT_ok tk_MRm_feed rfl
theorem d_MRm_feed_27 : decode MRm_feed.2.2.1 27 = .ok (.iload_n 3, 1) := lkT_ok tk_MRm_feed rfl
theorem d_MRm_feed_28 : decode MRm_feed.2.2.1 28 = .ok (.iload_n 1, 1) := lkT_ok tk_MRm_feed rfl
theorem d_MRm_feed_29 : decode MRm_feed.2.2.1 29 = .ok (.if_icmp .ge 35, 3) := lkT_ok tk_MRm_feed rfl
theorem d_MRm_feed_32 : decode MRm_feed.2.2.1 32 = .ok (.aload_n 0, 1) := lkT_ok tk_MRm_feed rfl
theorem d_MRm_feed_33 : decode MRm_feed.2.2.1 33 = .ok (.getfield 7, 3) := lkT_ok tk_MRm_feed rfl
theorem d_MRm_feed_36 : decode MRm_feed.2.2.1 36 = .ok (.aload_n 0, 1) := lkT_ok tk_MRm_feed rfl
theorem d_MRm_feed_37 : decode MRm_feed.2.2.1 37 = .ok (.getfield 111, 3) := lkT_ok tk_MRm_feed rfl
theorem d_MRm_feed_40 : decode MRm_feed.2.2.1 40 = .ok (.iload_n 2, 1) := lkT_ok tk_MRm_feed rfl
theorem d_MRm_feed_41 : decode MRm_feed.2.2.1 41 = .ok (.bipush 8, 2) := lkT_ok tk_MRm_feed rfl
theorem d_MRm_feed_43 : decode MRm_feed.2.2.1 43 = .ok (.iload_n 3, 1) := lkT_ok tk_MRm_feed rfl
theorem d_MRm_feed_44 : decode MRm_feed.2.2.1 44 = .ok (.imul, 1) := lkT_ok tk_MRm_feed rfl
theorem d_MRm_feed_45 : decode MRm_feed.2.2.1 45 = .ok (.ishr, 1) := lkT_ok tk_MRm_feed rfl
theorem d_MRm_feed_46 : decode MRm_feed.2.2.1 46 = .ok (.i2b, 1) := lkT_ok tk_MRm_feed rfl
theorem d_MRm_feed_47 : decode MRm_feed.2.2.1 47 = .ok (.bastore, 1) := lkT_ok tk_MRm_feed rfl
theorem d_MRm_feed_48 : decode MRm_feed.2.2.1 48 = .ok (.aload_n 0, 1) := lkT_ok tk_MRm_feed rfl
theorem d_MRm_feed_49 : decode MRm_feed.2.2.1 49 = .ok (.dup, 1) := lkT_ok tk_MRm_feed rfl
theorem d_MRm_feed_50 : decode MRm_feed.2.2.1 50 = .ok (.getfield 111, 3) := lkT_ok tk_MRm_feed rfl
theorem d_MRm_feed_53 : decode MRm_feed.2.2.1 53 = .ok (.iconst 1, 1) := lkT_ok tk_MRm_feed rfl
theorem d_MRm_feed_54 : decode MRm_feed.2.2.1 54 = .ok (.iadd, 1) := lkT_ok tk_MRm_feed rfl
theorem d_MRm_feed_55 : decode MRm_feed.2.2.1 55 = .ok (.putfield 111, 3) := lkT_ok tk_MRm_feed rfl
theorem d_MRm_feed_58 : decode MRm_feed.2.2.1 58 = .ok (.iinc 3 1, 3) := lkT_ok tk_MRm_feed rfl
theorem d_MRm_feed_61 : decode MRm_feed.2.2.1 61 = .ok (.goto (-34), 3) := lkT_ok tk_MRm_feed rfl
theorem d_MRm_feed_64 : decode MRm_feed.2.2.1 64 = .ok (.aload_n 0, 1) := lkT_ok tk_MRm_feed rfl
theorem d_MRm_feed_65 : decode MRm_feed.2.2.1 65 = .ok (.getfield 111, 3) := lkT_ok tk_MRm_feed rfl
theorem d_MRm_feed_68 : decode MRm_feed.2.2.1 68 = .ok (.ireturn, 1) := lkT_ok tk_MRm_feed rfl
theorem r_MRm_feed_0 {l0 l2 l3 : Value} {x : Int32} : Rr X d MRm_feed 0 [l0, .int x, l2, l3] st h = Rr X d MRm_feed 1 [l0, .int x, l2, l3] (.int x :: st) h := Rr_nx d_MRm_feed_0 rfl
theorem r_MRm_feed_1 : Rr X d MRm_feed 1 L st h = Rr X d MRm_feed 2 L (.int (1) :: st) h := Rr_nx d_MRm_feed_1 rfl
theorem r_MRm_feed_2 : Rr X d MRm_feed 2 L st h = Rr X d MRm_feed 3 L (.int (4) :: st) h := Rr_nx d_MRm_feed_2 rfl
theorem r_MRm_feed_3 {y0 : Int32} {y1 : Int32} {y2 : Int32} (hc : ckS st = true) : Rr X (d + 1) MRm_feed 3 L (.int y2 :: .int y1 :: .int y0 :: st) h = (Rr X d MRm_in 0 [.int y0, .int y1, .int y2] [] h).bind fun q => Rr X (d + 1) MRm_feed 6 L (psh q.1 st) q.2 := R_is (av := [.int y2, .int y1, .int y0]) d_MRm_feed_3 (Or.inl fc_10_107) (ckS_le hc) rfl (Nat.le_of_ble_eq_true rfl) (Nat.le_of_ble_eq_true rfl)
theorem r_MRm_feed_6 {x : Int32} : Rr X d MRm_feed 6 L (.int x :: st) h = if ¬ x = 0 then Rr X d MRm_feed 11 L st h else Rr X d MRm_feed 9 L st h := R_if_ne d_MRm_feed_6 (by decide)
theorem r_MRm_feed_9 : Rr X d MRm_feed 9 L st h = Rr X d MRm_feed 10 L (.int (-1) :: st) h := Rr_nx d_MRm_feed_9 rfl
theorem r_MRm_feed_10 {x : Int32} : Rr X d MRm_feed 10 L [.int x] h = some (some (.int x), h) := R_ir d_MRm_feed_10 rfl
theorem r_MRm_feed_11 {l1 l2 l3 : Value} {x : Nat} : Rr X d MRm_feed 11 [.ref x, l1, l2, l3] st h = Rr X d MRm_feed 12 [.ref x, l1, l2, l3] (.ref x :: st) h := Rr_nx d_MRm_feed_11 rfl
theorem r_MRm_feed_12 {a : Nat} (hq : qI a 10 2 = true) : Rr X d MRm_feed 12 L (.ref a :: st) (Wd mu la ro et) = Rr X d MRm_feed 15 L (.int (mu a 2) :: st) (Wd mu la ro et) := R_gfI d_MRm_feed_12 ff_10_111 hq
theorem r_MRm_feed_15 {l0 l2 l3 : Value} {x : Int32} : Rr X d MRm_feed 15 [l0, .int x, l2, l3] st h = Rr X d MRm_feed 16 [l0, .int x, l2, l3] (.int x :: st) h := Rr_nx d_MRm_feed_15 rfl
theorem r_MRm_feed_16 {x y : Int32} : Rr X d MRm_feed 16 L (.int y :: .int x :: st) h = Rr X d MRm_feed 17 L (.int (x + y) :: st) h := Rr_nx d_MRm_feed_16 rfl
theorem r_MRm_feed_17 : Rr X d MRm_feed 17 L st h = Rr X d MRm_feed 19 L (.int (120) :: st) h := Rr_nx d_MRm_feed_17 rfl
theorem r_MRm_feed_19 {x y : Int32} : Rr X d MRm_feed 19 L (.int y :: .int x :: st) h = if x ≤ y then Rr X d MRm_feed 25 L st h else Rr X d MRm_feed 22 L st h := R_ic_le d_MRm_feed_19 (by decide)
theorem r_MRm_feed_22 : Rr X d MRm_feed 22 L st h = Rr X d MRm_feed 24 L (.int (-3) :: st) h := Rr_nx d_MRm_feed_22 rfl
theorem r_MRm_feed_24 {x : Int32} : Rr X d MRm_feed 24 L [.int x] h = some (some (.int x), h) := R_ir d_MRm_feed_24 rfl
theorem r_MRm_feed_25 : Rr X d MRm_feed 25 L st h = Rr X d MRm_feed 26 L (.int (0) :: st) h := Rr_nx d_MRm_feed_25 rfl
theorem r_MRm_feed_26 {l0 l1 l2 l3 : Value} {x : Int32} : Rr X d MRm_feed 26 [l0, l1, l2, l3] (.int x :: st) h = Rr X d MRm_feed 27 (sL [l0, l1, l2, l3] 3 (.int x)) st h := Rr_nx d_MRm_feed_26 rfl
theorem r_MRm_feed_27 {l0 l1 l2 : Value} {x : Int32} : Rr X d MRm_feed 27 [l0, l1, l2, .int x] st h = Rr X d MRm_feed 28 [l0, l1, l2, .int x] (.int x :: st) h := Rr_nx d_MRm_feed_27 rfl
theorem r_MRm_feed_28 {l0 l2 l3 : Value} {x : Int32} : Rr X d MRm_feed 28 [l0, .int x, l2, l3] st h = Rr X d MRm_feed 29 [l0, .int x, l2, l3] (.int x :: st) h := Rr_nx d_MRm_feed_28 rfl
theorem r_MRm_feed_29 {x y : Int32} : Rr X d MRm_feed 29 L (.int y :: .int x :: st) h = if y ≤ x then Rr X d MRm_feed 64 L st h else Rr X d MRm_feed 32 L st h := R_ic_ge d_MRm_feed_29 (by decide)
theorem r_MRm_feed_32 {l1 l2 l3 : Value} {x : Nat} : Rr X d MRm_feed 32 [.ref x, l1, l2, l3] st h = Rr X d MRm_feed 33 [.ref x, l1, l2, l3] (.ref x :: st) h := Rr_nx d_MRm_feed_32 rfl
theorem r_MRm_feed_33 {a : Nat} (hq : (qR a 10 1).isSome = true) : Rr X d MRm_feed 33 L (.ref a :: st) (Wd mu la ro et) = Rr X d MRm_feed 36 L (.ref (qRd a 10 1) :: st) (Wd mu la ro et) := R_gfR d_MRm_feed_33 ff_10_7 hq
theorem r_MRm_feed_36 {l1 l2 l3 : Value} {x : Nat} : Rr X d MRm_feed 36 [.ref x, l1, l2, l3] st h = Rr X d MRm_feed 37 [.ref x, l1, l2, l3] (.ref x :: st) h := Rr_nx d_MRm_feed_36 rfl
theorem r_MRm_feed_37 {a : Nat} (hq : qI a 10 2 = true) : Rr X d MRm_feed 37 L (.ref a :: st) (Wd mu la ro et) = Rr X d MRm_feed 40 L (.int (mu a 2) :: st) (Wd mu la ro et) := R_gfI d_MRm_feed_37 ff_10_111 hq
theorem r_MRm_feed_40 {l0 l1 l3 : Value} {x : Int32} : Rr X d MRm_feed 40 [l0, l1, .int x, l3] st h = Rr X d MRm_feed 41 [l0, l1, .int x, l3] (.int x :: st) h := Rr_nx d_MRm_feed_40 rfl
theorem r_MRm_feed_41 : Rr X d MRm_feed 41 L st h = Rr X d MRm_feed 43 L (.int (8) :: st) h := Rr_nx d_MRm_feed_41 rfl
theorem r_MRm_feed_43 {l0 l1 l2 : Value} {x : Int32} : Rr X d MRm_feed 43 [l0, l1, l2, .int x] st h = Rr X d MRm_feed 44 [l0, l1, l2, .int x] (.int x :: st) h := Rr_nx d_MRm_feed_43 rfl
theorem r_MRm_feed_44 {x y : Int32} : Rr X d MRm_feed 44 L (.int y :: .int x :: st) h = Rr X d MRm_feed 45 L (.int (x * y) :: st) h := Rr_nx d_MRm_feed_44 rfl
theorem r_MRm_feed_45 {x y : Int32} : Rr X d MRm_feed 45 L (.int y :: .int x :: st) h = Rr X d MRm_feed 46 L (.int (x >>> (y &&& 31)) :: st) h := Rr_nx d_MRm_feed_45 rfl
theorem r_MRm_feed_46 {x : Int32} : Rr X d MRm_feed 46 L (.int x :: st) h = Rr X d MRm_feed 47 L (.int (x.toInt8.toInt32) :: st) h := Rr_nx d_MRm_feed_46 rfl
theorem r_MRm_feed_47 {a : Nat} {j x : Int32} (hq : (qA a 2).isSome = true) : Rr X d MRm_feed 47 L (.int x :: .int j :: .ref a :: st) (Wd mu la ro et) = if j < 0 ∨ qAd a 2 ≤ j.toNatClampNeg then none else Rr X d MRm_feed 48 L st (Wd (up2 mu a j.toNatClampNeg (x.toInt8.toInt32)) la ro et) := R_basW d_MRm_feed_47 hq
theorem r_MRm_feed_48 {l1 l2 l3 : Value} {x : Nat} : Rr X d MRm_feed 48 [.ref x, l1, l2, l3] st h = Rr X d MRm_feed 49 [.ref x, l1, l2, l3] (.ref x :: st) h := Rr_nx d_MRm_feed_48 rfl
theorem r_MRm_feed_49 {x : Nat} : Rr X d MRm_feed 49 L (.ref x :: st) h = Rr X d MRm_feed 50 L (.ref x :: .ref x :: st) h := Rr_nx d_MRm_feed_49 rfl
theorem r_MRm_feed_49i {x : Int32} : Rr X d MRm_feed 49 L (.int x :: st) h = Rr X d MRm_feed 50 L (.int x :: .int x :: st) h := Rr_nx d_MRm_feed_49 rfl
theorem r_MRm_feed_50 {a : Nat} (hq : qI a 10 2 = true) : Rr X d MRm_feed 50 L (.ref a :: st) (Wd mu la ro et) = Rr X d MRm_feed 53 L (.int (mu a 2) :: st) (Wd mu la ro et) := R_gfI d_MRm_feed_50 ff_10_111 hq
theorem r_MRm_feed_53 : Rr X d MRm_feed 53 L st h = Rr X d MRm_feed 54 L (.int (1) :: st) h := Rr_nx d_MRm_feed_53 rfl
theorem r_MRm_feed_54 {x y : Int32} : Rr X d MRm_feed 54 L (.int y :: .int x :: st) h = Rr X d MRm_feed 55 L (.int (x + y) :: st) h := Rr_nx d_MRm_feed_54 rfl
theorem r_MRm_feed_55 {a : Nat} {x : Int32} (hq : qI a 10 2 = true) : Rr X d MRm_feed 55 L (.int x :: .ref a :: st) (Wd mu la ro et) = Rr X d MRm_feed 58 L st (Wd (up2 mu a 2 x) la ro et) := R_pfI d_MRm_feed_55 ff_10_111 hq
theorem r_MRm_feed_58 {l0 l1 l2 : Value} {x : Int32} : Rr X d MRm_feed 58 [l0, l1, l2, .int x] st h = Rr X d MRm_feed 61 (sL [l0, l1, l2, .int x] 3 (.int (x + (1)))) st h := Rr_nx d_MRm_feed_58 rfl
theorem r_MRm_feed_61 : Rr X d MRm_feed 61 L st h = Rr X d MRm_feed 27 L st h := R_goto d_MRm_feed_61 (by decide)
theorem r_MRm_feed_64 {l1 l2 l3 : Value} {x : Nat} : Rr X d MRm_feed 64 [.ref x, l1, l2, l3] st h = Rr X d MRm_feed 65 [.ref x, l1, l2, l3] (.ref x :: st) h := Rr_nx d_MRm_feed_64 rfl
theorem r_MRm_feed_65 {a : Nat} (hq : qI a 10 2 = true) : Rr X d MRm_feed 65 L (.ref a :: st) (Wd mu la ro et) = Rr X d MRm_feed 68 L (.int (mu a 2) :: st) (Wd mu la ro et) := R_gfI d_MRm_feed_65 ff_10_111 hq
theorem r_MRm_feed_68 {x : Int32} : Rr X d MRm_feed 68 L [.int x] h = some (some (.int x), h) := R_ir d_MRm_feed_68 rfl
end RULES
