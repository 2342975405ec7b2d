section RULES
variable {X : Tok} {d : Nat} {st L : List Value} {h : Hp} {mu : Nat → Nat → Int32} {la : Nat → Nat → Int64} {ro : Nat → Nat → Option Nat} {et : Nat → Option va_E}
theorem d_MRm_begin_0 : decode MRm_begin.2.2.1 0 = .ok (.aload_n 0, 1) := lkT_ok tk_MRm_begin rfl
theorem d_MRm_begin_1 : decode MRm_begin.2.2.1 1 = .ok (.iload_n 1, 1) := lkT_ok tk_MRm_begin rfl
theorem d_MRm_begin_2 : decode MRm_begin.2.2.1 2 = .ok (.putfield 260, 3) := lkT_ok tk_MRm_begin rfl
theorem d_MRm_begin_5 : decode MRm_begin.2.2.1 5 = .ok (.aload_n 0, 1) := lkT_ok tk_MRm_begin rfl
theorem d_MRm_begin_6 : decode MRm_begin.2.2.1 6 = .ok (.iload_n 2, 1) := lkT_ok tk_MRm_begin rfl
theorem d_MRm_begin_7 : decode MRm_begin.2.2.1 7 = .ok (.sipush 1000, 3) := lkT_ok tk_MRm_begin rfl
theorem d_MRm_begin_10 : decode MRm_begin.2.2.1 10 = .ok (.idiv, 1) := lkT_ok tk_MRm_begin rfl
theorem d_MRm_begin_11 : decode MRm_begin.2.2.1 11 = .ok (.putfield 263, 3) := lkT_ok tk_MRm_begin rfl
theorem d_MRm_begin_14 : decode MRm_begin.2.2.1 14 = .ok (.aload_n 0, 1) := lkT_ok tk_MRm_begin rfl
theorem d_MRm_begin_15 : decode MRm_begin.2.2.1 15 = .ok (.iload_n 2, 1) := lkT_ok tk_MRm_begin rfl
theorem d_MRm_begin_16 : decode MRm_begin.2.2.1 16 = .ok (.sipush 1000, 3) := lkT_ok tk_MRm_begin rfl
theorem d_MRm_begin_19 : decode MRm_begin.2.2.1 19 = .ok (.irem, 1) := lkT_ok tk_MRm_begin rfl
theorem d_MRm_begin_20 : decode MRm_begin.2.2.1 20 = .ok (.putfield 266, 3) := lkT_ok tk_MRm_begin rfl
theorem d_MRm_begin_23 : decode MRm_begin.2.2.1 23 = .ok (.aload_n 0, 1) := lkT_ok tk_MRm_begin rfl
theorem d_MRm_begin_24 : decode MRm_begin.2.2.1 24 = .ok (.iconst 0, 1) := lkT_ok tk_MRm_begin rfl
theorem d_MRm_begin_25 : decode MRm_begin.2.2.1 25 = .ok (.putfield 269, 3) := lkT_ok tk_MRm_begin rfl
theorem d_MRm_begin_28 : decode MRm_begin.2.2.1 28 = .ok (.aload_n 0, 1) := lkT_ok tk_MRm_begin rfl
theorem d_MRm_begin_29 : decode MRm_begin.2.2.1 29 = .ok (.iconst 0, 1) := lkT_ok tk_MRm_begin rfl
theorem d_MRm_begin_30 : decode MRm_begin.2.2.1 30 = .ok (.putfield 272, 3) := lkT_ok tk_MRm_begin rfl
theorem d_MRm_begin_33 : decode MRm_begin.2.2.1 33 = .ok (.aload_n 0, 1) := lkT_ok tk_MRm_begin rfl
theorem d_MRm_begin_34 : decode MRm_begin.2.2.1 34 = .ok (.iconst 0, 1) := lkT_ok tk_MRm_begin rfl
theorem d_MRm_begin_35 : decode MRm_begin.2.2.1 35 = .ok (.putfield 275, 3) := lkT_ok tk_MRm_begin rfl
theorem d_MRm_begin_38 : decode MRm_begin.2.2.1 38 = .ok (.return_, 1) := lkT_ok tk_MRm_begin rfl
theorem r_MRm_begin_0 {l1 l2 : Value} {x : Nat} : Rr X d MRm_begin 0 [.ref x, l1, l2] st h = Rr X d MRm_begin 1 [.ref x, l1, l2] (.ref x :: st) h := Rr_nx d_MRm_begin_0 rfl
theorem r_MRm_begin_1 {l0 l2 : Value} {x : Int32} : Rr X d MRm_begin 1 [l0, .int x, l2] st h = Rr X d MRm_begin 2 [l0, .int x, l2] (.int x :: st) h := Rr_nx d_MRm_begin_1 rfl
theorem r_MRm_begin_2 {a : Nat} {x : Int32} (hq : qI a 10 30 = true) : Rr X d MRm_begin 2 L (.int x :: .ref a :: st) (Wd mu la ro et) = Rr X d MRm_begin 5 L st (Wd (up2 mu a 30 x) la ro et) := R_pfI d_MRm_begin_2 ff_10_260 hq
theorem r_MRm_begin_5 {l1 l2 : Value} {x : Nat} : Rr X d MRm_begin 5 [.ref x, l1, l2] st h = Rr X d MRm_begin 6 [.ref x, l1, l2] (.ref x :: st) h := Rr_nx d_MRm_begin_5 rfl
theorem r_MRm_begin_6 {l0 l1 : Value} {x : Int32} : Rr X d MRm_begin 6 [l0, l1, .int x] st h = Rr X d MRm_begin 7 [l0, l1, .int x] (.int x :: st) h := Rr_nx d_MRm_begin_6 rfl
theorem r_MRm_begin_7 : Rr X d MRm_begin 7 L st h = Rr X d MRm_begin 10 L (.int (1000) :: st) h := Rr_nx d_MRm_begin_7 rfl
theorem r_MRm_begin_10 {x y : Int32} : Rr X d MRm_begin 10 L (.int y :: .int x :: st) h = if y = 0 then none else Rr X d MRm_begin 11 L (.int (x / y) :: st) h := R_dv d_MRm_begin_10
theorem ff_10_263 : fF 10 263 = some (10, 31, 0, 0) := rfl
theorem r_MRm_begin_11 {a : Nat} {x : Int32} (hq : qI a 10 31 = true) : Rr X d MRm_begin 11 L (.int x :: .ref a :: st) (Wd mu la ro et) = Rr X d MRm_begin 14 L st (Wd (up2 mu a 31 x) la ro et) := R_pfI d_MRm_begin_11 ff_10_263 hq
theorem r_MRm_begin_14 {l1 l2 : Value} {x : Nat} : Rr X d MRm_begin 14 [.ref x, l1, l2] st h = Rr X d MRm_begin 15 [.ref x, l1, l2] (.ref x :: st) h := Rr_nx d_MRm_begin_14 rfl
theorem r_MRm_begin_15 {l0 l1 : Value} {x : Int32} : Rr X d MRm_begin 15 [l0, l1, .int x] st h = Rr X d MRm_begin 16 [l0, l1, .int x] (.int x :: st) h := Rr_nx d_MRm_begin_15 rfl
theorem r_MRm_begin_16 : Rr X d MRm_begin 16 L st h = Rr X d MRm_begin 19 L (.int (1000) :: st) h := Rr_nx d_MRm_begin_16 rfl
theorem r_MRm_begin_19 {x y : Int32} : Rr X d MRm_begin 19 L (.int y :: .int x :: st) h = if y = 0 then none else Rr X d MRm_begin 20 L (.int (x - x / y * y) :: st) h := R_rm d_MRm_begin_19
theorem ff_10_266 : fF 10 266 = some (10, 32, 0, 0) := rfl
theorem r_MRm_begin_20 {a : Nat} {x : Int32} (hq : qI a 10 32 = true) : Rr X d MRm_begin 20 L (.int x :: .ref a :: st) (Wd mu la ro et) = Rr X d MRm_begin 23 L st (Wd (up2 mu a 32 x) la ro et) := R_pfI d_MRm_begin_20 ff_10_266 hq
theorem r_MRm_begin_23 {l1 l2 : Value} {x : Nat} : Rr X d MRm_begin 23 [.ref x, l1, l2] st h = Rr X d MRm_begin 24 [.ref x, l1, l2] (.ref x :: st) h := Rr_nx d_MRm_begin_23 rfl
theorem r_MRm_begin_24 : Rr X d MRm_begin 24 L st h = Rr X d MRm_begin 25 L (.int (0) :: st) h := Rr_nx d_MRm_begin_24 rfl
theorem ff_10_269 : fF 10 269 = some (10, 33, 0, 0) := rfl
theorem r_MRm_begin_25 {a : Nat} {x : Int32} (hq : qI a 10 33 = true) : Rr X d MRm_begin 25 L (.int x :: .ref a :: st) (Wd mu la ro et) = Rr X d MRm_begin 28 L st (Wd (up2 mu a 33 x) la ro et) := R_pfI d_MRm_begin_25 ff_10_269 hq
theorem r_MRm_begin_28 {l1 l2 : Value} {x : Nat} : Rr X d MRm_begin 28 [.ref x, l1, l2] st h = Rr X d MRm_begin 29 [.ref x, l1, l2] (.ref x :: st) h := Rr_nx d_MRm_begin_28 rfl
theorem r_MRm_begin_29 : Rr X d MRm_begin 29 L st h = Rr X d MRm_begin 30 L (.int (0) :: st) h := Rr_nx d_MRm_begin_29 rfl
theorem ff_10_272 : fF 10 272 = some (10, 34, 0, 0) := rfl
theorem r_MRm_begin_30 {a : Nat} {x : Int32} (hq : qI a 10 34 = true) : Rr X d MRm_begin 30 L (.int x :: .ref a :: st) (Wd mu la ro et) = Rr X d MRm_begin 33 L st (Wd (up2 mu a 34 x) la ro et) := R_pfI d_MRm_begin_30 ff_10_272 hq
theorem r_MRm_begin_33 {l1 l2 : Value} {x : Nat} : Rr X d MRm_begin 33 [.ref x, l1, l2] st h = Rr X d MRm_begin 34 [.ref x, l1, l2] (.ref x :: st) h := Rr_nx d_MRm_begin_33 rfl
theorem r_MRm_begin_34 : Rr X d MRm_begin 34 L st h = Rr X d MRm_begin 35 L (.int (0) :: st) h := Rr_nx d_MRm_begin_34 rfl
theorem ff_10_275 : fF 10 275 = some (10, 35, 0, 0) := rfl
theorem r_MRm_begin_35 {a : Nat} {x : Int32} (hq : qI a 10 35 = true) : Rr X d MRm_begin 35 L (.int x :: .ref a :: st) (Wd mu la ro et) = Rr X d MRm_begin 38 L st (Wd (up2 mu a 35 x) la ro et) := R_pfI d_MRm_begin_35 ff_10_275 hq
theorem r_MRm_begin_38 : Rr X d MRm_begin 38 L [] h = some (none, h) := Rr_rt d_MRm_begin_38 rfl
end RULES
