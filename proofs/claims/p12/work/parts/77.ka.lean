section RULES
variable {X : Tok} {d : Nat} {st L : List Value} {h : Hp} {mu : Nat → Nat → Int32} {la : Nat → Nat → Int64} {ro : Nat → Nat → Option Nat} {et : Nat → Option va_E}
theorem d_MFl_takes_0 : decode MFl_takes.2.2.1 0 = .ok (.aload_n 0, 1) := lkT_ok tk_MFl_takes rfl
theorem d_MFl_takes_1 : decode MFl_takes.2.2.1 1 = .ok (.iload_n 1, 1) := lkT_ok tk_MFl_takes rfl
theorem d_MFl_takes_2 : decode MFl_takes.2.2.1 2 = .ok (.putfield 86, 3) := lkT_ok tk_MFl_takes rfl
theorem d_MFl_takes_5 : decode MFl_takes.2.2.1 5 = .ok (.aload_n 0, 1) := lkT_ok tk_MFl_takes rfl
theorem d_MFl_takes_6 : decode MFl_takes.2.2.1 6 = .ok (.iload_n 2, 1) := lkT_ok tk_MFl_takes rfl
theorem d_MFl_takes_7 : decode MFl_takes.2.2.1 7 = .ok (.putfield 89, 3) := lkT_ok tk_MFl_takes rfl
theorem d_MFl_takes_10 : decode MFl_takes.2.2.1 10 = .ok (.iconst 0, 1) := lkT_ok tk_MFl_takes rfl
theorem d_MFl_takes_11 : decode MFl_takes.2.2.1 11 = .ok (.istore_n 3, 1) := lkT_ok tk_MFl_takes rfl
theorem d_MFl_takes_12 : decode MFl_takes.2.2.1 12 = .ok (.iconst 0, 1) := lkT_ok tk_MFl_takes rfl
theorem d_MFl_takes_13 : decode MFl_takes.2.2.1 13 = .ok (.istore 4, 2) := lkT_ok tk_MFl_takes rfl
theorem d_MFl_takes_15 : decode MFl_takes.2.2.1 15 = .ok (.iload 4, 2) := lkT_ok tk_MFl_takes rfl
theorem d_MFl_takes_17 : decode MFl_takes.2.2.1 17 = .ok (.aload_n 0, 1) := lkT_ok tk_MFl_takes rfl
theorem d_MFl_takes_18 : decode MFl_takes.2.2.1 18 = .ok (.getfield 24, 3) := lkT_ok tk_MFl_takes rfl
theorem d_MFl_takes_21 : decode MFl_takes.2.2.1 21 = .ok (.if_icmp .ge 128, 3) := lkT_ok tk_MFl_takes rfl
theorem d_MFl_takes_24 : decode MFl_takes.2.2.1 24 = .ok (.iload 4, 2) := lkT_ok tk_MFl_takes rfl
theorem d_MFl_takes_26 : decode MFl_takes.2.2.1 26 = .ok (.bipush 121, 2) := lkT_ok tk_MFl_takes rfl
theorem d_MFl_takes_28 : decode MFl_takes.2.2.1 28 = .ok (.if_icmp .ge 121, 3) := lkT_ok tk_MFl_takes rfl
theorem d_MFl_takes_31 : decode MFl_takes.2.2.1 31 = .ok (.iload_n 2, 1) := lkT_ok tk_MFl_takes rfl
theorem d_MFl_takes_32 : decode MFl_takes.2.2.1 32 = .ok (.ifCond .le 117, 3) := lkT_ok tk_MFl_takes rfl
theorem d_MFl_takes_35 : decode MFl_takes.2.2.1 35 = .ok (.aload_n 0, 1) := lkT_ok tk_MFl_takes rfl
theorem d_MFl_takes_36 : decode MFl_takes.2.2.1 36 = .ok (.getfield 11, 3) := lkT_ok tk_MFl_takes rfl
theorem d_MFl_takes_39 : decode MFl_takes.2.2.1 39 = .ok (.iload 4, 2) := lkT_ok tk_MFl_takes rfl
theorem d_MFl_takes_41 : decode MFl_takes.2.2.1 41 = .ok (.iaload, 1) := lkT_ok tk_MFl_takes rfl
theorem d_MFl_takes_42 : decode MFl_takes.2.2.1 42 = .ok (.istore 5, 2) := lkT_ok tk_MFl_takes rfl
theorem d_MFl_takes_44 : decode MFl_takes.2.2.1 44 = .ok (.aload_n 0, 1) := lkT_ok tk_MFl_takes rfl
theorem d_MFl_takes_45 : decode MFl_takes.2.2.1 45 = .ok (.aload_n 0, 1) := lkT_ok tk_MFl_takes rfl
theorem d_MFl_takes_46 : decode MFl_takes.2.2.1 46 = .ok (.getfield 15, 3) := lkT_ok tk_MFl_takes rfl
theorem d_MFl_takes_49 : decode MFl_takes.2.2.1 49 = .ok (.iload 4, 2) := lkT_ok tk_MFl_takes rfl
theorem d_MFl_takes_51 : decode MFl_takes.2.2.1 51 = .ok (.iaload, 1) := lkT_ok tk_MFl_takes rfl
theorem d_MFl_takes_52 : decode MFl_takes.2.2.1 52 = .ok (.invokevirtual 92, 3) := lkT_ok tk_MFl_takes rfl
theorem d_MFl_takes_55 : decode MFl_takes.2.2.1 55 = .ok (.istore 6, 2) := lkT_ok tk_MFl_takes rfl
theorem d_MFl_takes_57 : decode MFl_takes.2.2.1 57 = .ok (.iload 5, 2) := lkT_ok tk_MFl_takes rfl
theorem d_MFl_takes_59 : decode MFl_takes.2.2.1 59 = .ok (.iconst 4, 1) := lkT_ok tk_MFl_takes rfl
theorem d_MFl_takes_60 : decode MFl_takes.2.2.1 60 = .ok (.if_icmp .ne 23, 3) := lkT_ok tk_MFl_takes rfl
theorem d_MFl_takes_63 : decode MFl_takes.2.2.1 63 = .ok (.iload_n 3, 1) := lkT_ok tk_MFl_takes rfl
theorem d_MFl_takes_64 : decode MFl_takes.2.2.1 64 = .ok (.ifCond .ne 14, 3) := lkT_ok tk_MFl_takes rfl
theorem d_MFl_takes_67 : decode MFl_takes.2.2.1 67 = .ok (.iconst 0, 1) := lkT_ok tk_MFl_takes rfl
theorem d_MFl_takes_68 : decode MFl_takes.2.2.1 68 = .ok (.iload_n 2, 1) := lkT_ok tk_MFl_takes rfl
theorem d_MFl_takes_69 : decode MFl_takes.2.2.1 69 = .ok (.iload 6, 2) := lkT_ok tk_MFl_takes rfl
theorem d_MFl_takes_71 : decode MFl_takes.2.2.1 71 = .ok (.invokestatic 95, 3) := lkT_ok tk_MFl_takes rfl
theorem d_MFl_takes_74 : decode MFl_takes.2.2.1 74 = .ok (.invokestatic 99, 3) := lkT_ok tk_MFl_takes rfl
theorem d_MFl_takes_77 : decode MFl_takes.2.2.1 77 = .ok (.ireturn, 1) := lkT_ok tk_MFl_takes rfl
theorem d_MFl_takes_78 : decode MFl_takes.2.2.1 78 = .ok (.iconst 0, 1) := lkT_ok tk_MFl_takes rfl
theorem d_MFl_takes_79 : decode MFl_takes.2.2.1 79 = .ok (.istore_n 3, 1) := lkT_ok tk_MFl_takes rfl
theorem d_MFl_takes_80 : decode MFl_takes.2.2.1 80 = .ok (.goto 63, 3) := lkT_ok tk_MFl_takes rfl
theorem d_MFl_takes_83 : decode MFl_takes.2.2.1 83 = .ok (.iload_n 3, 1) := lkT_ok tk_MFl_takes rfl
theorem d_MFl_takes_84 : decode MFl_takes.2.2.1 84 = .ok (.ifCond .ne 23, 3) := lkT_ok tk_MFl_takes rfl
theorem d_MFl_takes_87 : decode MFl_takes.2.2.1 87 = .ok (.iload 5, 2) := lkT_ok tk_MFl_takes rfl
theorem d_MFl_takes_89 : decode MFl_takes.2.2.1 89 = .ok (.iconst 3, 1) := lkT_ok tk_MFl_takes rfl
theorem d_MFl_takes_90 : decode MFl_takes.2.2.1 90 = .ok (.if_icmp .ne 17, 3) := lkT_ok tk_MFl_takes rfl
theorem d_MFl_takes_93 : decode MFl_takes.2.2.1 93 = .ok (.iload 6, 2) := lkT_ok tk_MFl_takes rfl
theorem d_MFl_takes_95 : decode MFl_takes.2.2.1 95 = .ok (.ifCond .ne 7, 3) := lkT_ok tk_MFl_takes rfl
theorem d_MFl_takes_98 : decode MFl_takes.2.2.1 98 = .ok (.iconst 1, 1) := lkT_ok tk_MFl_takes rfl
theorem d_MFl_takes_99 : decode MFl_takes.2.2.1 99 = .ok (.goto 4, 3) := lkT_ok tk_MFl_takes rfl
theorem d_MFl_takes_102 : decode MFl_takes.2.2.1 102 = .ok (.iconst 0, 1) := lkT_ok tk_MFl_takes rfl
theorem d_MFl_takes_103 : decode MFl_takes.2.2.1 103 = .ok (.istore_n 3, 1) := lkT_ok tk_MFl_takes rfl
theorem d_MFl_takes_104 : decode MFl_takes.2.2.1 104 = .ok (.goto 39, 3) := lkT_ok tk_MFl_takes rfl
theorem d_MFl_takes_107 : decode MFl_takes.2.2.1 107 = .ok (.iload_n 3, 1) := lkT_ok tk_MFl_takes rfl
theorem d_MFl_takes_108 : decode MFl_takes.2.2.1 108 = .ok (.ifCond .ne 35, 3) := lkT_ok tk_MFl_takes rfl
theorem d_MFl_takes_111 : decode MFl_takes.2.2.1 111 = .ok (.iload 5, 2) := lkT_ok tk_MFl_takes rfl
theorem d_MFl_takes_113 : decode MFl_takes.2.2.1 113 = .ok (.iconst 1, 1) := lkT_ok tk_MFl_takes rfl
theorem d_MFl_takes_114 : decode MFl_takes.2.2.1 114 = .ok (.if_icmp .eq 29, 3) := lkT_ok tk_MFl_takes rfl
theorem d_MFl_takes_117 : decode MFl_takes.2.2.1 117 = .ok (.aload_n 0, 1) := lkT_ok tk_MFl_takes rfl
theorem d_MFl_takes_118 : decode MFl_takes.2.2.1 118 = .ok (.getfield 21, 3) := lkT_ok tk_MFl_takes rfl
theorem d_MFl_takes_121 : decode MFl_takes.2.2.1 121 = .ok (.iload 4, 2) := lkT_ok tk_MFl_takes rfl
theorem d_MFl_takes_123 : decode MFl_takes.2.2.1 123 = .ok (.aload_n 0, 1) := lkT_ok tk_MFl_takes rfl
theorem d_MFl_takes_124 : decode MFl_takes.2.2.1 124 = .ok (.iload 5, 2) := lkT_ok tk_MFl_takes rfl
theorem d_MFl_takes_126 : decode MFl_takes.2.2.1 126 = .ok (.iload 6, 2) := lkT_ok tk_MFl_takes rfl
theorem d_MFl_takes_128 : decode MFl_takes.2.2.1 128 = .ok (.aload_n 0, 1) := lkT_ok tk_MFl_takes rfl
theorem d_MFl_takes_129 : decode MFl_takes.2.2.1 129 = .ok (.aload_n 0, 1) := lkT_ok tk_MFl_takes rfl
theorem d_MFl_takes_130 : decode MFl_takes.2.2.1 130 = .ok (.getfield 18, 3) := lkT_ok tk_MFl_takes rfl
theorem d_MFl_takes_133 : decode MFl_takes.2.2.1 133 = .ok (.iload 4, 2) := lkT_ok tk_MFl_takes rfl
theorem d_MFl_takes_135 : decode MFl_takes.2.2.1 135 = .ok (.iaload, 1) := lkT_ok tk_MFl_takes rfl
theorem d_MFl_takes_136 : decode MFl_takes.2.2.1 136 = .ok (.invokevirtual 92, 3) := lkT_ok tk_MFl_takes rfl
theorem d_MFl_takes_139 : decode MFl_takes.2.2.1 139 = .ok (.invokevirtual 102, 3) := lkT_ok tk_MFl_takes rfl
theorem d_MFl_takes_142 : decode MFl_takes.2.2.1 142 = .ok (.iastore, 1) := lkT_ok tk_MFl_takes rfl
theorem d_MFl_takes_143 : decode MFl_takes.2.2.1 143 = .ok (.iinc 4 1, 3) := lkT_ok tk_MFl_takes rfl
theorem d_MFl_takes_146 : decode MFl_takes.2.2.1 146 = .ok (.goto (-131), 3) := lkT_ok tk_MFl_takes rfl
theorem d_MFl_takes_149 : decode MFl_takes.2.2.1 149 = .ok (.iconst 0, 1) := lkT_ok tk_MFl_takes rfl
theorem d_MFl_takes_150 : decode MFl_takes.2.2.1 150 = .ok (.ireturn, 1) := lkT_ok tk_MFl_takes rfl
theorem r_MFl_takes_0 {l1 l2 l3 l4 l5 l6 : Value} {x : Nat} : Rr X d MFl_takes 0 [.ref x, l1, l2, l3, l4, l5, l6] st h = Rr X d MFl_takes 1 [.ref x, l1, l2, l3, l4, l5, l6] (.ref x :: st) h := Rr_nx d_MFl_takes_0 rfl
theorem r_MFl_takes_1 {l0 l2 l3 l4 l5 l6 : Value} {x : Int32} : Rr X d MFl_takes 1 [l0, .int x, l2, l3, l4, l5, l6] st h = Rr X d MFl_takes 2 [l0, .int x, l2, l3, l4, l5, l6] (.int x :: st) h := Rr_nx d_MFl_takes_1 rfl
theorem ff_3_86 : fF 3 86 = some (3, 5, 0, 0) := rfl
theorem r_MFl_takes_2 {a : Nat} {x : Int32} (hq : qI a 3 5 = true) : Rr X d MFl_takes 2 L (.int x :: .ref a :: st) (Wd mu la ro et) = Rr X d MFl_takes 5 L st (Wd (up2 mu a 5 x) la ro et) := R_pfI d_MFl_takes_2 ff_3_86 hq
theorem r_MFl_takes_5 {l1 l2 l3 l4 l5 l6 : Value} {x : Nat} : Rr X d MFl_takes 5 [.ref x, l1, l2, l3, l4, l5, l6] st h = Rr X d MFl_takes 6 [.ref x, l1, l2, l3, l4, l5, l6] (.ref x :: st) h := Rr_nx d_MFl_takes_5 rfl
theorem r_MFl_takes_6 {l0 l1 l3 l4 l5 l6 : Value} {x : Int32} : Rr X d MFl_takes 6 [l0, l1, .int x, l3, l4, l5, l6] st h = Rr X d MFl_takes 7 [l0, l1, .int x, l3, l4, l5, l6] (.int x :: st) h := Rr_nx d_MFl_takes_6 rfl
theorem ff_3_89 : fF 3 89 = some (3, 6, 0, 0) := rfl
theorem r_MFl_takes_7 {a : Nat} {x : Int32} (hq : qI a 3 6 = true) : Rr X d MFl_takes 7 L (.int x :: .ref a :: st) (Wd mu la ro et) = Rr X d MFl_takes 10 L st (Wd (up2 mu a 6 x) la ro et) := R_pfI d_MFl_takes_7 ff_3_89 hq
theorem r_MFl_takes_10 : Rr X d MFl_takes 10 L st h = Rr X d MFl_takes 11 L (.int (0) :: st) h := Rr_nx d_MFl_takes_10 rfl
theorem r_MFl_takes_11 {l0 l1 l2 l3 l4 l5 l6 : Value} {x : Int32} : Rr X d MFl_takes 11 [l0, l1, l2, l3, l4, l5, l6] (.int x :: st) h = Rr X d MFl_takes 12 (sL [l0, l1, l2, l3, l4, l5, l6] 3 (.int x)) st h := Rr_nx d_MFl_takes_11 rfl
theorem r_MFl_takes_12 : Rr X d MFl_takes 12 L st h = Rr X d MFl_takes 13 L (.int (0) :: st) h := Rr_nx d_MFl_takes_12 rfl
theorem r_MFl_takes_13 {l0 l1 l2 l3 l4 l5 l6 : Value} {x : Int32} : Rr X d MFl_takes 13 [l0, l1, l2, l3, l4, l5, l6] (.int x :: st) h = Rr X d MFl_takes 15 (sL [l0, l1, l2, l3, l4, l5, l6] 4 (.int x)) st h := Rr_nx d_MFl_takes_13 rfl
theorem r_MFl_takes_15 {l0 l1 l2 l3 l5 l6 : Value} {x : Int32} : Rr X d MFl_takes 15 [l0, l1, l2, l3, .int x, l5, l6] st h = Rr X d MFl_takes 17 [l0, l1, l2, l3, .int x, l5, l6] (.int x :: st) h := Rr_nx d_MFl_takes_15 rfl
theorem r_MFl_takes_17 {l1 l2 l3 l4 l5 l6 : Value} {x : Nat} : Rr X d MFl_takes 17 [.ref x, l1, l2, l3, l4, l5, l6] st h = Rr X d MFl_takes 18 [.ref x, l1, l2, l3, l4, l5, l6] (.ref x :: st) h := Rr_nx d_MFl_takes_17 rfl
theorem r_MFl_takes_18 {a : Nat} (hq : qI a 3 4 = true) : Rr X d MFl_takes 18 L (.ref a :: st) (Wd mu la ro et) = Rr X d MFl_takes 21 L (.int (mu a 4) :: st) (Wd mu la ro et) := R_gfI d_MFl_takes_18 ff_3_24 hq
theorem r_MFl_takes_21 {x y : Int32} : Rr X d MFl_takes 21 L (.int y :: .int x :: st) h = if y ≤ x then Rr X d MFl_takes 149 L st h else Rr X d MFl_takes 24 L st h := R_ic_ge d_MFl_takes_21 (by decide)
theorem r_MFl_takes_24 {l0 l1 l2 l3 l5 l6 : Value} {x : Int32} : Rr X d MFl_takes 24 [l0, l1, l2, l3, .int x, l5, l6] st h = Rr X d MFl_takes 26 [l0, l1, l2, l3, .int x, l5, l6] (.int x :: st) h := Rr_nx d_MFl_takes_24 rfl
theorem r_MFl_takes_26 : Rr X d MFl_takes 26 L st h = Rr X d MFl_takes 28 L (.int (121) :: st) h := Rr_nx d_MFl_takes_26 rfl
theorem r_MFl_takes_28 {x y : Int32} : Rr X d MFl_takes 28 L (.int y :: .int x :: st) h = if y ≤ x then Rr X d MFl_takes 149 L st h else Rr X d MFl_takes 31 L st h := R_ic_ge d_MFl_takes_28 (by decide)
theorem r_MFl_takes_31 {l0 l1 l3 l4 l5 l6 : Value} {x : Int32} : Rr X d MFl_takes 31 [l0, l1, .int x, l3, l4, l5, l6] st h = Rr X d MFl_takes 32 [l0, l1, .int x, l3, l4, l5, l6] (.int x :: st) h := Rr_nx d_MFl_takes_31 rfl
theorem r_MFl_takes_32 {x : Int32} : Rr X d MFl_takes 32 L (.int x :: st) h = if x ≤ 0 then Rr X d MFl_takes 149 L st h else Rr X d MFl_takes 35 L st h := R_if_le d_MFl_takes_32 (by decide)
theorem r_MFl_takes_35 {l1 l2 l3 l4 l5 l6 : Value} {x : Nat} : Rr X d MFl_takes 35 [.ref x, l1, l2, l3, l4, l5, l6] st h = Rr X d MFl_takes 36 [.ref x, l1, l2, l3, l4, l5, l6] (.ref x :: st) h := Rr_nx d_MFl_takes_35 rfl
theorem r_MFl_takes_36 {a : Nat} (hq : (qR a 3 0).isSome = true) : Rr X d MFl_takes 36 L (.ref a :: st) (Wd mu la ro et) = Rr X d MFl_takes 39 L (.ref (qRd a 3 0) :: st) (Wd mu la ro et) := R_gfR d_MFl_takes_36 ff_3_11 hq
theorem r_MFl_takes_39 {l0 l1 l2 l3 l5 l6 : Value} {x : Int32} : Rr X d MFl_takes 39 [l0, l1, l2, l3, .int x, l5, l6] st h = Rr X d MFl_takes 41 [l0, l1, l2, l3, .int x, l5, l6] (.int x :: st) h := Rr_nx d_MFl_takes_39 rfl
theorem r_MFl_takes_41 {a : Nat} {j : Int32} (hq : (qA a 0).isSome = true) : Rr X d MFl_takes 41 L (.int j :: .ref a :: st) (Wd mu la ro et) = if j < 0 ∨ qAd a 0 ≤ j.toNatClampNeg then none else Rr X d MFl_takes 42 L (.int (mu a j.toNatClampNeg) :: st) (Wd mu la ro et) := R_ialW d_MFl_takes_41 hq
theorem r_MFl_takes_42 {l0 l1 l2 l3 l4 l5 l6 : Value} {x : Int32} : Rr X d MFl_takes 42 [l0, l1, l2, l3, l4, l5, l6] (.int x :: st) h = Rr X d MFl_takes 44 (sL [l0, l1, l2, l3, l4, l5, l6] 5 (.int x)) st h := Rr_nx d_MFl_takes_42 rfl
theorem r_MFl_takes_44 {l1 l2 l3 l4 l5 l6 : Value} {x : Nat} : Rr X d MFl_takes 44 [.ref x, l1, l2, l3, l4, l5, l6] st h = Rr X d MFl_takes 45 [.ref x, l1, l2, l3, l4, l5, l6] (.ref x :: st) h := Rr_nx d_MFl_takes_44 rfl
theorem r_MFl_takes_45 {l1 l2 l3 l4 l5 l6 : Value} {x : Nat} : Rr X d MFl_takes 45 [.ref x, l1, l2, l3, l4, l5, l6] st h = Rr X d MFl_takes 46 [.ref x, l1, l2, l3, l4, l5, l6] (.ref x :: st) h := Rr_nx d_MFl_takes_45 rfl
theorem r_MFl_takes_46 {a : Nat} (hq : (qR a 3 1).isSome = true) : Rr X d MFl_takes 46 L (.ref a :: st) (Wd mu la ro et) = Rr X d MFl_takes 49 L (.ref (qRd a 3 1) :: st) (Wd mu la ro et) := R_gfR d_MFl_takes_46 ff_3_15 hq
theorem r_MFl_takes_49 {l0 l1 l2 l3 l5 l6 : Value} {x : Int32} : Rr X d MFl_takes 49 [l0, l1, l2, l3, .int x, l5, l6] st h = Rr X d MFl_takes 51 [l0, l1, l2, l3, .int x, l5, l6] (.int x :: st) h := Rr_nx d_MFl_takes_49 rfl
theorem r_MFl_takes_51 {a : Nat} {j : Int32} (hq : (qA a 0).isSome = true) : Rr X d MFl_takes 51 L (.int j :: .ref a :: st) (Wd mu la ro et) = if j < 0 ∨ qAd a 0 ≤ j.toNatClampNeg then none else Rr X d MFl_takes 52 L (.int (mu a j.toNatClampNeg) :: st) (Wd mu la ro et) := R_ialW d_MFl_takes_51 hq
theorem fc_3_92 : fC 3 92 = some (0, 3, 1, MFl_valueAt) := rfl
theorem r_MFl_takes_52 {y0 : Int32} {a : Nat} (hO : qO a 3 = true) (hc : ckS st = true) : Rr X (d + 1) MFl_takes 52 L (.int y0 :: .ref a :: st) (Wd mu la ro et) = (Rr X d MFl_valueAt 0 [.ref a, .int y0] [] (Wd mu la ro et)).bind fun q => Rr X (d + 1) MFl_takes 55 L (psh q.1 st) q.2 := R_iv (av := [.int y0]) d_MFl_takes_52 fc_3_92 hO (ckS_le hc) rfl (Nat.le_of_ble_eq_true rfl) (Nat.le_of_ble_eq_true rfl)
theorem r_MFl_takes_55 {l0 l1 l2 l3 l4 l5 l6 : Value} {x : Int32} : Rr X d MFl_takes 55 [l0, l1, l2, l3, l4, l5, l6] (.int x :: st) h = Rr X d MFl_takes 57 (sL [l0, l1, l2, l3, l4, l5, l6] 6 (.int x)) st h := Rr_nx d_MFl_takes_55 rfl
theorem r_MFl_takes_57 {l0 l1 l2 l3 l4 l6 : Value} {x : Int32} : Rr X d MFl_takes 57 [l0, l1, l2, l3, l4, .int x, l6] st h = Rr X d MFl_takes 59 [l0, l1, l2, l3, l4, .int x, l6] (.int x :: st) h := Rr_nx d_MFl_takes_57 rfl
theorem r_MFl_takes_59 : Rr X d MFl_takes 59 L st h = Rr X d MFl_takes 60 L (.int (4) :: st) h := Rr_nx d_MFl_takes_59 rfl
theorem r_MFl_takes_60 {x y : Int32} : Rr X d MFl_takes 60 L (.int y :: .int x :: st) h = if ¬ x = y then Rr X d MFl_takes 83 L st h else Rr X d MFl_takes 63 L st h := R_ic_ne d_MFl_takes_60 (by decide)
theorem r_MFl_takes_63 {l0 l1 l2 l4 l5 l6 : Value} {x : Int32} : Rr X d MFl_takes 63 [l0, l1, l2, .int x, l4, l5, l6] st h = Rr X d MFl_takes 64 [l0, l1, l2, .int x, l4, l5, l6] (.int x :: st) h := Rr_nx d_MFl_takes_63 rfl
theorem r_MFl_takes_64 {x : Int32} : Rr X d MFl_takes 64 L (.int x :: st) h = if ¬ x = 0 then Rr X d MFl_takes 78 L st h else Rr X d MFl_takes 67 L st h := R_if_ne d_MFl_takes_64 (by decide)
theorem r_MFl_takes_67 : Rr X d MFl_takes 67 L st h = Rr X d MFl_takes 68 L (.int (0) :: st) h := Rr_nx d_MFl_takes_67 rfl
theorem r_MFl_takes_68 {l0 l1 l3 l4 l5 l6 : Value} {x : Int32} : Rr X d MFl_takes 68 [l0, l1, .int x, l3, l4, l5, l6] st h = Rr X d MFl_takes 69 [l0, l1, .int x, l3, l4, l5, l6] (.int x :: st) h := Rr_nx d_MFl_takes_68 rfl
theorem r_MFl_takes_69 {l0 l1 l2 l3 l4 l5 : Value} {x : Int32} : Rr X d MFl_takes 69 [l0, l1, l2, l3, l4, l5, .int x] st h = Rr X d MFl_takes 71 [l0, l1, l2, l3, l4, l5, .int x] (.int x :: st) h := Rr_nx d_MFl_takes_69 rfl
theorem fc_3_95 : fC 3 95 = some (7, 0, 0, mI 0) := rfl
theorem r_MFl_takes_71 {x y : Int32} (hc : ckS st = true) : Rr X (d + 1) MFl_takes 71 L (.int y :: .int x :: st) h = Rr X (d + 1) MFl_takes 74 L (.int (if y < x then y else x) :: st) h := R_min d_MFl_takes_71 fc_3_95 (ckS_le hc)
theorem fc_3_99 : fC 3 99 = some (6, 0, 0, mI 0) := rfl
theorem r_MFl_takes_74 {x y : Int32} (hc : ckS st = true) : Rr X (d + 1) MFl_takes 74 L (.int y :: .int x :: st) h = Rr X (d + 1) MFl_takes 77 L (.int (if x < y then y else x) :: st) h := R_max d_MFl_takes_74 fc_3_99 (ckS_le hc)
theorem r_MFl_takes_77 {x : Int32} : Rr X d MFl_takes 77 L [.int x] h = some (some (.int x), h) := R_ir d_MFl_takes_77 rfl
theorem r_MFl_takes_78 : Rr X d MFl_takes 78 L st h = Rr X d MFl_takes 79 L (.int (0) :: st) h := Rr_nx d_MFl_takes_78 rfl
theorem r_MFl_takes_79 {l0 l1 l2 l3 l4 l5 l6 : Value} {x : Int32} : Rr X d MFl_takes 79 [l0, l1, l2, l3, l4, l5, l6] (.int x :: st) h = Rr X d MFl_takes 80 (sL [l0, l1, l2, l3, l4, l5, l6] 3 (.int x)) st h := Rr_nx d_MFl_takes_79 rfl
theorem r_MFl_takes_80 : Rr X d MFl_takes 80 L st h = Rr X d MFl_takes 143 L st h := R_goto d_MFl_takes_80 (by decide)
theorem r_MFl_takes_83 {l0 l1 l2 l4 l5 l6 : Value} {x : Int32} : Rr X d MFl_takes 83 [l0, l1, l2, .int x, l4, l5, l6] st h = Rr X d MFl_takes 84 [l0, l1, l2, .int x, l4, l5, l6] (.int x :: st) h := Rr_nx d_MFl_takes_83 rfl
theorem r_MFl_takes_84 {x : Int32} : Rr X d MFl_takes 84 L (.int x :: st) h = if ¬ x = 0 then Rr X d MFl_takes 107 L st h else Rr X d MFl_takes 87 L st h := R_if_ne d_MFl_takes_84 (by decide)
theorem r_MFl_takes_87 {l0 l1 l2 l3 l4 l6 : Value} {x : Int32} : Rr X d MFl_takes 87 [l0, l1, l2, l3, l4, .int x, l6] st h = Rr X d MFl_takes 89 [l0, l1, l2, l3, l4, .int x, l6] (.int x :: st) h := Rr_nx d_MFl_takes_87 rfl
theorem r_MFl_takes_89 : Rr X d MFl_takes 89 L st h = Rr X d MFl_takes 90 L (.int (3) :: st) h := Rr_nx d_MFl_takes_89 rfl
theorem r_MFl_takes_90 {x y : Int32} : Rr X d MFl_takes 90 L (.int y :: .int x :: st) h = if ¬ x = y then Rr X d MFl_takes 107 L st h else Rr X d MFl_takes 93 L st h := R_ic_ne d_MFl_takes_90 (by decide)
theorem r_MFl_takes_93 {l0 l1 l2 l3 l4 l5 : Value} {x : Int32} : Rr X d MFl_takes 93 [l0, l1, l2, l3, l4, l5, .int x] st h = Rr X d MFl_takes 95 [l0, l1, l2, l3, l4, l5, .int x] (.int x :: st) h := Rr_nx d_MFl_takes_93 rfl
theorem r_MFl_takes_95 {x : Int32} : Rr X d MFl_takes 95 L (.int x :: st) h = if ¬ x = 0 then Rr X d MFl_takes 102 L st h else Rr X d MFl_takes 98 L st h := R_if_ne d_MFl_takes_95 (by decide)
theorem r_MFl_takes_98 : Rr X d MFl_takes 98 L st h = Rr X d MFl_takes 99 L (.int (1) :: st) h := Rr_nx d_MFl_takes_98 rfl
theorem r_MFl_takes_99 : Rr X d MFl_takes 99 L st h = Rr X d MFl_takes 103 L st h := R_goto d_MFl_takes_99 (by decide)
theorem r_MFl_takes_102 : Rr X d MFl_takes 102 L st h = Rr X d MFl_takes 103 L (.int (0) :: st) h := Rr_nx d_MFl_takes_102 rfl
theorem r_MFl_takes_103 {l0 l1 l2 l3 l4 l5 l6 : Value} {x : Int32} : Rr X d MFl_takes 103 [l0, l1, l2, l3, l4, l5, l6] (.int x :: st) h = Rr X d MFl_takes 104 (sL [l0, l1, l2, l3, l4, l5, l6] 3 (.int x)) st h := Rr_nx d_MFl_takes_103 rfl
theorem r_MFl_takes_104 : Rr X d MFl_takes 104 L st h = Rr X d MFl_takes 143 L st h := R_goto d_MFl_takes_104 (by decide)
theorem r_MFl_takes_107 {l0 l1 l2 l4 l5 l6 : Value} {x : Int32} : Rr X d MFl_takes 107 [l0, l1, l2, .int x, l4, l5, l6] st h = Rr X d MFl_takes 108 [l0, l1, l2, .int x, l4, l5, l6] (.int x :: st) h := Rr_nx d_MFl_takes_107 rfl
theorem r_MFl_takes_108 {x : Int32} : Rr X d MFl_takes 108 L (.int x :: st) h = if ¬ x = 0 then Rr X d MFl_takes 143 L st h else Rr X d MFl_takes 111 L st h := R_if_ne d_MFl_takes_108 (by decide)
theorem r_MFl_takes_111 {l0 l1 l2 l3 l4 l6 : Value} {x : Int32} : Rr X d MFl_takes 111 [l0, l1, l2, l3, l4, .int x, l6] st h = Rr X d MFl_takes 113 [l0, l1, l2, l3, l4, .int x, l6] (.int x :: st) h := Rr_nx d_MFl_takes_111 rfl
theorem r_MFl_takes_113 : Rr X d MFl_takes 113 L st h = Rr X d MFl_takes 114 L (.int (1) :: st) h := Rr_nx d_MFl_takes_113 rfl
theorem r_MFl_takes_114 {x y : Int32} : Rr X d MFl_takes 114 L (.int y :: .int x :: st) h = if x = y then Rr X d MFl_takes 143 L st h else Rr X d MFl_takes 117 L st h := R_ic_eq d_MFl_takes_114 (by decide)
theorem r_MFl_takes_117 {l1 l2 l3 l4 l5 l6 : Value} {x : Nat} : Rr X d MFl_takes 117 [.ref x, l1, l2, l3, l4, l5, l6] st h = Rr X d MFl_takes 118 [.ref x, l1, l2, l3, l4, l5, l6] (.ref x :: st) h := Rr_nx d_MFl_takes_117 rfl
theorem r_MFl_takes_118 {a : Nat} (hq : (qR a 3 3).isSome = true) : Rr X d MFl_takes 118 L (.ref a :: st) (Wd mu la ro et) = Rr X d MFl_takes 121 L (.ref (qRd a 3 3) :: st) (Wd mu la ro et) := R_gfR d_MFl_takes_118 ff_3_21 hq
theorem r_MFl_takes_121 {l0 l1 l2 l3 l5 l6 : Value} {x : Int32} : Rr X d MFl_takes 121 [l0, l1, l2, l3, .int x, l5, l6] st h = Rr X d MFl_takes 123 [l0, l1, l2, l3, .int x, l5, l6] (.int x :: st) h := Rr_nx d_MFl_takes_121 rfl
theorem r_MFl_takes_123 {l1 l2 l3 l4 l5 l6 : Value} {x : Nat} : Rr X d MFl_takes 123 [.ref x, l1, l2, l3, l4, l5, l6] st h = Rr X d MFl_takes 124 [.ref x, l1, l2, l3, l4, l5, l6] (.ref x :: st) h := Rr_nx d_MFl_takes_123 rfl
theorem r_MFl_takes_124 {l0 l1 l2 l3 l4 l6 : Value} {x : Int32} : Rr X d MFl_takes 124 [l0, l1, l2, l3, l4, .int x, l6] st h = Rr X d MFl_takes 126 [l0, l1, l2, l3, l4, .int x, l6] (.int x :: st) h := Rr_nx d_MFl_takes_124 rfl
theorem r_MFl_takes_126 {l0 l1 l2 l3 l4 l5 : Value} {x : Int32} : Rr X d MFl_takes 126 [l0, l1, l2, l3, l4, l5, .int x] st h = Rr X d MFl_takes 128 [l0, l1, l2, l3, l4, l5, .int x] (.int x :: st) h := Rr_nx d_MFl_takes_126 rfl
theorem r_MFl_takes_128 {l1 l2 l3 l4 l5 l6 : Value} {x : Nat} : Rr X d MFl_takes 128 [.ref x, l1, l2, l3, l4, l5, l6] st h = Rr X d MFl_takes 129 [.ref x, l1, l2, l3, l4, l5, l6] (.ref x :: st) h := Rr_nx d_MFl_takes_128 rfl
theorem r_MFl_takes_129 {l1 l2 l3 l4 l5 l6 : Value} {x : Nat} : Rr X d MFl_takes 129 [.ref x, l1, l2, l3, l4, l5, l6] st h = Rr X d MFl_takes 130 [.ref x, l1, l2, l3, l4, l5, l6] (.ref x :: st) h := Rr_nx d_MFl_takes_129 rfl
theorem r_MFl_takes_130 {a : Nat} (hq : (qR a 3 2).isSome = true) : Rr X d MFl_takes 130 L (.ref a :: st) (Wd mu la ro et) = Rr X d MFl_takes 133 L (.ref (qRd a 3 2) :: st) (Wd mu la ro et) := R_gfR d_MFl_takes_130 ff_3_18 hq
theorem r_MFl_takes_133 {l0 l1 l2 l3 l5 l6 : Value} {x : Int32} : Rr X d MFl_takes 133 [l0, l1, l2, l3, .int x, l5, l6] st h = Rr X d MFl_takes 135 [l0, l1, l2, l3, .int x, l5, l6] (.int x :: st) h := Rr_nx d_MFl_takes_133 rfl
theorem r_MFl_takes_135 {a : Nat} {j : Int32} (hq : (qA a 0).isSome = true) : Rr X d MFl_takes 135 L (.int j :: .ref a :: st) (Wd mu la ro et) = if j < 0 ∨ qAd a 0 ≤ j.toNatClampNeg then none else Rr X d MFl_takes 136 L (.int (mu a j.toNatClampNeg) :: st) (Wd mu la ro et) := R_ialW d_MFl_takes_135 hq
theorem r_MFl_takes_136 {y0 : Int32} {a : Nat} (hO : qO a 3 = true) (hc : ckS st = true) : Rr X (d + 1) MFl_takes 136 L (.int y0 :: .ref a :: st) (Wd mu la ro et) = (Rr X d MFl_valueAt 0 [.ref a, .int y0] [] (Wd mu la ro et)).bind fun q => Rr X (d + 1) MFl_takes 139 L (psh q.1 st) q.2 := R_iv (av := [.int y0]) d_MFl_takes_136 fc_3_92 hO (ckS_le hc) rfl (Nat.le_of_ble_eq_true rfl) (Nat.le_of_ble_eq_true rfl)
theorem fc_3_102 : fC 3 102 = some (0, 3, 3, MFl_result) := rfl
theorem r_MFl_takes_139 {y0 : Int32} {y1 : Int32} {y2 : Int32} {a : Nat} (hO : qO a 3 = true) (hc : ckS st = true) : Rr X (d + 1) MFl_takes 139 L (.int y2 :: .int y1 :: .int y0 :: .ref a :: st) (Wd mu la ro et) = (Rr X d MFl_result 0 [.ref a, .int y0, .int y1, .int y2] [] (Wd mu la ro et)).bind fun q => Rr X (d + 1) MFl_takes 142 L (psh q.1 st) q.2 := R_iv (av := [.int y2, .int y1, .int y0]) d_MFl_takes_139 fc_3_102 hO (ckS_le hc) rfl (Nat.le_of_ble_eq_true rfl) (Nat.le_of_ble_eq_true rfl)
theorem r_MFl_takes_142 {a : Nat} {j x : Int32} (hq : (qA a 0).isSome = true) : Rr X d MFl_takes 142 L (.int x :: .int j :: .ref a :: st) (Wd mu la ro et) = if j < 0 ∨ qAd a 0 ≤ j.toNatClampNeg then none else Rr X d MFl_takes 143 L st (Wd (up2 mu a j.toNatClampNeg (x)) la ro et) := R_iasW d_MFl_takes_142 hq
theorem r_MFl_takes_143 {l0 l1 l2 l3 l5 l6 : Value} {x : Int32} : Rr X d MFl_takes 143 [l0, l1, l2, l3, .int x, l5, l6] st h = Rr X d MFl_takes 146 (sL [l0, l1, l2, l3, .int x, l5, l6] 4 (.int (x + (1)))) st h := Rr_nx d_MFl_takes_143 rfl
theorem r_MFl_takes_146 : Rr X d MFl_takes 146 L st h = Rr X d MFl_takes 15 L st h := R_goto d_MFl_takes_146 (by decide)
theorem r_MFl_takes_149 : Rr X d MFl_takes 149 L st h = Rr X d MFl_takes 150 L (.int (0) :: st) h := Rr_nx d_MFl_takes_149 rfl
theorem r_MFl_takes_150 {x : Int32} : Rr X d MFl_takes 150 L [.int x] h = some (some (.int x), h) := R_ir d_MFl_takes_150 rfl
theorem d_MFl_result_0 : decode MFl_result.2.2.1 0 = .ok (.iload_n 1, 1) := lkT_ok tk_MFl_result rfl
theorem d_MFl_result_1 : decode MFl_result.2.2.1 1 = .ok (.lookupswitch 295 #[(2, 195), (33, 185), (37, 222), (38, 267), (42, 206), (43, 198), (45, 202), (47, 210), (60, 234), (61, 245), (62, 256), (105, 180), (112, 170), (113, 175), (115, 165), (118, 160), (119, 155), (124, 281)], 155) := lkT_ok tk_MFl_result rfl
theorem d_MFl_result_156 : decode MFl_result.2.2.1 156 = .ok (.aload_n 0, 1) := lkT_ok tk_MFl_result rfl
theorem d_MFl_result_157 : decode MFl_result.2.2.1 157 = .ok (.getfield 86, 3) := lkT_ok tk_MFl_result rfl
theorem d_MFl_result_160 : decode MFl_result.2.2.1 160 = .ok (.ireturn, 1) := lkT_ok tk_MFl_result rfl
theorem d_MFl_result_161 : decode MFl_result.2.2.1 161 = .ok (.aload_n 0, 1) := lkT_ok tk_MFl_result rfl
theorem d_MFl_result_162 : decode MFl_result.2.2.1 162 = .ok (.getfield 89, 3) := lkT_ok tk_MFl_result rfl
theorem d_MFl_result_165 : decode MFl_result.2.2.1 165 = .ok (.ireturn, 1) := lkT_ok tk_MFl_result rfl
theorem d_MFl_result_166 : decode MFl_result.2.2.1 166 = .ok (.aload_n 0, 1) := lkT_ok tk_MFl_result rfl
theorem d_MFl_result_167 : decode MFl_result.2.2.1 167 = .ok (.getfield 74, 3) := lkT_ok tk_MFl_result rfl
theorem d_MFl_result_170 : decode MFl_result.2.2.1 170 = .ok (.ireturn, 1) := lkT_ok tk_MFl_result rfl
theorem d_MFl_result_171 : decode MFl_result.2.2.1 171 = .ok (.aload_n 0, 1) := lkT_ok tk_MFl_result rfl
theorem d_MFl_result_172 : decode MFl_result.2.2.1 172 = .ok (.getfield 77, 3) := lkT_ok tk_MFl_result rfl
theorem d_MFl_result_175 : decode MFl_result.2.2.1 175 = .ok (.ireturn, 1) := lkT_ok tk_MFl_result rfl
theorem d_MFl_result_176 : decode MFl_result.2.2.1 176 = .ok (.aload_n 0, 1) := lkT_ok tk_MFl_result rfl
theorem d_MFl_result_177 : decode MFl_result.2.2.1 177 = .ok (.getfield 80, 3) := lkT_ok tk_MFl_result rfl
theorem d_MFl_result_180 : decode MFl_result.2.2.1 180 = .ok (.ireturn, 1) := lkT_ok tk_MFl_result rfl
theorem d_MFl_result_181 : decode MFl_result.2.2.1 181 = .ok (.aload_n 0, 1) := lkT_ok tk_MFl_result rfl
theorem d_MFl_result_182 : decode MFl_result.2.2.1 182 = .ok (.getfield 83, 3) := lkT_ok tk_MFl_result rfl
theorem d_MFl_result_185 : decode MFl_result.2.2.1 185 = .ok (.ireturn, 1) := lkT_ok tk_MFl_result rfl
theorem d_MFl_result_186 : decode MFl_result.2.2.1 186 = .ok (.iload_n 2, 1) := lkT_ok tk_MFl_result rfl
theorem d_MFl_result_187 : decode MFl_result.2.2.1 187 = .ok (.ifCond .ne 7, 3) := lkT_ok tk_MFl_result rfl
theorem d_MFl_result_190 : decode MFl_result.2.2.1 190 = .ok (.iconst 1, 1) := lkT_ok tk_MFl_result rfl
theorem d_MFl_result_191 : decode MFl_result.2.2.1 191 = .ok (.goto 4, 3) := lkT_ok tk_MFl_result rfl
theorem d_MFl_result_194 : decode MFl_result.2.2.1 194 = .ok (.iconst 0, 1) := lkT_ok tk_MFl_result rfl
theorem d_MFl_result_195 : decode MFl_result.2.2.1 195 = .ok (.ireturn, 1) := lkT_ok tk_MFl_result rfl
theorem d_MFl_result_196 : decode MFl_result.2.2.1 196 = .ok (.iload_n 2, 1) := lkT_ok tk_MFl_result rfl
theorem d_MFl_result_197 : decode MFl_result.2.2.1 197 = .ok (.ineg, 1) := lkT_ok tk_MFl_result rfl
theorem d_MFl_result_198 : decode MFl_result.2.2.1 198 = .ok (.ireturn, 1) := lkT_ok tk_MFl_result rfl
theorem d_MFl_result_199 : decode MFl_result.2.2.1 199 = .ok (.iload_n 2, 1) := lkT_ok tk_MFl_result rfl
theorem d_MFl_result_200 : decode MFl_result.2.2.1 200 = .ok (.iload_n 3, 1) := lkT_ok tk_MFl_result rfl
theorem d_MFl_result_201 : decode MFl_result.2.2.1 201 = .ok (.iadd, 1) := lkT_ok tk_MFl_result rfl
theorem d_MFl_result_202 : decode MFl_result.2.2.1 202 = .ok (.ireturn, 1) := lkT_ok tk_MFl_result rfl
theorem d_MFl_result_203 : decode MFl_result.2.2.1 203 = .ok (.iload_n 2, 1) := lkT_ok tk_MFl_result rfl
theorem d_MFl_result_204 : decode MFl_result.2.2.1 204 = .ok (.iload_n 3, 1) := lkT_ok tk_MFl_result rfl
theorem d_MFl_result_205 : decode MFl_result.2.2.1 205 = .ok (.isub, 1) := lkT_ok tk_MFl_result rfl
theorem d_MFl_result_206 : decode MFl_result.2.2.1 206 = .ok (.ireturn, 1) := lkT_ok tk_MFl_result rfl
theorem d_MFl_result_207 : decode MFl_result.2.2.1 207 = .ok (.iload_n 2, 1) := lkT_ok tk_MFl_result rfl
theorem d_MFl_result_208 : decode MFl_result.2.2.1 208 = .ok (.iload_n 3, 1) := lkT_ok tk_MFl_result rfl
theorem d_MFl_result_209 : decode MFl_result.2.2.1 209 = .ok (.imul, 1) := lkT_ok tk_MFl_result rfl
theorem d_MFl_result_210 : decode MFl_result.2.2.1 210 = .ok (.ireturn, 1) := lkT_ok tk_MFl_result rfl
theorem d_MFl_result_211 : decode MFl_result.2.2.1 211 = .ok (.iload_n 3, 1) := lkT_ok tk_MFl_result rfl
theorem d_MFl_result_212 : decode MFl_result.2.2.1 212 = .ok (.ifCond .ne 7, 3) := lkT_ok tk_MFl_result rfl
theorem d_MFl_result_215 : decode MFl_result.2.2.1 215 = .ok (.iconst 0, 1) := lkT_ok tk_MFl_result rfl
theorem d_MFl_result_216 : decode MFl_result.2.2.1 216 = .ok (.goto 6, 3) := lkT_ok tk_MFl_result rfl
theorem d_MFl_result_219 : decode MFl_result.2.2.1 219 = .ok (.iload_n 2, 1) := lkT_ok tk_MFl_result rfl
theorem d_MFl_result_220 : decode MFl_result.2.2.1 220 = .ok (.iload_n 3, 1) := lkT_ok tk_MFl_result rfl
theorem d_MFl_result_221 : decode MFl_result.2.2.1 221 = .ok (.idiv, 1) := lkT_ok tk_MFl_result rfl
theorem d_MFl_result_222 : decode MFl_result.2.2.1 222 = .ok (.ireturn, 1) := lkT_ok tk_MFl_result rfl
theorem d_MFl_result_223 : decode MFl_result.2.2.1 223 = .ok (.iload_n 3, 1) := lkT_ok tk_MFl_result rfl
theorem d_MFl_result_224 : decode MFl_result.2.2.1 224 = .ok (.ifCond .ne 7, 3) := lkT_ok tk_MFl_result rfl
theorem d_MFl_result_227 : decode MFl_result.2.2.1 227 = .ok (.iconst 0, 1) := lkT_ok tk_MFl_result rfl
theorem d_MFl_result_228 : decode MFl_result.2.2.1 228 = .ok (.goto 6, 3) := lkT_ok tk_MFl_result rfl
theorem d_MFl_result_231 : decode MFl_result.2.2.1 231 = .ok (.iload_n 2, 1) := lkT_ok tk_MFl_result rfl
theorem d_MFl_result_232 : decode MFl_result.2.2.1 232 = .ok (.iload_n 3, 1) := lkT_ok tk_MFl_result rfl
theorem d_MFl_result_233 : decode MFl_result.2.2.1 233 = .ok (.irem, 1) := lkT_ok tk_MFl_result rfl
theorem d_MFl_result_234 : decode MFl_result.2.2.1 234 = .ok (.ireturn, 1) := lkT_ok tk_MFl_result rfl
theorem d_MFl_result_235 : decode MFl_result.2.2.1 235 = .ok (.iload_n 2, 1) := lkT_ok tk_MFl_result rfl
theorem d_MFl_result_236 : decode MFl_result.2.2.1 236 = .ok (.iload_n 3, 1) := lkT_ok tk_MFl_result rfl
theorem d_MFl_result_237 : decode MFl_result.2.2.1 237 = .ok (.if_icmp .ge 7, 3) := lkT_ok tk_MFl_result rfl
theorem d_MFl_result_240 : decode MFl_result.2.2.1 240 = .ok (.iconst 1, 1) := lkT_ok tk_MFl_result rfl
theorem d_MFl_result_241 : decode MFl_result.2.2.1 241 = .ok (.goto 4, 3) := lkT_ok tk_MFl_result rfl
theorem d_MFl_result_244 : decode MFl_result.2.2.1 244 = .ok (.iconst 0, 1) := lkT_ok tk_MFl_result rfl
theorem d_MFl_result_245 : decode MFl_result.2.2.1 245 = .ok (.ireturn, 1) := lkT_ok tk_MFl_result rfl
theorem d_MFl_result_246 : decode MFl_result.2.2.1 246 = .ok (.iload_n 2, 1) := lkT_ok tk_MFl_result rfl
theorem d_MFl_result_247 : decode MFl_result.2.2.1 247 = .ok (.iload_n 3, 1) := lkT_ok tk_MFl_result rfl
theorem d_MFl_result_248 : decode MFl_result.2.2.1 248 = .ok (.if_icmp .ne 7, 3) := lkT_ok tk_MFl_result rfl
theorem d_MFl_result_251 : decode MFl_result.2.2.1 251 = .ok (.iconst 1, 1) := lkT_ok tk_MFl_result rfl
theorem d_MFl_result_252 : decode MFl_result.2.2.1 252 = .ok (.goto 4, 3) := lkT_ok tk_MFl_result rfl
theorem d_MFl_result_255 : decode MFl_result.2.2.1 255 = .ok (.iconst 0, 1) := lkT_ok tk_MFl_result rfl
theorem d_MFl_result_256 : decode MFl_result.2.2.1 256 = .ok (.ireturn, 1) := lkT_ok tk_MFl_result rfl
theorem d_MFl_result_257 : decode MFl_result.2.2.1 257 = .ok (.iload_n 2, 1) := lkT_ok tk_MFl_result rfl
theorem d_MFl_result_258 : decode MFl_result.2.2.1 258 = .ok (.iload_n 3, 1) := lkT_ok tk_MFl_result rfl
theorem d_MFl_result_259 : decode MFl_result.2.2.1 259 = .ok (.if_icmp .le 7, 3) := lkT_ok tk_MFl_result rfl
theorem d_MFl_result_262 : decode MFl_result.2.2.1 262 = .ok (.iconst 1, 1) := lkT_ok tk_MFl_result rfl
theorem d_MFl_result_263 : decode MFl_result.2.2.1 263 = .ok (.goto 4, 3) := lkT_ok tk_MFl_result rfl
theorem d_MFl_result_266 : decode MFl_result.2.2.1 266 = .ok (.iconst 0, 1) := lkT_ok tk_MFl_result rfl
theorem d_MFl_result_267 : decode MFl_result.2.2.1 267 = .ok (.ireturn, 1) := lkT_ok tk_MFl_result rfl
theorem d_MFl_result_268 : decode MFl_result.2.2.1 268 = .ok (.iload_n 2, 1) := lkT_ok tk_MFl_result rfl
theorem d_MFl_result_269 : decode MFl_result.2.2.1 269 = .ok (.ifCond .eq 11, 3) := lkT_ok tk_MFl_result rfl
theorem d_MFl_result_272 : decode MFl_result.2.2.1 272 = .ok (.iload_n 3, 1) := lkT_ok tk_MFl_result rfl
theorem d_MFl_result_273 : decode MFl_result.2.2.1 273 = .ok (.ifCond .eq 7, 3) := lkT_ok tk_MFl_result rfl
theorem d_MFl_result_276 : decode MFl_result.2.2.1 276 = .ok (.iconst 1, 1) := lkT_ok tk_MFl_result rfl
theorem d_MFl_result_277 : decode MFl_result.2.2.1 277 = .ok (.goto 4, 3) := lkT_ok tk_MFl_result rfl
theorem d_MFl_result_280 : decode MFl_result.2.2.1 280 = .ok (.iconst 0, 1) := lkT_ok tk_MFl_result rfl
theorem d_MFl_result_281 : decode MFl_result.2.2.1 281 = .ok (.ireturn, 1) := lkT_ok tk_MFl_result rfl
theorem d_MFl_result_282 : decode MFl_result.2.2.1 282 = .ok (.iload_n 2, 1) := lkT_ok tk_MFl_result rfl
theorem d_MFl_result_283 : decode MFl_result.2.2.1 283 = .ok (.ifCond .ne 7, 3) := lkT_ok tk_MFl_result rfl
theorem d_MFl_result_286 : decode MFl_result.2.2.1 286 = .ok (.iload_n 3, 1) := lkT_ok tk_MFl_result rfl
theorem d_MFl_result_287 : decode MFl_result.2.2.1 287 = .ok (.ifCond .eq 7, 3) := lkT_ok tk_MFl_result rfl
theorem d_MFl_result_290 : decode MFl_result.2.2.1 290 = .ok (.iconst 1, 1) := lkT_ok tk_MFl_result rfl
theorem d_MFl_result_291 : decode MFl_result.2.2.1 291 = .ok (.goto 4, 3) := lkT_ok tk_MFl_result rfl
theorem d_MFl_result_294 : decode MFl_result.2.2.1 294 = .ok (.iconst 0, 1) := lkT_ok tk_MFl_result rfl
theorem d_MFl_result_295 : decode MFl_result.2.2.1 295 = .ok (.ireturn, 1) := lkT_ok tk_MFl_result rfl
theorem d_MFl_result_296 : decode MFl_result.2.2.1 296 = .ok (.iconst 0, 1) := lkT_ok tk_MFl_result rfl
theorem d_MFl_result_297 : decode MFl_result.2.2.1 297 = .ok (.ireturn, 1) := lkT_ok tk_MFl_result rfl
theorem r_MFl_result_0 {l0 l2 l3 : Value} {x : Int32} : Rr X d MFl_result 0 [l0, .int x, l2, l3] st h = Rr X d MFl_result 1 [l0, .int x, l2, l3] (.int x :: st) h := Rr_nx d_MFl_result_0 rfl
theorem r_MFl_result_1_2 : Rr X d MFl_result 1 L (.int (2) :: st) h = Rr X d MFl_result 196 L st h := R_lkp (off := 195) d_MFl_result_1 (by decide) (by decide) (by decide)
theorem r_MFl_result_1_33 : Rr X d MFl_result 1 L (.int (33) :: st) h = Rr X d MFl_result 186 L st h := R_lkp (off := 185) d_MFl_result_1 (by decide) (by decide) (by decide)
theorem r_MFl_result_1_37 : Rr X d MFl_result 1 L (.int (37) :: st) h = Rr X d MFl_result 223 L st h := R_lkp (off := 222) d_MFl_result_1 (by decide) (by decide) (by decide)
theorem r_MFl_result_1_38 : Rr X d MFl_result 1 L (.int (38) :: st) h = Rr X d MFl_result 268 L st h := R_lkp (off := 267) d_MFl_result_1 (by decide) (by decide) (by decide)
theorem r_MFl_result_1_42 : Rr X d MFl_result 1 L (.int (42) :: st) h = Rr X d MFl_result 207 L st h := R_lkp (off := 206) d_MFl_result_1 (by decide) (by decide) (by decide)
theorem r_MFl_result_1_43 : Rr X d MFl_result 1 L (.int (43) :: st) h = Rr X d MFl_result 199 L st h := R_lkp (off := 198) d_MFl_result_1 (by decide) (by decide) (by decide)
theorem r_MFl_result_1_45 : Rr X d MFl_result 1 L (.int (45) :: st) h = Rr X d MFl_result 203 L st h := R_lkp (off := 202) d_MFl_result_1 (by decide) (by decide) (by decide)
theorem r_MFl_result_1_47 : Rr X d MFl_result 1 L (.int (47) :: st) h = Rr X d MFl_result 211 L st h := R_lkp (off := 210) d_MFl_result_1 (by decide) (by decide) (by decide)
theorem r_MFl_result_1_60 : Rr X d MFl_result 1 L (.int (60) :: st) h = Rr X d MFl_result 235 L st h := R_lkp (off := 234) d_MFl_result_1 (by decide) (by decide) (by decide)
theorem r_MFl_result_1_61 : Rr X d MFl_result 1 L (.int (61) :: st) h = Rr X d MFl_result 246 L st h := R_lkp (off := 245) d_MFl_result_1 (by decide) (by decide) (by decide)
theorem r_MFl_result_1_62 : Rr X d MFl_result 1 L (.int (62) :: st) h = Rr X d MFl_result 257 L st h := R_lkp (off := 256) d_MFl_result_1 (by decide) (by decide) (by decide)
theorem r_MFl_result_1_105 : Rr X d MFl_result 1 L (.int (105) :: st) h = Rr X d MFl_result 181 L st h := R_lkp (off := 180) d_MFl_result_1 (by decide) (by decide) (by decide)
theorem r_MFl_result_1_112 : Rr X d MFl_result 1 L (.int (112) :: st) h = Rr X d MFl_result 171 L st h := R_lkp (off := 170) d_MFl_result_1 (by decide) (by decide) (by decide)
theorem r_MFl_result_1_113 : Rr X d MFl_result 1 L (.int (113) :: st) h = Rr X d MFl_result 176 L st h := R_lkp (off := 175) d_MFl_result_1 (by decide) (by decide) (by decide)
theorem r_MFl_result_1_115 : Rr X d MFl_result 1 L (.int (115) :: st) h = Rr X d MFl_result 166 L st h := R_lkp (off := 165) d_MFl_result_1 (by decide) (by decide) (by decide)
theorem r_MFl_result_1_118 : Rr X d MFl_result 1 L (.int (118) :: st) h = Rr X d MFl_result 161 L st h := R_lkp (off := 160) d_MFl_result_1 (by decide) (by decide) (by decide)
theorem r_MFl_result_1_119 : Rr X d MFl_result 1 L (.int (119) :: st) h = Rr X d MFl_result 156 L st h := R_lkp (off := 155) d_MFl_result_1 (by decide) (by decide) (by decide)
theorem r_MFl_result_1_124 : Rr X d MFl_result 1 L (.int (124) :: st) h = Rr X d MFl_result 282 L st h := R_lkp (off := 281) d_MFl_result_1 (by decide) (by decide) (by decide)
theorem r_MFl_result_1_m1 : Rr X d MFl_result 1 L (.int (-1) :: st) h = Rr X d MFl_result 296 L st h := R_lkp (off := 295) d_MFl_result_1 (by decide) (by decide) (by decide)
theorem r_MFl_result_1D {x : Int32} (hx : Op.lookupswitch.offset [(2, 195), (33, 185), (37, 222), (38, 267), (42, 206), (43, 198), (45, 202), (47, 210), (60, 234), (61, 245), (62, 256), (105, 180), (112, 170), (113, 175), (115, 165), (118, 160), (119, 155), (124, 281)] (295) x.toInt = 295) : Rr X d MFl_result 1 L (.int x :: st) h = Rr X d MFl_result 296 L st h := R_lkp d_MFl_result_1 (by decide) hx (by decide)
theorem r_MFl_result_156 {l1 l2 l3 : Value} {x : Nat} : Rr X d MFl_result 156 [.ref x, l1, l2, l3] st h = Rr X d MFl_result 157 [.ref x, l1, l2, l3] (.ref x :: st) h := Rr_nx d_MFl_result_156 rfl
theorem r_MFl_result_157 {a : Nat} (hq : qI a 3 5 = true) : Rr X d MFl_result 157 L (.ref a :: st) (Wd mu la ro et) = Rr X d MFl_result 160 L (.int (mu a 5) :: st) (Wd mu la ro et) := R_gfI d_MFl_result_157 ff_3_86 hq
theorem r_MFl_result_160 {x : Int32} : Rr X d MFl_result 160 L [.int x] h = some (some (.int x), h) := R_ir d_MFl_result_160 rfl
theorem r_MFl_result_161 {l1 l2 l3 : Value} {x : Nat} : Rr X d MFl_result 161 [.ref x, l1, l2, l3] st h = Rr X d MFl_result 162 [.ref x, l1, l2, l3] (.ref x :: st) h := Rr_nx d_MFl_result_161 rfl
theorem r_MFl_result_162 {a : Nat} (hq : qI a 3 6 = true) : Rr X d MFl_result 162 L (.ref a :: st) (Wd mu la ro et) = Rr X d MFl_result 165 L (.int (mu a 6) :: st) (Wd mu la ro et) := R_gfI d_MFl_result_162 ff_3_89 hq
theorem r_MFl_result_165 {x : Int32} : Rr X d MFl_result 165 L [.int x] h = some (some (.int x), h) := R_ir d_MFl_result_165 rfl
theorem r_MFl_result_166 {l1 l2 l3 : Value} {x : Nat} : Rr X d MFl_result 166 [.ref x, l1, l2, l3] st h = Rr X d MFl_result 167 [.ref x, l1, l2, l3] (.ref x :: st) h := Rr_nx d_MFl_result_166 rfl
theorem ff_3_74 : fF 3 74 = some (3, 7, 0, 0) := rfl
theorem r_MFl_result_167 {a : Nat} (hq : qI a 3 7 = true) : Rr X d MFl_result 167 L (.ref a :: st) (Wd mu la ro et) = Rr X d MFl_result 170 L (.int (mu a 7) :: st) (Wd mu la ro et) := R_gfI d_MFl_result_167 ff_3_74 hq
theorem r_MFl_result_170 {x : Int32} : Rr X d MFl_result 170 L [.int x] h = some (some (.int x), h) := R_ir d_MFl_result_170 rfl
theorem r_MFl_result_171 {l1 l2 l3 : Value} {x : Nat} : Rr X d MFl_result 171 [.ref x, l1, l2, l3] st h = Rr X d MFl_result 172 [.ref x, l1, l2, l3] (.ref x :: st) h := Rr_nx d_MFl_result_171 rfl
theorem ff_3_77 : fF 3 77 = some (3, 8, 0, 0) := rfl
theorem r_MFl_result_172 {a : Nat} (hq : qI a 3 8 = true) : Rr X d MFl_result 172 L (.ref a :: st) (Wd mu la ro et) = Rr X d MFl_result 175 L (.int (mu a 8) :: st) (Wd mu la ro et) := R_gfI d_MFl_result_172 ff_3_77 hq
theorem r_MFl_result_175 {x : Int32} : Rr X d MFl_result 175 L [.int x] h = some (some (.int x), h) := R_ir d_MFl_result_175 rfl
theorem r_MFl_result_176 {l1 l2 l3 : Value} {x : Nat} : Rr X d MFl_result 176 [.ref x, l1, l2, l3] st h = Rr X d MFl_result 177 [.ref x, l1, l2, l3] (.ref x :: st) h := Rr_nx d_MFl_result_176 rfl
theorem ff_3_80 : fF 3 80 = some (3, 9, 0, 0) := rfl
theorem r_MFl_result_177 {a : Nat} (hq : qI a 3 9 = true) : Rr X d MFl_result 177 L (.ref a :: st) (Wd mu la ro et) = Rr X d MFl_result 180 L (.int (mu a 9) :: st) (Wd mu la ro et) := R_gfI d_MFl_result_177 ff_3_80 hq
theorem r_MFl_result_180 {x : Int32} : Rr X d MFl_result 180 L [.int x] h = some (some (.int x), h) := R_ir d_MFl_result_180 rfl
theorem r_MFl_result_181 {l1 l2 l3 : Value} {x : Nat} : Rr X d MFl_result 181 [.ref x, l1, l2, l3] st h = Rr X d MFl_result 182 [.ref x, l1, l2, l3] (.ref x :: st) h := Rr_nx d_MFl_result_181 rfl
theorem ff_3_83 : fF 3 83 = some (3, 10, 0, 0) := rfl
theorem r_MFl_result_182 {a : Nat} (hq : qI a 3 10 = true) : Rr X d MFl_result 182 L (.ref a :: st) (Wd mu la ro et) = Rr X d MFl_result 185 L (.int (mu a 10) :: st) (Wd mu la ro et) := R_gfI d_MFl_result_182 ff_3_83 hq
theorem r_MFl_result_185 {x : Int32} : Rr X d MFl_result 185 L [.int x] h = some (some (.int x), h) := R_ir d_MFl_result_185 rfl
theorem r_MFl_result_186 {l0 l1 l3 : Value} {x : Int32} : Rr X d MFl_result 186 [l0, l1, .int x, l3] st h = Rr X d MFl_result 187 [l0, l1, .int x, l3] (.int x :: st) h := Rr_nx d_MFl_result_186 rfl
theorem r_MFl_result_187 {x : Int32} : Rr X d MFl_result 187 L (.int x :: st) h = if ¬ x = 0 then Rr X d MFl_result 194 L st h else Rr X d MFl_result 190 L st h := R_if_ne d_MFl_result_187 (by decide)
theorem r_MFl_result_190 : Rr X d MFl_result 190 L st h = Rr X d MFl_result 191 L (.int (1) :: st) h := Rr_nx d_MFl_result_190 rfl
theorem r_MFl_result_191 : Rr X d MFl_result 191 L st h = Rr X d MFl_result 195 L st h := R_goto d_MFl_result_191 (by decide)
theorem r_MFl_result_194 : Rr X d MFl_result 194 L st h = Rr X d MFl_result 195 L (.int (0) :: st) h := Rr_nx d_MFl_result_194 rfl
theorem r_MFl_result_195 {x : Int32} : Rr X d MFl_result 195 L [.int x] h = some (some (.int x), h) := R_ir d_MFl_result_195 rfl
theorem r_MFl_result_196 {l0 l1 l3 : Value} {x : Int32} : Rr X d MFl_result 196 [l0, l1, .int x, l3] st h = Rr X d MFl_result 197 [l0, l1, .int x, l3] (.int x :: st) h := Rr_nx d_MFl_result_196 rfl
theorem r_MFl_result_197 {x : Int32} : Rr X d MFl_result 197 L (.int x :: st) h = Rr X d MFl_result 198 L (.int (-x) :: st) h := Rr_nx d_MFl_result_197 rfl
theorem r_MFl_result_198 {x : Int32} : Rr X d MFl_result 198 L [.int x] h = some (some (.int x), h) := R_ir d_MFl_result_198 rfl
theorem r_MFl_result_199 {l0 l1 l3 : Value} {x : Int32} : Rr X d MFl_result 199 [l0, l1, .int x, l3] st h = Rr X d MFl_result 200 [l0, l1, .int x, l3] (.int x :: st) h := Rr_nx d_MFl_result_199 rfl
theorem r_MFl_result_200 {l0 l1 l2 : Value} {x : Int32} : Rr X d MFl_result 200 [l0, l1, l2, .int x] st h = Rr X d MFl_result 201 [l0, l1, l2, .int x] (.int x :: st) h := Rr_nx d_MFl_result_200 rfl
theorem r_MFl_result_201 {x y : Int32} : Rr X d MFl_result 201 L (.int y :: .int x :: st) h = Rr X d MFl_result 202 L (.int (x + y) :: st) h := Rr_nx d_MFl_result_201 rfl
theorem r_MFl_result_202 {x : Int32} : Rr X d MFl_result 202 L [.int x] h = some (some (.int x), h) := R_ir d_MFl_result_202 rfl
theorem r_MFl_result_203 {l0 l1 l3 : Value} {x : Int32} : Rr X d MFl_result 203 [l0, l1, .int x, l3] st h = Rr X d MFl_result 204 [l0, l1, .int x, l3] (.int x :: st) h := Rr_nx d_MFl_result_203 rfl
theorem r_MFl_result_204 {l0 l1 l2 : Value} {x : Int32} : Rr X d MFl_result 204 [l0, l1, l2, .int x] st h = Rr X d MFl_result 205 [l0, l1, l2, .int x] (.int x :: st) h := Rr_nx d_MFl_result_204 rfl
theorem r_MFl_result_205 {x y : Int32} : Rr X d MFl_result 205 L (.int y :: .int x :: st) h = Rr X d MFl_result 206 L (.int (x - y) :: st) h := Rr_nx d_MFl_result_205 rfl
theorem r_MFl_result_206 {x : Int32} : Rr X d MFl_result 206 L [.int x] h = some (some (.int x), h) := R_ir d_MFl_result_206 rfl
theorem r_MFl_result_207 {l0 l1 l3 : Value} {x : Int32} : Rr X d MFl_result 207 [l0, l1, .int x, l3] st h = Rr X d MFl_result 208 [l0, l1, .int x, l3] (.int x :: st) h := Rr_nx d_MFl_result_207 rfl
theorem r_MFl_result_208 {l0 l1 l2 : Value} {x : Int32} : Rr X d MFl_result 208 [l0, l1, l2, .int x] st h = Rr X d MFl_result 209 [l0, l1, l2, .int x] (.int x :: st) h := Rr_nx d_MFl_result_208 rfl
theorem r_MFl_result_209 {x y : Int32} : Rr X d MFl_result 209 L (.int y :: .int x :: st) h = Rr X d MFl_result 210 L (.int (x * y) :: st) h := Rr_nx d_MFl_result_209 rfl
theorem r_MFl_result_210 {x : Int32} : Rr X d MFl_result 210 L [.int x] h = some (some (.int x), h) := R_ir d_MFl_result_210 rfl
theorem r_MFl_result_211 {l0 l1 l2 : Value} {x : Int32} : Rr X d MFl_result 211 [l0, l1, l2, .int x] st h = Rr X d MFl_result 212 [l0, l1, l2, .int x] (.int x :: st) h := Rr_nx d_MFl_result_211 rfl
theorem r_MFl_result_212 {x : Int32} : Rr X d MFl_result 212 L (.int x :: st) h = if ¬ x = 0 then Rr X d MFl_result 219 L st h else Rr X d MFl_result 215 L st h := R_if_ne d_MFl_result_212 (by decide)
theorem r_MFl_result_215 : Rr X d MFl_result 215 L st h = Rr X d MFl_result 216 L (.int (0) :: st) h := Rr_nx d_MFl_result_215 rfl
theorem r_MFl_result_216 : Rr X d MFl_result 216 L st h = Rr X d MFl_result 222 L st h := R_goto d_MFl_result_216 (by decide)
theorem r_MFl_result_219 {l0 l1 l3 : Value} {x : Int32} : Rr X d MFl_result 219 [l0, l1, .int x, l3] st h = Rr X d MFl_result 220 [l0, l1, .int x, l3] (.int x :: st) h := Rr_nx d_MFl_result_219 rfl
theorem r_MFl_result_220 {l0 l1 l2 : Value} {x : Int32} : Rr X d MFl_result 220 [l0, l1, l2, .int x] st h = Rr X d MFl_result 221 [l0, l1, l2, .int x] (.int x :: st) h := Rr_nx d_MFl_result_220 rfl
theorem r_MFl_result_221 {x y : Int32} : Rr X d MFl_result 221 L (.int y :: .int x :: st) h = if y = 0 then none else Rr X d MFl_result 222 L (.int (x / y) :: st) h := R_dv d_MFl_result_221
theorem r_MFl_result_222 {x : Int32} : Rr X d MFl_result 222 L [.int x] h = some (some (.int x), h) := R_ir d_MFl_result_222 rfl
theorem r_MFl_result_223 {l0 l1 l2 : Value} {x : Int32} : Rr X d MFl_result 223 [l0, l1, l2, .int x] st h = Rr X d MFl_result 224 [l0, l1, l2, .int x] (.int x :: st) h := Rr_nx d_MFl_result_223 rfl
theorem r_MFl_result_224 {x : Int32} : Rr X d MFl_result 224 L (.int x :: st) h = if ¬ x = 0 then Rr X d MFl_result 231 L st h else Rr X d MFl_result 227 L st h := R_if_ne d_MFl_result_224 (by decide)
theorem r_MFl_result_227 : Rr X d MFl_result 227 L st h = Rr X d MFl_result 228 L (.int (0) :: st) h := Rr_nx d_MFl_result_227 rfl
theorem r_MFl_result_228 : Rr X d MFl_result 228 L st h = Rr X d MFl_result 234 L st h := R_goto d_MFl_result_228 (by decide)
theorem r_MFl_result_231 {l0 l1 l3 : Value} {x : Int32} : Rr X d MFl_result 231 [l0, l1, .int x, l3] st h = Rr X d MFl_result 232 [l0, l1, .int x, l3] (.int x :: st) h := Rr_nx d_MFl_result_231 rfl
theorem r_MFl_result_232 {l0 l1 l2 : Value} {x : Int32} : Rr X d MFl_result 232 [l0, l1, l2, .int x] st h = Rr X d MFl_result 233 [l0, l1, l2, .int x] (.int x :: st) h := Rr_nx d_MFl_result_232 rfl
theorem r_MFl_result_233 {x y : Int32} : Rr X d MFl_result 233 L (.int y :: .int x :: st) h = if y = 0 then none else Rr X d MFl_result 234 L (.int (x - x / y * y) :: st) h := R_rm d_MFl_result_233
theorem r_MFl_result_234 {x : Int32} : Rr X d MFl_result 234 L [.int x] h = some (some (.int x), h) := R_ir d_MFl_result_234 rfl
theorem r_MFl_result_235 {l0 l1 l3 : Value} {x : Int32} : Rr X d MFl_result 235 [l0, l1, .int x, l3] st h = Rr X d MFl_result 236 [l0, l1, .int x, l3] (.int x :: st) h := Rr_nx d_MFl_result_235 rfl
theorem r_MFl_result_236 {l0 l1 l2 : Value} {x : Int32} : Rr X d MFl_result 236 [l0, l1, l2, .int x] st h = Rr X d MFl_result 237 [l0, l1, l2, .int x] (.int x :: st) h := Rr_nx d_MFl_result_236 rfl
theorem r_MFl_result_237 {x y : Int32} : Rr X d MFl_result 237 L (.int y :: .int x :: st) h = if y ≤ x then Rr X d MFl_result 244 L st h else Rr X d MFl_result 240 L st h := R_ic_ge d_MFl_result_237 (by decide)
theorem r_MFl_result_240 : Rr X d MFl_result 240 L st h = Rr X d MFl_result 241 L (.int (1) :: st) h := Rr_nx d_MFl_result_240 rfl
theorem r_MFl_result_241 : Rr X d MFl_result 241 L st h = Rr X d MFl_result 245 L st h := R_goto d_MFl_result_241 (by decide)
theorem r_MFl_result_244 : Rr X d MFl_result 244 L st h = Rr X d MFl_result 245 L (.int (0) :: st) h := Rr_nx d_MFl_result_244 rfl
theorem r_MFl_result_245 {x : Int32} : Rr X d MFl_result 245 L [.int x] h = some (some (.int x), h) := R_ir d_MFl_result_245 rfl
theorem r_MFl_result_246 {l0 l1 l3 : Value} {x : Int32} : Rr X d MFl_result 246 [l0, l1, .int x, l3] st h = Rr X d MFl_result 247 [l0, l1, .int x, l3] (.int x :: st) h := Rr_nx d_MFl_result_246 rfl
theorem r_MFl_result_247 {l0 l1 l2 : Value} {x : Int32} : Rr X d MFl_result 247 [l0, l1, l2, .int x] st h = Rr X d MFl_result 248 [l0, l1, l2, .int x] (.int x :: st) h := Rr_nx d_MFl_result_247 rfl
theorem r_MFl_result_248 {x y : Int32} : Rr X d MFl_result 248 L (.int y :: .int x :: st) h = if ¬ x = y then Rr X d MFl_result 255 L st h else Rr X d MFl_result 251 L st h := R_ic_ne d_MFl_result_248 (by decide)
theorem r_MFl_result_251 : Rr X d MFl_result 251 L st h = Rr X d MFl_result 252 L (.int (1) :: st) h := Rr_nx d_MFl_result_251 rfl
theorem r_MFl_result_252 : Rr X d MFl_result 252 L st h = Rr X d MFl_result 256 L st h := R_goto d_MFl_result_252 (by decide)
theorem r_MFl_result_255 : Rr X d MFl_result 255 L st h = Rr X d MFl_result 256 L (.int (0) :: st) h := Rr_nx d_MFl_result_255 rfl
theorem r_MFl_result_256 {x : Int32} : Rr X d MFl_result 256 L [.int x] h = some (some (.int x), h) := R_ir d_MFl_result_256 rfl
theorem r_MFl_result_257 {l0 l1 l3 : Value} {x : Int32} : Rr X d MFl_result 257 [l0, l1, .int x, l3] st h = Rr X d MFl_result 258 [l0, l1, .int x, l3] (.int x :: st) h := Rr_nx d_MFl_result_257 rfl
theorem r_MFl_result_258 {l0 l1 l2 : Value} {x : Int32} : Rr X d MFl_result 258 [l0, l1, l2, .int x] st h = Rr X d MFl_result 259 [l0, l1, l2, .int x] (.int x :: st) h := Rr_nx d_MFl_result_258 rfl
theorem r_MFl_result_259 {x y : Int32} : Rr X d MFl_result 259 L (.int y :: .int x :: st) h = if x ≤ y then Rr X d MFl_result 266 L st h else Rr X d MFl_result 262 L st h := R_ic_le d_MFl_result_259 (by decide)
theorem r_MFl_result_262 : Rr X d MFl_result 262 L st h = Rr X d MFl_result 263 L (.int (1) :: st) h := Rr_nx d_MFl_result_262 rfl
theorem r_MFl_result_263 : Rr X d MFl_result 263 L st h = Rr X d MFl_result 267 L st h := R_goto d_MFl_result_263 (by decide)
theorem r_MFl_result_266 : Rr X d MFl_result 266 L st h = Rr X d MFl_result 267 L (.int (0) :: st) h := Rr_nx d_MFl_result_266 rfl
theorem r_MFl_result_267 {x : Int32} : Rr X d MFl_result 267 L [.int x] h = some (some (.int x), h) := R_ir d_MFl_result_267 rfl
theorem r_MFl_result_268 {l0 l1 l3 : Value} {x : Int32} : Rr X d MFl_result 268 [l0, l1, .int x, l3] st h = Rr X d MFl_result 269 [l0, l1, .int x, l3] (.int x :: st) h := Rr_nx d_MFl_result_268 rfl
theorem r_MFl_result_269 {x : Int32} : Rr X d MFl_result 269 L (.int x :: st) h = if x = 0 then Rr X d MFl_result 280 L st h else Rr X d MFl_result 272 L st h := R_if_eq d_MFl_result_269 (by decide)
theorem r_MFl_result_272 {l0 l1 l2 : Value} {x : Int32} : Rr X d MFl_result 272 [l0, l1, l2, .int x] st h = Rr X d MFl_result 273 [l0, l1, l2, .int x] (.int x :: st) h := Rr_nx d_MFl_result_272 rfl
theorem r_MFl_result_273 {x : Int32} : Rr X d MFl_result 273 L (.int x :: st) h = if x = 0 then Rr X d MFl_result 280 L st h else Rr X d MFl_result 276 L st h := R_if_eq d_MFl_result_273 (by decide)
theorem r_MFl_result_276 : Rr X d MFl_result 276 L st h = Rr X d MFl_result 277 L (.int (1) :: st) h := Rr_nx d_MFl_result_276 rfl
theorem r_MFl_result_277 : Rr X d MFl_result 277 L st h = Rr X d MFl_result 281 L st h := R_goto d_MFl_result_277 (by decide)
theorem r_MFl_result_280 : Rr X d MFl_result 280 L st h = Rr X d MFl_result 281 L (.int (0) :: st) h := Rr_nx d_MFl_result_280 rfl
theorem r_MFl_result_281 {x : Int32} : Rr X d MFl_result 281 L [.int x] h = some (some (.int x), h) := R_ir d_MFl_result_281 rfl
theorem r_MFl_result_282 {l0 l1 l3 : Value} {x : Int32} : Rr X d MFl_result 282 [l0, l1, .int x, l3] st h = Rr X d MFl_result 283 [l0, l1, .int x, l3] (.int x :: st) h := Rr_nx d_MFl_result_282 rfl
theorem r_MFl_result_283 {x : Int32} : Rr X d MFl_result 283 L (.int x :: st) h = if ¬ x = 0 then Rr X d MFl_result 290 L st h else Rr X d MFl_result 286 L st h := R_if_ne d_MFl_result_283 (by decide)
theorem r_MFl_result_286 {l0 l1 l2 : Value} {x : Int32} : Rr X d MFl_result 286 [l0, l1, l2, .int x] st h = Rr X d MFl_result 287 [l0, l1, l2, .int x] (.int x :: st) h := Rr_nx d_MFl_result_286 rfl
theorem r_MFl_result_287 {x : Int32} : Rr X d MFl_result 287 L (.int x :: st) h = if x = 0 then Rr X d MFl_result 294 L st h else Rr X d MFl_result 290 L st h := R_if_eq d_MFl_result_287 (by decide)
theorem r_MFl_result_290 : Rr X d MFl_result 290 L st h = Rr X d MFl_result 291 L (.int (1) :: st) h := Rr_nx d_MFl_result_290 rfl
theorem r_MFl_result_291 : Rr X d MFl_result 291 L st h = Rr X d MFl_result 295 L st h := R_goto d_MFl_result_291 (by decide)
theorem r_MFl_result_294 : Rr X d MFl_result 294 L st h = Rr X d MFl_result 295 L (.int (0) :: st) h := Rr_nx d_MFl_result_294 rfl
theorem r_MFl_result_295 {x : Int32} : Rr X d MFl_result 295 L [.int x] h = some (some (.int x), h) := R_ir d_MFl_result_295 rfl
theorem r_MFl_result_296 : Rr X d MFl_result 296 L st h = Rr X d MFl_result 297 L (.int (0) :: st) h := Rr_nx d_MFl_result_296 rfl
theorem r_MFl_result_297 {x : Int32} : Rr X d MFl_result 297 L [.int x] h = some (some (.int x), h) := R_ir d_MFl_result_297 rfl
theorem d_MFl_valueAt_0 : decode MFl_valueAt.2.2.1 0 = .ok (.iload_n 1, 1) := lkT_ok tk_MFl_valueAt rfl
theorem d_MFl_valueAt_1 : decode MFl_valueAt.2.2.1 1 = .ok (.ifCond .lt 18, 3) := lkT_ok tk_MFl_valueAt rfl
theorem d_MFl_valueAt_4 : decode MFl_valueAt.2.2.1 4 = .ok (.iload_n 1, 1) := lkT_ok tk_MFl_valueAt rfl
theorem d_MFl_valueAt_5 : decode MFl_valueAt.2.2.1 5 = .ok (.bipush 121, 2) := lkT_ok tk_MFl_valueAt rfl
theorem d_MFl_valueAt_7 : decode MFl_valueAt.2.2.1 7 = .ok (.if_icmp .ge 12, 3) := lkT_ok tk_MFl_valueAt rfl
theorem d_MFl_valueAt_10 : decode MFl_valueAt.2.2.1 10 = .ok (.aload_n 0, 1) := lkT_ok tk_MFl_valueAt rfl
theorem d_MFl_valueAt_11 : decode MFl_valueAt.2.2.1 11 = .ok (.getfield 21, 3) := lkT_ok tk_MFl_valueAt rfl
theorem d_MFl_valueAt_14 : decode MFl_valueAt.2.2.1 14 = .ok (.iload_n 1, 1) := lkT_ok tk_MFl_valueAt rfl
theorem d_MFl_valueAt_15 : decode MFl_valueAt.2.2.1 15 = .ok (.iaload, 1) := lkT_ok tk_MFl_valueAt rfl
theorem d_MFl_valueAt_16 : decode MFl_valueAt.2.2.1 16 = .ok (.goto 4, 3) := lkT_ok tk_MFl_valueAt rfl
theorem d_MFl_valueAt_19 : decode MFl_valueAt.2.2.1 19 = .ok (.iconst 0, 1) := lkT_ok tk_MFl_valueAt rfl
theorem d_MFl_valueAt_20 : decode MFl_valueAt.2.2.1 20 = .ok (.ireturn, 1) := lkT_ok tk_MFl_valueAt rfl
theorem r_MFl_valueAt_0 {l0 : Value} {x : Int32} : Rr X d MFl_valueAt 0 [l0, .int x] st h = Rr X d MFl_valueAt 1 [l0, .int x] (.int x :: st) h := Rr_nx d_MFl_valueAt_0 rfl
theorem r_MFl_valueAt_1 {x : Int32} : Rr X d MFl_valueAt 1 L (.int x :: st) h = if x < 0 then Rr X d MFl_valueAt 19 L st h else Rr X d MFl_valueAt 4 L st h := R_if_lt d_MFl_valueAt_1 (by decide)
theorem r_MFl_valueAt_4 {l0 : Value} {x : Int32} : Rr X d MFl_valueAt 4 [l0, .int x] st h = Rr X d MFl_valueAt 5 [l0, .int x] (.int x :: st) h := Rr_nx d_MFl_valueAt_4 rfl
theorem r_MFl_valueAt_5 : Rr X d MFl_valueAt 5 L st h = Rr X d MFl_valueAt 7 L (.int (121) :: st) h := Rr_nx d_MFl_valueAt_5 rfl
theorem r_MFl_valueAt_7 {x y : Int32} : Rr X d MFl_valueAt 7 L (.int y :: .int x :: st) h = if y ≤ x then Rr X d MFl_valueAt 19 L st h else Rr X d MFl_valueAt 10 L st h := R_ic_ge d_MFl_valueAt_7 (by decide)
theorem r_MFl_valueAt_10 {l1 : Value} {x : Nat} : Rr X d MFl_valueAt 10 [.ref x, l1] st h = Rr X d MFl_valueAt 11 [.ref x, l1] (.ref x :: st) h := Rr_nx d_MFl_valueAt_10 rfl
theorem r_MFl_valueAt_11 {a : Nat} (hq : (qR a 3 3).isSome = true) : Rr X d MFl_valueAt 11 L (.ref a :: st) (Wd mu la ro et) = Rr X d MFl_valueAt 14 L (.ref (qRd a 3 3) :: st) (Wd mu la ro et) := R_gfR d_MFl_valueAt_11 ff_3_21 hq
theorem r_MFl_valueAt_14 {l0 : Value} {x : Int32} : Rr X d MFl_valueAt 14 [l0, .int x] st h = Rr X d MFl_valueAt 15 [l0, .int x] (.int x :: st) h := Rr_nx d_MFl_valueAt_14 rfl
theorem r_MFl_valueAt_15 {a : Nat} {j : Int32} (hq : (qA a 0).isSome = true) : Rr X d MFl_valueAt 15 L (.int j :: .ref a :: st) (Wd mu la ro et) = if j < 0 ∨ qAd a 0 ≤ j.toNatClampNeg then none else Rr X d MFl_valueAt 16 L (.int (mu a j.toNatClampNeg) :: st) (Wd mu la ro et) := R_ialW d_MFl_valueAt_15 hq
theorem r_MFl_valueAt_16 : Rr X d MFl_valueAt 16 L st h = Rr X d MFl_valueAt 20 L st h := R_goto d_MFl_valueAt_16 (by decide)
theorem r_MFl_valueAt_19 : Rr X d MFl_valueAt 19 L st h = Rr X d MFl_valueAt 20 L (.int (0) :: st) h := Rr_nx d_MFl_valueAt_19 rfl
theorem r_MFl_valueAt_20 {x : Int32} : Rr X d MFl_valueAt 20 L [.int x] h = some (some (.int x), h) := R_ir d_MFl_valueAt_20 rfl
theorem d_MFl_name_0 : decode MFl_name.2.2.1 0 = .ok (.aload_n 0, 1) := lkT_ok tk_MFl_name rfl
theorem d_MFl_name_1 : decode MFl_name.2.2.1 1 = .ok (.iload_n 1, 1) := lkT_ok tk_MFl_name rfl
theorem d_MFl_name_2 : decode MFl_name.2.2.1 2 = .ok (.invokestatic 69, 3) := lkT_ok tk_MFl_name rfl
theorem d_MFl_name_5 : decode MFl_name.2.2.1 5 = .ok (.putfield 74, 3) := lkT_ok tk_MFl_name rfl
theorem d_MFl_name_8 : decode MFl_name.2.2.1 8 = .ok (.aload_n 0, 1) := lkT_ok tk_MFl_name rfl
theorem d_MFl_name_9 : decode MFl_name.2.2.1 9 = .ok (.iload_n 2, 1) := lkT_ok tk_MFl_name rfl
theorem d_MFl_name_10 : decode MFl_name.2.2.1 10 = .ok (.putfield 77, 3) := lkT_ok tk_MFl_name rfl
theorem d_MFl_name_13 : decode MFl_name.2.2.1 13 = .ok (.aload_n 0, 1) := lkT_ok tk_MFl_name rfl
theorem d_MFl_name_14 : decode MFl_name.2.2.1 14 = .ok (.iload_n 3, 1) := lkT_ok tk_MFl_name rfl
theorem d_MFl_name_15 : decode MFl_name.2.2.1 15 = .ok (.putfield 80, 3) := lkT_ok tk_MFl_name rfl
theorem d_MFl_name_18 : decode MFl_name.2.2.1 18 = .ok (.aload_n 0, 1) := lkT_ok tk_MFl_name rfl
theorem d_MFl_name_19 : decode MFl_name.2.2.1 19 = .ok (.iload 4, 2) := lkT_ok tk_MFl_name rfl
theorem d_MFl_name_21 : decode MFl_name.2.2.1 21 = .ok (.putfield 83, 3) := lkT_ok tk_MFl_name rfl
theorem d_MFl_name_24 : decode MFl_name.2.2.1 24 = .ok (.return_, 1) := lkT_ok tk_MFl_name rfl
theorem r_MFl_name_0 {l1 l2 l3 l4 : Value} {x : Nat} : Rr X d MFl_name 0 [.ref x, l1, l2, l3, l4] st h = Rr X d MFl_name 1 [.ref x, l1, l2, l3, l4] (.ref x :: st) h := Rr_nx d_MFl_name_0 rfl
theorem r_MFl_name_1 {l0 l2 l3 l4 : Value} {x : Int32} : Rr X d MFl_name 1 [l0, .int x, l2, l3, l4] st h = Rr X d MFl_name 2 [l0, .int x, l2, l3, l4] (.int x :: st) h := Rr_nx d_MFl_name_1 rfl
theorem fc_3_69 : fC 3 69 = some (8, 0, 0, mI 0) := rfl
theorem r_MFl_name_2 {x : Int32} (hc : ckS st = true) : Rr X (d + 1) MFl_name 2 L (.int x :: st) h = Rr X (d + 1) MFl_name 5 L (.int (if 0 ≤ x then x else 0 - x) :: st) h := R_abs d_MFl_name_2 fc_3_69 (ckS_le hc)
theorem r_MFl_name_5 {a : Nat} {x : Int32} (hq : qI a 3 7 = true) : Rr X d MFl_name 5 L (.int x :: .ref a :: st) (Wd mu la ro et) = Rr X d MFl_name 8 L st (Wd (up2 mu a 7 x) la ro et) := R_pfI d_MFl_name_5 ff_3_74 hq
theorem r_MFl_name_8 {l1 l2 l3 l4 : Value} {x : Nat} : Rr X d MFl_name 8 [.ref x, l1, l2, l3, l4] st h = Rr X d MFl_name 9 [.ref x, l1, l2, l3, l4] (.ref x :: st) h := Rr_nx d_MFl_name_8 rfl
theorem r_MFl_name_9 {l0 l1 l3 l4 : Value} {x : Int32} : Rr X d MFl_name 9 [l0, l1, .int x, l3, l4] st h = Rr X d MFl_name 10 [l0, l1, .int x, l3, l4] (.int x :: st) h := Rr_nx d_MFl_name_9 rfl
theorem r_MFl_name_10 {a : Nat} {x : Int32} (hq : qI a 3 8 = true) : Rr X d MFl_name 10 L (.int x :: .ref a :: st) (Wd mu la ro et) = Rr X d MFl_name 13 L st (Wd (up2 mu a 8 x) la ro et) := R_pfI d_MFl_name_10 ff_3_77 hq
theorem r_MFl_name_13 {l1 l2 l3 l4 : Value} {x : Nat} : Rr X d MFl_name 13 [.ref x, l1, l2, l3, l4] st h = Rr X d MFl_name 14 [.ref x, l1, l2, l3, l4] (.ref x :: st) h := Rr_nx d_MFl_name_13 rfl
theorem r_MFl_name_14 {l0 l1 l2 l4 : Value} {x : Int32} : Rr X d MFl_name 14 [l0, l1, l2, .int x, l4] st h = Rr X d MFl_name 15 [l0, l1, l2, .int x, l4] (.int x :: st) h := Rr_nx d_MFl_name_14 rfl
theorem r_MFl_name_15 {a : Nat} {x : Int32} (hq : qI a 3 9 = true) : Rr X d MFl_name 15 L (.int x :: .ref a :: st) (Wd mu la ro et) = Rr X d MFl_name 18 L st (Wd (up2 mu a 9 x) la ro et) := R_pfI d_MFl_name_15 ff_3_80 hq
theorem r_MFl_name_18 {l1 l2 l3 l4 : Value} {x : Nat} : Rr X d MFl_name 18 [.ref x, l1, l2, l3, l4] st h = Rr X d MFl_name 19 [.ref x, l1, l2, l3, l4] (.ref x :: st) h := Rr_nx d_MFl_name_18 rfl
theorem r_MFl_name_19 {l0 l1 l2 l3 : Value} {x : Int32} : Rr X d MFl_name 19 [l0, l1, l2, l3, .int x] st h = Rr X d MFl_name 21 [l0, l1, l2, l3, .int x] (.int x :: st) h := Rr_nx d_MFl_name_19 rfl
theorem r_MFl_name_21 {a : Nat} {x : Int32} (hq : qI a 3 10 = true) : Rr X d MFl_name 21 L (.int x :: .ref a :: st) (Wd mu la ro et) = Rr X d MFl_name 24 L st (Wd (up2 mu a 10 x) la ro et) := R_pfI d_MFl_name_21 ff_3_83 hq
theorem r_MFl_name_24 : Rr X d MFl_name 24 L [] h = some (none, h) := Rr_rt d_MFl_name_24 rfl
end RULES
