section RULES
variable {X : Tok} {d : Nat} {st L : List Value} {h : Hp} {mu : Nat → Nat → Int32} {la : Nat → Nat → Int64} {ro : Nat → Nat → Option Nat} {et : Nat → Option va_E}
theorem d_MTo_count_0 : decode MTo_count.2.2.1 0 = .ok (.iload_n 1, 1) := by decide +kernel
theorem d_MTo_count_1 : decode MTo_count.2.2.1 1 = .ok (.tableswitch 93 0 6 #[43, 48, 53, 61, 69, 77, 85], 43) := by decide +kernel
theorem d_MTo_count_44 : decode MTo_count.2.2.1 44 = .ok (.aload_n 0, 1) := by decide +kernel
theorem d_MTo_count_45 : decode MTo_count.2.2.1 45 = .ok (.getfield 84, 3) := by decide +kernel
theorem d_MTo_count_48 : decode MTo_count.2.2.1 48 = .ok (.ireturn, 1) := by decide +kernel
theorem d_MTo_count_49 : decode MTo_count.2.2.1 49 = .ok (.aload_n 0, 1) := by decide +kernel
theorem d_MTo_count_50 : decode MTo_count.2.2.1 50 = .ok (.getfield 127, 3) := by decide +kernel
theorem d_MTo_count_53 : decode MTo_count.2.2.1 53 = .ok (.ireturn, 1) := by decide +kernel
theorem d_MTo_count_54 : decode MTo_count.2.2.1 54 = .ok (.aload_n 0, 1) := by decide +kernel
theorem d_MTo_count_55 : decode MTo_count.2.2.1 55 = .ok (.getfield 51, 3) := by decide +kernel
theorem d_MTo_count_58 : decode MTo_count.2.2.1 58 = .ok (.getfield 211, 3) := by decide +kernel
theorem d_MTo_count_61 : decode MTo_count.2.2.1 61 = .ok (.ireturn, 1) := by decide +kernel
theorem d_MTo_count_62 : decode MTo_count.2.2.1 62 = .ok (.aload_n 0, 1) := by decide +kernel
theorem d_MTo_count_63 : decode MTo_count.2.2.1 63 = .ok (.getfield 10, 3) := by decide +kernel
theorem d_MTo_count_66 : decode MTo_count.2.2.1 66 = .ok (.getfield 76, 3) := by decide +kernel
theorem d_MTo_count_69 : decode MTo_count.2.2.1 69 = .ok (.ireturn, 1) := by decide +kernel
theorem d_MTo_count_70 : decode MTo_count.2.2.1 70 = .ok (.aload_n 0, 1) := by decide +kernel
theorem d_MTo_count_71 : decode MTo_count.2.2.1 71 = .ok (.getfield 58, 3) := by decide +kernel
theorem d_MTo_count_74 : decode MTo_count.2.2.1 74 = .ok (.getfield 237, 3) := by decide +kernel
theorem d_MTo_count_77 : decode MTo_count.2.2.1 77 = .ok (.ireturn, 1) := by decide +kernel
theorem d_MTo_count_78 : decode MTo_count.2.2.1 78 = .ok (.aload_n 0, 1) := by decide +kernel
theorem d_MTo_count_79 : decode MTo_count.2.2.1 79 = .ok (.getfield 65, 3) := by decide +kernel
theorem d_MTo_count_82 : decode MTo_count.2.2.1 82 = .ok (.getfield 248, 3) := by decide +kernel
theorem d_MTo_count_85 : decode MTo_count.2.2.1 85 = .ok (.ireturn, 1) := by decide +kernel
theorem d_MTo_count_86 : decode MTo_count.2.2.1 86 = .ok (.aload_n 0, 1) := by decide +kernel
theorem d_MTo_count_87 : decode MTo_count.2.2.1 87 = .ok (.getfield 65, 3) := by decide +kernel
theorem d_MTo_count_90 : decode MTo_count.2.2.1 90 = .ok (.getfield 304, 3) := by decide +kernel
theorem d_MTo_count_93 : decode MTo_count.2.2.1 93 = .ok (.ireturn, 1) := by decide +kernel
theorem d_MTo_count_94 : decode MTo_count.2.2.1 94 = .ok (.iconst (-1), 1) := by decide +kernel
theorem d_MTo_count_95 : decode MTo_count.2.2.1 95 = .ok (.ireturn, 1) := by decide +kernel
theorem r_MTo_count_0 {l0 : Value} {x : Int32} : Rr X d MTo_count 0 [l0, .int x] st h = Rr X d MTo_count 1 [l0, .int x] (.int x :: st) h := Rr_nx d_MTo_count_0 rfl
theorem r_MTo_count_1_0 : Rr X d MTo_count 1 L (.int (0) :: st) h = Rr X d MTo_count 44 L st h := R_tab (off := 43) d_MTo_count_1 (by decide) (by decide) (by decide)
theorem r_MTo_count_1_1 : Rr X d MTo_count 1 L (.int (1) :: st) h = Rr X d MTo_count 49 L st h := R_tab (off := 48) d_MTo_count_1 (by decide) (by decide) (by decide)
theorem r_MTo_count_1_2 : Rr X d MTo_count 1 L (.int (2) :: st) h = Rr X d MTo_count 54 L st h := R_tab (off := 53) d_MTo_count_1 (by decide) (by decide) (by decide)
theorem r_MTo_count_1_3 : Rr X d MTo_count 1 L (.int (3) :: st) h = Rr X d MTo_count 62 L st h := R_tab (off := 61) d_MTo_count_1 (by decide) (by decide) (by decide)
theorem r_MTo_count_1_4 : Rr X d MTo_count 1 L (.int (4) :: st) h = Rr X d MTo_count 70 L st h := R_tab (off := 69) d_MTo_count_1 (by decide) (by decide) (by decide)
theorem r_MTo_count_1_5 : Rr X d MTo_count 1 L (.int (5) :: st) h = Rr X d MTo_count 78 L st h := R_tab (off := 77) d_MTo_count_1 (by decide) (by decide) (by decide)
theorem r_MTo_count_1_6 : Rr X d MTo_count 1 L (.int (6) :: st) h = Rr X d MTo_count 86 L st h := R_tab (off := 85) d_MTo_count_1 (by decide) (by decide) (by decide)
theorem r_MTo_count_1D {x : Int32} (hx : x.toInt < 0 ∨ 6 < x.toInt) : Rr X d MTo_count 1 L (.int x :: st) h = Rr X d MTo_count 94 L st h := R_tabD d_MTo_count_1 hx (by decide)
theorem r_MTo_count_44 {l1 : Value} {x : Nat} : Rr X d MTo_count 44 [.ref x, l1] st h = Rr X d MTo_count 45 [.ref x, l1] (.ref x :: st) h := Rr_nx d_MTo_count_44 rfl
theorem r_MTo_count_45 {a : Nat} (hq : qI a 9 9 = true) : Rr X d MTo_count 45 L (.ref a :: st) (Wd mu la ro et) = Rr X d MTo_count 48 L (.int (mu a 9) :: st) (Wd mu la ro et) := R_gfI d_MTo_count_45 ff_9_84 hq
theorem r_MTo_count_48 {x : Int32} : Rr X d MTo_count 48 L [.int x] h = some (some (.int x), h) := R_ir d_MTo_count_48 rfl
theorem r_MTo_count_49 {l1 : Value} {x : Nat} : Rr X d MTo_count 49 [.ref x, l1] st h = Rr X d MTo_count 50 [.ref x, l1] (.ref x :: st) h := Rr_nx d_MTo_count_49 rfl
theorem r_MTo_count_50 {a : Nat} (hq : qI a 9 10 = true) : Rr X d MTo_count 50 L (.ref a :: st) (Wd mu la ro et) = Rr X d MTo_count 53 L (.int (mu a 10) :: st) (Wd mu la ro et) := R_gfI d_MTo_count_50 ff_9_127 hq
theorem r_MTo_count_53 {x : Int32} : Rr X d MTo_count 53 L [.int x] h = some (some (.int x), h) := R_ir d_MTo_count_53 rfl
theorem r_MTo_count_54 {l1 : Value} {x : Nat} : Rr X d MTo_count 54 [.ref x, l1] st h = Rr X d MTo_count 55 [.ref x, l1] (.ref x :: st) h := Rr_nx d_MTo_count_54 rfl
theorem r_MTo_count_55 {a : Nat} (hq : (qR a 9 6).isSome = true) : Rr X d MTo_count 55 L (.ref a :: st) (Wd mu la ro et) = Rr X d MTo_count 58 L (.ref (qRd a 9 6) :: st) (Wd mu la ro et) := R_gfR d_MTo_count_55 ff_9_51 hq
theorem r_MTo_count_58 {a : Nat} (hq : qI a 2 2 = true) : Rr X d MTo_count 58 L (.ref a :: st) (Wd mu la ro et) = Rr X d MTo_count 61 L (.int (mu a 2) :: st) (Wd mu la ro et) := R_gfI d_MTo_count_58 ff_9_211 hq
theorem r_MTo_count_61 {x : Int32} : Rr X d MTo_count 61 L [.int x] h = some (some (.int x), h) := R_ir d_MTo_count_61 rfl
theorem r_MTo_count_62 {l1 : Value} {x : Nat} : Rr X d MTo_count 62 [.ref x, l1] st h = Rr X d MTo_count 63 [.ref x, l1] (.ref x :: st) h := Rr_nx d_MTo_count_62 rfl
theorem r_MTo_count_63 {a : Nat} (hq : (qR a 9 0).isSome = true) : Rr X d MTo_count 63 L (.ref a :: st) (Wd mu la ro et) = Rr X d MTo_count 66 L (.ref (qRd a 9 0) :: st) (Wd mu la ro et) := R_gfR d_MTo_count_63 ff_9_10 hq
theorem r_MTo_count_66 {a : Nat} (hq : qI a 8 1 = true) : Rr X d MTo_count 66 L (.ref a :: st) (Wd mu la ro et) = Rr X d MTo_count 69 L (.int (mu a 1) :: st) (Wd mu la ro et) := R_gfI d_MTo_count_66 ff_9_76 hq
theorem r_MTo_count_69 {x : Int32} : Rr X d MTo_count 69 L [.int x] h = some (some (.int x), h) := R_ir d_MTo_count_69 rfl
theorem r_MTo_count_70 {l1 : Value} {x : Nat} : Rr X d MTo_count 70 [.ref x, l1] st h = Rr X d MTo_count 71 [.ref x, l1] (.ref x :: st) h := Rr_nx d_MTo_count_70 rfl
theorem r_MTo_count_71 {a : Nat} (hq : (qR a 9 7).isSome = true) : Rr X d MTo_count 71 L (.ref a :: st) (Wd mu la ro et) = Rr X d MTo_count 74 L (.ref (qRd a 9 7) :: st) (Wd mu la ro et) := R_gfR d_MTo_count_71 ff_9_58 hq
theorem r_MTo_count_74 {a : Nat} (hq : qI a 1 1 = true) : Rr X d MTo_count 74 L (.ref a :: st) (Wd mu la ro et) = Rr X d MTo_count 77 L (.int (mu a 1) :: st) (Wd mu la ro et) := R_gfI d_MTo_count_74 ff_9_237 hq
theorem r_MTo_count_77 {x : Int32} : Rr X d MTo_count 77 L [.int x] h = some (some (.int x), h) := R_ir d_MTo_count_77 rfl
theorem r_MTo_count_78 {l1 : Value} {x : Nat} : Rr X d MTo_count 78 [.ref x, l1] st h = Rr X d MTo_count 79 [.ref x, l1] (.ref x :: st) h := Rr_nx d_MTo_count_78 rfl
theorem r_MTo_count_79 {a : Nat} (hq : (qR a 9 8).isSome = true) : Rr X d MTo_count 79 L (.ref a :: st) (Wd mu la ro et) = Rr X d MTo_count 82 L (.ref (qRd a 9 8) :: st) (Wd mu la ro et) := R_gfR d_MTo_count_79 ff_9_65 hq
theorem r_MTo_count_82 {a : Nat} (hq : qI a 0 2 = true) : Rr X d MTo_count 82 L (.ref a :: st) (Wd mu la ro et) = Rr X d MTo_count 85 L (.int (mu a 2) :: st) (Wd mu la ro et) := R_gfI d_MTo_count_82 ff_9_248 hq
theorem r_MTo_count_85 {x : Int32} : Rr X d MTo_count 85 L [.int x] h = some (some (.int x), h) := R_ir d_MTo_count_85 rfl
theorem r_MTo_count_86 {l1 : Value} {x : Nat} : Rr X d MTo_count 86 [.ref x, l1] st h = Rr X d MTo_count 87 [.ref x, l1] (.ref x :: st) h := Rr_nx d_MTo_count_86 rfl
theorem r_MTo_count_87 {a : Nat} (hq : (qR a 9 8).isSome = true) : Rr X d MTo_count 87 L (.ref a :: st) (Wd mu la ro et) = Rr X d MTo_count 90 L (.ref (qRd a 9 8) :: st) (Wd mu la ro et) := R_gfR d_MTo_count_87 ff_9_65 hq
theorem ff_9_304 : fF 9 304 = some (0, 3, 0, 0) := rfl
theorem r_MTo_count_90 {a : Nat} (hq : qI a 0 3 = true) : Rr X d MTo_count 90 L (.ref a :: st) (Wd mu la ro et) = Rr X d MTo_count 93 L (.int (mu a 3) :: st) (Wd mu la ro et) := R_gfI d_MTo_count_90 ff_9_304 hq
theorem r_MTo_count_93 {x : Int32} : Rr X d MTo_count 93 L [.int x] h = some (some (.int x), h) := R_ir d_MTo_count_93 rfl
theorem r_MTo_count_94 : Rr X d MTo_count 94 L st h = Rr X d MTo_count 95 L (.int (-1) :: st) h := Rr_nx d_MTo_count_94 rfl
theorem r_MTo_count_95 {x : Int32} : Rr X d MTo_count 95 L [.int x] h = some (some (.int x), h) := R_ir d_MTo_count_95 rfl
theorem d_MRm_count_0 : decode MRm_count.2.2.1 0 = .ok (.iload_n 1, 1) := by decide +kernel
theorem d_MRm_count_1 : decode MRm_count.2.2.1 1 = .ok (.tableswitch 78 0 6 #[43, 48, 53, 58, 63, 68, 73], 43) := by decide +kernel
theorem d_MRm_count_44 : decode MRm_count.2.2.1 44 = .ok (.aload_n 0, 1) := by decide +kernel
theorem d_MRm_count_45 : decode MRm_count.2.2.1 45 = .ok (.getfield 114, 3) := by decide +kernel
theorem d_MRm_count_48 : decode MRm_count.2.2.1 48 = .ok (.ireturn, 1) := by decide +kernel
theorem d_MRm_count_49 : decode MRm_count.2.2.1 49 = .ok (.aload_n 0, 1) := by decide +kernel
theorem d_MRm_count_50 : decode MRm_count.2.2.1 50 = .ok (.getfield 250, 3) := by decide +kernel
theorem d_MRm_count_53 : decode MRm_count.2.2.1 53 = .ok (.ireturn, 1) := by decide +kernel
theorem d_MRm_count_54 : decode MRm_count.2.2.1 54 = .ok (.aload_n 0, 1) := by decide +kernel
theorem d_MRm_count_55 : decode MRm_count.2.2.1 55 = .ok (.getfield 339, 3) := by decide +kernel
theorem d_MRm_count_58 : decode MRm_count.2.2.1 58 = .ok (.ireturn, 1) := by decide +kernel
theorem d_MRm_count_59 : decode MRm_count.2.2.1 59 = .ok (.aload_n 0, 1) := by decide +kernel
theorem d_MRm_count_60 : decode MRm_count.2.2.1 60 = .ok (.getfield 111, 3) := by decide +kernel
theorem d_MRm_count_63 : decode MRm_count.2.2.1 63 = .ok (.ireturn, 1) := by decide +kernel
theorem d_MRm_count_64 : decode MRm_count.2.2.1 64 = .ok (.aload_n 0, 1) := by decide +kernel
theorem d_MRm_count_65 : decode MRm_count.2.2.1 65 = .ok (.getfield 187, 3) := by decide +kernel
theorem d_MRm_count_68 : decode MRm_count.2.2.1 68 = .ok (.ireturn, 1) := by decide +kernel
theorem d_MRm_count_69 : decode MRm_count.2.2.1 69 = .ok (.aload_n 0, 1) := by decide +kernel
theorem d_MRm_count_70 : decode MRm_count.2.2.1 70 = .ok (.getfield 356, 3) := by decide +kernel
theorem d_MRm_count_73 : decode MRm_count.2.2.1 73 = .ok (.ireturn, 1) := by decide +kernel
theorem d_MRm_count_74 : decode MRm_count.2.2.1 74 = .ok (.aload_n 0, 1) := by decide +kernel
theorem d_MRm_count_75 : decode MRm_count.2.2.1 75 = .ok (.getfield 359, 3) := by decide +kernel
theorem d_MRm_count_78 : decode MRm_count.2.2.1 78 = .ok (.ireturn, 1) := by decide +kernel
theorem d_MRm_count_79 : decode MRm_count.2.2.1 79 = .ok (.iconst (-1), 1) := by decide +kernel
theorem d_MRm_count_80 : decode MRm_count.2.2.1 80 = .ok (.ireturn, 1) := by decide +kernel
theorem r_MRm_count_0 {l0 : Value} {x : Int32} : Rr X d MRm_count 0 [l0, .int x] st h = Rr X d MRm_count 1 [l0, .int x] (.int x :: st) h := Rr_nx d_MRm_count_0 rfl
theorem r_MRm_count_1_0 : Rr X d MRm_count 1 L (.int (0) :: st) h = Rr X d MRm_count 44 L st h := R_tab (off := 43) d_MRm_count_1 (by decide) (by decide) (by decide)
theorem r_MRm_count_1_1 : Rr X d MRm_count 1 L (.int (1) :: st) h = Rr X d MRm_count 49 L st h := R_tab (off := 48) d_MRm_count_1 (by decide) (by decide) (by decide)
theorem r_MRm_count_1_2 : Rr X d MRm_count 1 L (.int (2) :: st) h = Rr X d MRm_count 54 L st h := R_tab (off := 53) d_MRm_count_1 (by decide) (by decide) (by decide)
theorem r_MRm_count_1_3 : Rr X d MRm_count 1 L (.int (3) :: st) h = Rr X d MRm_count 59 L st h := R_tab (off := 58) d_MRm_count_1 (by decide) (by decide) (by decide)
theorem r_MRm_count_1_4 : Rr X d MRm_count 1 L (.int (4) :: st) h = Rr X d MRm_count 64 L st h := R_tab (off := 63) d_MRm_count_1 (by decide) (by decide) (by decide)
theorem r_MRm_count_1_5 : Rr X d MRm_count 1 L (.int (5) :: st) h = Rr X d MRm_count 69 L st h := R_tab (off := 68) d_MRm_count_1 (by decide) (by decide) (by decide)
theorem r_MRm_count_1_6 : Rr X d MRm_count 1 L (.int (6) :: st) h = Rr X d MRm_count 74 L st h := R_tab (off := 73) d_MRm_count_1 (by decide) (by decide) (by decide)
theorem r_MRm_count_1D {x : Int32} (hx : x.toInt < 0 ∨ 6 < x.toInt) : Rr X d MRm_count 1 L (.int x :: st) h = Rr X d MRm_count 79 L st h := R_tabD d_MRm_count_1 hx (by decide)
theorem r_MRm_count_44 {l1 : Value} {x : Nat} : Rr X d MRm_count 44 [.ref x, l1] st h = Rr X d MRm_count 45 [.ref x, l1] (.ref x :: st) h := Rr_nx d_MRm_count_44 rfl
theorem r_MRm_count_45 {a : Nat} (hq : qI a 10 3 = true) : Rr X d MRm_count 45 L (.ref a :: st) (Wd mu la ro et) = Rr X d MRm_count 48 L (.int (mu a 3) :: st) (Wd mu la ro et) := R_gfI d_MRm_count_45 ff_10_114 hq
theorem r_MRm_count_48 {x : Int32} : Rr X d MRm_count 48 L [.int x] h = some (some (.int x), h) := R_ir d_MRm_count_48 rfl
theorem r_MRm_count_49 {l1 : Value} {x : Nat} : Rr X d MRm_count 49 [.ref x, l1] st h = Rr X d MRm_count 50 [.ref x, l1] (.ref x :: st) h := Rr_nx d_MRm_count_49 rfl
theorem r_MRm_count_50 {a : Nat} (hq : qI a 10 29 = true) : Rr X d MRm_count 50 L (.ref a :: st) (Wd mu la ro et) = Rr X d MRm_count 53 L (.int (mu a 29) :: st) (Wd mu la ro et) := R_gfI d_MRm_count_50 ff_10_250 hq
theorem r_MRm_count_53 {x : Int32} : Rr X d MRm_count 53 L [.int x] h = some (some (.int x), h) := R_ir d_MRm_count_53 rfl
theorem r_MRm_count_54 {l1 : Value} {x : Nat} : Rr X d MRm_count 54 [.ref x, l1] st h = Rr X d MRm_count 55 [.ref x, l1] (.ref x :: st) h := Rr_nx d_MRm_count_54 rfl
theorem r_MRm_count_55 {a : Nat} (hq : qI a 10 47 = true) : Rr X d MRm_count 55 L (.ref a :: st) (Wd mu la ro et) = Rr X d MRm_count 58 L (.int (mu a 47) :: st) (Wd mu la ro et) := R_gfI d_MRm_count_55 ff_10_339 hq
theorem r_MRm_count_58 {x : Int32} : Rr X d MRm_count 58 L [.int x] h = some (some (.int x), h) := R_ir d_MRm_count_58 rfl
theorem r_MRm_count_59 {l1 : Value} {x : Nat} : Rr X d MRm_count 59 [.ref x, l1] st h = Rr X d MRm_count 60 [.ref x, l1] (.ref x :: st) h := Rr_nx d_MRm_count_59 rfl
theorem r_MRm_count_60 {a : Nat} (hq : qI a 10 2 = true) : Rr X d MRm_count 60 L (.ref a :: st) (Wd mu la ro et) = Rr X d MRm_count 63 L (.int (mu a 2) :: st) (Wd mu la ro et) := R_gfI d_MRm_count_60 ff_10_111 hq
theorem r_MRm_count_63 {x : Int32} : Rr X d MRm_count 63 L [.int x] h = some (some (.int x), h) := R_ir d_MRm_count_63 rfl
theorem r_MRm_count_64 {l1 : Value} {x : Nat} : Rr X d MRm_count 64 [.ref x, l1] st h = Rr X d MRm_count 65 [.ref x, l1] (.ref x :: st) h := Rr_nx d_MRm_count_64 rfl
theorem r_MRm_count_65 {a : Nat} (hq : qI a 10 12 = true) : Rr X d MRm_count 65 L (.ref a :: st) (Wd mu la ro et) = Rr X d MRm_count 68 L (.int (mu a 12) :: st) (Wd mu la ro et) := R_gfI d_MRm_count_65 ff_10_187 hq
theorem r_MRm_count_68 {x : Int32} : Rr X d MRm_count 68 L [.int x] h = some (some (.int x), h) := R_ir d_MRm_count_68 rfl
theorem r_MRm_count_69 {l1 : Value} {x : Nat} : Rr X d MRm_count 69 [.ref x, l1] st h = Rr X d MRm_count 70 [.ref x, l1] (.ref x :: st) h := Rr_nx d_MRm_count_69 rfl
theorem r_MRm_count_70 {a : Nat} (hq : qI a 10 51 = true) : Rr X d MRm_count 70 L (.ref a :: st) (Wd mu la ro et) = Rr X d MRm_count 73 L (.int (mu a 51) :: st) (Wd mu la ro et) := R_gfI d_MRm_count_70 ff_10_356 hq
theorem r_MRm_count_73 {x : Int32} : Rr X d MRm_count 73 L [.int x] h = some (some (.int x), h) := R_ir d_MRm_count_73 rfl
theorem r_MRm_count_74 {l1 : Value} {x : Nat} : Rr X d MRm_count 74 [.ref x, l1] st h = Rr X d MRm_count 75 [.ref x, l1] (.ref x :: st) h := Rr_nx d_MRm_count_74 rfl
theorem r_MRm_count_75 {a : Nat} (hq : qI a 10 53 = true) : Rr X d MRm_count 75 L (.ref a :: st) (Wd mu la ro et) = Rr X d MRm_count 78 L (.int (mu a 53) :: st) (Wd mu la ro et) := R_gfI d_MRm_count_75 ff_10_359 hq
theorem r_MRm_count_78 {x : Int32} : Rr X d MRm_count 78 L [.int x] h = some (some (.int x), h) := R_ir d_MRm_count_78 rfl
theorem r_MRm_count_79 : Rr X d MRm_count 79 L st h = Rr X d MRm_count 80 L (.int (-1) :: st) h := Rr_nx d_MRm_count_79 rfl
theorem r_MRm_count_80 {x : Int32} : Rr X d MRm_count 80 L [.int x] h = some (some (.int x), h) := R_ir d_MRm_count_80 rfl
end RULES
