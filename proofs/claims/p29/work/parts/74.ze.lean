-- ===== by hand: names, figures
noncomputable def nmF (b : Int32) : Int32 :=
  if b = 119 then 0 else if b = 118 then 1 else if b = 115 then 2 else if b = 112 then 3 else if b = 113 then 4 else if b = 105 then 5 else -1
noncomputable def isD (b : Int32) : Bool := decide (48 ≤ b ∧ b ≤ 57)
noncomputable def fgL (mu : Mu) : Nat → Nat → Int32 → Nat → Nat × Int32 × Nat
  | 0, h, v, n => (h, v, n)
  | r + 1, h, v, n => if isD (bt mu h) = true then fgL mu r (h + 1) (10 * v + bt mu h - 48) (n + 1) else (h, v, n)
/-- behind the digits -/
noncomputable def fgW (mu : Mu) (s : PS) (n : Nat) : PS := if n = 0 then wrS s else if isD (bt mu s.1) = true then wrS s else s
noncomputable def fgS (mu : Mu) (s : PS) : PS := adS (fgW mu ((fgL mu 4 s.1 0 0).1, s.2) (fgL mu 4 s.1 0 0).2.2) 1 (fgL mu 4 s.1 0 0).2.1
abbrev tOK (mu : Mu) : Prop := ∃ T, T ≤ 120 ∧ mu 81 2 = nI T
noncomputable def Tt (mu : Mu) : Nat := (mu 81 2).toNatClampNeg
section
variable {X : Tok} {d : Nat} {mu mu' : Mu} {la la' : La} {ro ro' : Ro} {et : Nat → Option va_E} {s : PS} {h : Hp}
theorem Tt_le (hT : tOK mu) : Tt mu ≤ 120 := by
  obtain ⟨T, t1, t2⟩ := hT
  unfold Tt
  rw [t2, nI_clamp (by omega)]
  exact t1
theorem bt_lt {k : Nat} (h : ¬ bt mu k = -1) : k < Tt mu := by
  unfold bt at h
  split at h
  · rename_i q; exact q
  · exact absurd rfl h
theorem isD_lt {k : Nat} (h : isD (bt mu k) = true) : k < Tt mu := by
  refine bt_lt fun q => ?_
  rw [q] at h
  exact absurd (of_decide_eq_true h) (by decide)
theorem e_nameOf {b : Int32} : Rr X d MRm_nameOf 0 [.int b] [] h = some (some (.int (nmF b)), h) := by
  unfold nmF
  rw [r_MRm_nameOf_0]
  by_cases c : b.toInt < 105 ∨ 119 < b.toInt
  · have n : ∀ k : Int32, 105 ≤ k.toInt → k.toInt ≤ 119 → ¬ b = k := fun k h1 h2 q => by rw [q] at c; omega
    rw [if_neg (n 119 (by decide) (by decide)), if_neg (n 118 (by decide) (by decide)), if_neg (n 115 (by decide) (by decide)), if_neg (n 112 (by decide) (by decide)), if_neg (n 113 (by decide) (by decide)), if_neg (n 105 (by decide) (by decide)), r_MRm_nameOf_1D c]
    simp only [r_MRm_nameOf_88, r_MRm_nameOf_89]
  · obtain ⟨W, w1, w2, rfl⟩ : ∃ W : Nat, 105 ≤ W ∧ W ≤ 119 ∧ b = nI W := ⟨b.toInt.toNat, by omega, by omega, Int32.toInt_inj.mp (by rw [nI_toInt (by omega)]; omega)⟩
    have hW : W = 105 ∨ W = 106 ∨ W = 107 ∨ W = 108 ∨ W = 109 ∨ W = 110 ∨ W = 111 ∨ W = 112 ∨ W = 113 ∨ W = 114 ∨ W = 115 ∨ W = 116 ∨ W = 117 ∨ W = 118 ∨ W = 119 := by omega
    rcases hW with rfl | rfl | rfl | rfl | rfl | rfl | rfl | rfl | rfl | rfl | rfl | rfl | rfl | rfl | rfl
    · exact (r_MRm_nameOf_1_105 (X := X) (d := d) (st := []) (h := h) (L := [.int (nI 105)])).trans (by simp only [r_MRm_nameOf_86, r_MRm_nameOf_87]; rfl)
    · exact (r_MRm_nameOf_1_106 (X := X) (d := d) (st := []) (h := h) (L := [.int (nI 106)])).trans (by simp only [r_MRm_nameOf_88, r_MRm_nameOf_89]; rfl)
    · exact (r_MRm_nameOf_1_107 (X := X) (d := d) (st := []) (h := h) (L := [.int (nI 107)])).trans (by simp only [r_MRm_nameOf_88, r_MRm_nameOf_89]; rfl)
    · exact (r_MRm_nameOf_1_108 (X := X) (d := d) (st := []) (h := h) (L := [.int (nI 108)])).trans (by simp only [r_MRm_nameOf_88, r_MRm_nameOf_89]; rfl)
    · exact (r_MRm_nameOf_1_109 (X := X) (d := d) (st := []) (h := h) (L := [.int (nI 109)])).trans (by simp only [r_MRm_nameOf_88, r_MRm_nameOf_89]; rfl)
    · exact (r_MRm_nameOf_1_110 (X := X) (d := d) (st := []) (h := h) (L := [.int (nI 110)])).trans (by simp only [r_MRm_nameOf_88, r_MRm_nameOf_89]; rfl)
    · exact (r_MRm_nameOf_1_111 (X := X) (d := d) (st := []) (h := h) (L := [.int (nI 111)])).trans (by simp only [r_MRm_nameOf_88, r_MRm_nameOf_89]; rfl)
    · exact (r_MRm_nameOf_1_112 (X := X) (d := d) (st := []) (h := h) (L := [.int (nI 112)])).trans (by simp only [r_MRm_nameOf_82, r_MRm_nameOf_83]; rfl)
    · exact (r_MRm_nameOf_1_113 (X := X) (d := d) (st := []) (h := h) (L := [.int (nI 113)])).trans (by simp only [r_MRm_nameOf_84, r_MRm_nameOf_85]; rfl)
    · exact (r_MRm_nameOf_1_114 (X := X) (d := d) (st := []) (h := h) (L := [.int (nI 114)])).trans (by simp only [r_MRm_nameOf_88, r_MRm_nameOf_89]; rfl)
    · exact (r_MRm_nameOf_1_115 (X := X) (d := d) (st := []) (h := h) (L := [.int (nI 115)])).trans (by simp only [r_MRm_nameOf_80, r_MRm_nameOf_81]; rfl)
    · exact (r_MRm_nameOf_1_116 (X := X) (d := d) (st := []) (h := h) (L := [.int (nI 116)])).trans (by simp only [r_MRm_nameOf_88, r_MRm_nameOf_89]; rfl)
    · exact (r_MRm_nameOf_1_117 (X := X) (d := d) (st := []) (h := h) (L := [.int (nI 117)])).trans (by simp only [r_MRm_nameOf_88, r_MRm_nameOf_89]; rfl)
    · exact (r_MRm_nameOf_1_118 (X := X) (d := d) (st := []) (h := h) (L := [.int (nI 118)])).trans (by simp only [r_MRm_nameOf_78, r_MRm_nameOf_79]; rfl)
    · exact (r_MRm_nameOf_1_119 (X := X) (d := d) (st := []) (h := h) (L := [.int (nI 119)])).trans (by simp only [r_MRm_nameOf_76, r_MRm_nameOf_77]; rfl)
theorem e_inD {b : Int32} : Rr X d MRm_in 0 [.int b, .int 48, .int 57] [] h = some (some (.int (if isD b = true then 1 else 0)), h) := by
  rw [e_in]
  unfold isD
  by_cases c : 48 ≤ b ∧ b ≤ 57
  · rw [if_pos c, if_pos (decide_eq_true c)]
  · rw [if_neg c, if_neg (by rw [decide_eq_false c]; decide)]
theorem fg_loop (hT : tOK mu) : ∀ (r n : Nat) (v : Int32) (s : PS), n + r = 4 → s.1 ≤ Tt mu → Rr X (d + 1) MRm_figure 4 [.ref 81, .int v, .int (nI n)] [] (Wd (pm mu s) la ro et) = Rr X (d + 1) MRm_figure 52 [.ref 81, .int (fgL mu r s.1 v n).2.1, .int (nI (fgL mu r s.1 v n).2.2)] [] (Wd (pm mu ((fgL mu r s.1 v n).1, s.2)) la ro et) := by
  intro r
  induction r with
  | zero =>
    intro n v s hn hs
    have : n = 4 := by omega
    subst this
    rw [r_MRm_figure_4]
    simp only [r_MRm_figure_5, r_MRm_figure_6, show ((4 : Int32) ≤ nI 4) = True by decide, if_true, fgL]
  | succ r ih =>
    intro n v s hn hs
    have hl := Tt_le hT
    have h1 : ¬ (4 : Int32) ≤ nI n := nI_ge (a := n) (b := 4) (by omega) (by omega)
    rw [r_MRm_figure_4, fgL]
    by_cases c : isD (bt mu s.1) = true
    · rw [if_pos c]
      have := ih (n + 1) (10 * v + bt mu s.1 - 48) (hS s) (by omega) (by have := isD_lt c; show s.1 + 1 ≤ _; omega)
      simp only [r_MRm_figure_5, r_MRm_figure_6, r_MRm_figure_9, r_MRm_figure_10, r_MRm_figure_13, r_MRm_figure_15, r_MRm_figure_17, r_MRm_figure_20, r_MRm_figure_23, r_MRm_figure_25, r_MRm_figure_26, r_MRm_figure_27, r_MRm_figure_28, r_MRm_figure_31, r_MRm_figure_32, r_MRm_figure_34, r_MRm_figure_35, r_MRm_figure_36, r_MRm_figure_39, r_MRm_figure_40, r_MRm_figure_40i, r_MRm_figure_41, r_MRm_figure_44, r_MRm_figure_45, r_MRm_figure_46, r_MRm_figure_49, sL_0, sL_1, sL_2, mk_i, mk_r, mk_f, mk_n, mk_u, mk_l, List.set_cons_succ, List.set_cons_zero, Nat.reduceAdd, ckS_0, ckS_1, ckS_2, ckS_3, ckS_4, Option.bind_some, Option.isSome_some, psh, if_true, if_false, i10, not_true_eq_false, not_false_eq_true, Bool.false_eq_true, and_self, and_true, true_and, eq_self, qI_81_0, qI_81_2, qI_81_3, qI_81_9, qI_81_10, qI_81_11, qI_81_12, qI_81_13, qI_81_18, qI_81_19, qI_81_20, qI_81_21, qI_81_29, qI_81_30, qI_81_31, qI_81_32, qI_81_33, qI_81_34, qI_81_35, qI_81_39, qI_81_40, qI_81_41, qI_81_42, qI_81_43, qI_81_44, qI_81_45, qI_81_46, qI_81_47, qI_81_51, qI_81_53, qR_81_1, qRd_81_1, qR_81_4, qRd_81_4, qR_81_5, qRd_81_5, qR_81_6, qRd_81_6, qR_81_7, qRd_81_7, qR_81_8, qRd_81_8, qR_81_14, qRd_81_14, qR_81_15, qRd_81_15, qR_81_16, qRd_81_16, qR_81_17, qRd_81_17, qR_81_22, qRd_81_22, qR_81_23, qRd_81_23, qR_81_24, qRd_81_24, qR_81_25, qRd_81_25, qR_81_26, qRd_81_26, qR_81_27, qRd_81_27, qR_81_28, qRd_81_28, qR_81_36, qRd_81_36, qR_81_37, qRd_81_37, qR_81_38, qRd_81_38, qR_81_48, qRd_81_48, qR_81_49, qRd_81_49, qR_81_50, qRd_81_50, qR_81_52, qRd_81_52, qR_81_54, qRd_81_54, qR_81_55, qRd_81_55, qR_81_56, qRd_81_56, qR_81_57, qRd_81_57, qR_81_58, qRd_81_58, qO_81, h1, e_look (show s.1 ≤ 120 by omega) hT, e_inD, c, nI_1, pm_18, up_h]
      exact this
    · rw [if_neg c]
      simp only [r_MRm_figure_5, r_MRm_figure_6, r_MRm_figure_9, r_MRm_figure_10, r_MRm_figure_13, r_MRm_figure_15, r_MRm_figure_17, r_MRm_figure_20, sL_0, sL_1, sL_2, mk_i, mk_r, mk_f, mk_n, mk_u, mk_l, List.set_cons_succ, List.set_cons_zero, Nat.reduceAdd, ckS_0, ckS_1, ckS_2, ckS_3, ckS_4, Option.bind_some, Option.isSome_some, psh, if_true, if_false, i10, not_true_eq_false, not_false_eq_true, Bool.false_eq_true, and_self, and_true, true_and, eq_self, qI_81_0, qI_81_2, qI_81_3, qI_81_9, qI_81_10, qI_81_11, qI_81_12, qI_81_13, qI_81_18, qI_81_19, qI_81_20, qI_81_21, qI_81_29, qI_81_30, qI_81_31, qI_81_32, qI_81_33, qI_81_34, qI_81_35, qI_81_39, qI_81_40, qI_81_41, qI_81_42, qI_81_43, qI_81_44, qI_81_45, qI_81_46, qI_81_47, qI_81_51, qI_81_53, qR_81_1, qRd_81_1, qR_81_4, qRd_81_4, qR_81_5, qRd_81_5, qR_81_6, qRd_81_6, qR_81_7, qRd_81_7, qR_81_8, qRd_81_8, qR_81_14, qRd_81_14, qR_81_15, qRd_81_15, qR_81_16, qRd_81_16, qR_81_17, qRd_81_17, qR_81_22, qRd_81_22, qR_81_23, qRd_81_23, qR_81_24, qRd_81_24, qR_81_25, qRd_81_25, qR_81_26, qRd_81_26, qR_81_27, qRd_81_27, qR_81_28, qRd_81_28, qR_81_36, qRd_81_36, qR_81_37, qRd_81_37, qR_81_38, qRd_81_38, qR_81_48, qRd_81_48, qR_81_49, qRd_81_49, qR_81_50, qRd_81_50, qR_81_52, qRd_81_52, qR_81_54, qRd_81_54, qR_81_55, qRd_81_55, qR_81_56, qRd_81_56, qR_81_57, qRd_81_57, qR_81_58, qRd_81_58, qO_81, h1, e_look (show s.1 ≤ 120 by omega) hT, e_inD, c]
theorem fgL_n : ∀ (r h : Nat) (v : Int32) (n : Nat), (fgL mu r h v n).2.2 ≤ n + r ∧ (h ≤ Tt mu → (fgL mu r h v n).1 ≤ Tt mu) ∧ (fgL mu r h v n).1 + n = h + (fgL mu r h v n).2.2
  | 0, h, v, n => ⟨Nat.le_refl _, fun q => q, rfl⟩
  | r + 1, h, v, n => by
    rw [fgL]
    split
    · rename_i c
      obtain ⟨a1, a2, a3⟩ := fgL_n r (h + 1) (10 * v + bt mu h - 48) (n + 1)
      exact ⟨by omega, fun _ => a2 (isD_lt c), by omega⟩
    · exact ⟨by show n ≤ _; omega, fun q => q, rfl⟩
theorem e_fg52 {p : PS} {v : Int32} {n : Nat} (hT : tOK mu) (e0 : p.2.1 = none) (e3 : p.2.2.2.length < 130) (e4 : p.1 ≤ 120) (hn : n ≤ 4) : Rr X (d + 1) MRm_figure 52 [.ref 81, .int v, .int (nI n)] [] (Wd (pm mu p) la ro et) = some (none, Wd (pm mu (adS (fgW mu p n) 1 v)) la ro et) := by
  unfold fgW
  have hf : ∀ k, p.2.1 = some k → k < 2 ^ 31 := fun k q => by rw [e0] at q; cases q
  have ew := e_wrong (X := X) (d := d) (mu := mu) (la := la) (ro := ro) (et := et) (s := p) hf
  have hi : (1 : Int32).toInt8.toInt32 = 1 := by decide
  by_cases c : n = 0
  · subst c
    have ea := e_addStep (X := X) (d := d) (mu := mu) (la := la) (ro := ro) (et := et) (s := wrS p) (a := 1) (w := v) e3 hi
    rw [if_pos rfl]
    simp only [r_MRm_figure_52, r_MRm_figure_53, r_MRm_figure_56, r_MRm_figure_57, r_MRm_figure_60, r_MRm_figure_62, r_MRm_figure_64, r_MRm_figure_67, r_MRm_figure_70, r_MRm_figure_71, r_MRm_figure_74, r_MRm_figure_75, r_MRm_figure_76, r_MRm_figure_77, r_MRm_figure_80, sL_0, sL_1, sL_2, mk_i, mk_r, mk_f, mk_n, mk_u, mk_l, List.set_cons_succ, List.set_cons_zero, Nat.reduceAdd, ckS_0, ckS_1, ckS_2, ckS_3, ckS_4, Option.bind_some, Option.isSome_some, psh, if_true, if_false, i10, not_true_eq_false, not_false_eq_true, Bool.false_eq_true, and_self, and_true, true_and, eq_self, qI_81_0, qI_81_2, qI_81_3, qI_81_9, qI_81_10, qI_81_11, qI_81_12, qI_81_13, qI_81_18, qI_81_19, qI_81_20, qI_81_21, qI_81_29, qI_81_30, qI_81_31, qI_81_32, qI_81_33, qI_81_34, qI_81_35, qI_81_39, qI_81_40, qI_81_41, qI_81_42, qI_81_43, qI_81_44, qI_81_45, qI_81_46, qI_81_47, qI_81_51, qI_81_53, qR_81_1, qRd_81_1, qR_81_4, qRd_81_4, qR_81_5, qRd_81_5, qR_81_6, qRd_81_6, qR_81_7, qRd_81_7, qR_81_8, qRd_81_8, qR_81_14, qRd_81_14, qR_81_15, qRd_81_15, qR_81_16, qRd_81_16, qR_81_17, qRd_81_17, qR_81_22, qRd_81_22, qR_81_23, qRd_81_23, qR_81_24, qRd_81_24, qR_81_25, qRd_81_25, qR_81_26, qRd_81_26, qR_81_27, qRd_81_27, qR_81_28, qRd_81_28, qR_81_36, qRd_81_36, qR_81_37, qRd_81_37, qR_81_38, qRd_81_38, qR_81_48, qRd_81_48, qR_81_49, qRd_81_49, qR_81_50, qRd_81_50, qR_81_52, qRd_81_52, qR_81_54, qRd_81_54, qR_81_55, qRd_81_55, qR_81_56, qRd_81_56, qR_81_57, qRd_81_57, qR_81_58, qRd_81_58, qO_81, nI_0, ew, ea]
  · have c' : ¬ nI n = 0 := nI_ne0 (by omega) (by omega)
    rw [if_neg c]
    by_cases c2 : isD (bt mu p.1) = true
    · have ea := e_addStep (X := X) (d := d) (mu := mu) (la := la) (ro := ro) (et := et) (s := wrS p) (a := 1) (w := v) e3 hi
      rw [if_pos c2]
      simp only [r_MRm_figure_52, r_MRm_figure_53, r_MRm_figure_56, r_MRm_figure_57, r_MRm_figure_60, r_MRm_figure_62, r_MRm_figure_64, r_MRm_figure_67, r_MRm_figure_70, r_MRm_figure_71, r_MRm_figure_74, r_MRm_figure_75, r_MRm_figure_76, r_MRm_figure_77, r_MRm_figure_80, sL_0, sL_1, sL_2, mk_i, mk_r, mk_f, mk_n, mk_u, mk_l, List.set_cons_succ, List.set_cons_zero, Nat.reduceAdd, ckS_0, ckS_1, ckS_2, ckS_3, ckS_4, Option.bind_some, Option.isSome_some, psh, if_true, if_false, i10, not_true_eq_false, not_false_eq_true, Bool.false_eq_true, and_self, and_true, true_and, eq_self, qI_81_0, qI_81_2, qI_81_3, qI_81_9, qI_81_10, qI_81_11, qI_81_12, qI_81_13, qI_81_18, qI_81_19, qI_81_20, qI_81_21, qI_81_29, qI_81_30, qI_81_31, qI_81_32, qI_81_33, qI_81_34, qI_81_35, qI_81_39, qI_81_40, qI_81_41, qI_81_42, qI_81_43, qI_81_44, qI_81_45, qI_81_46, qI_81_47, qI_81_51, qI_81_53, qR_81_1, qRd_81_1, qR_81_4, qRd_81_4, qR_81_5, qRd_81_5, qR_81_6, qRd_81_6, qR_81_7, qRd_81_7, qR_81_8, qRd_81_8, qR_81_14, qRd_81_14, qR_81_15, qRd_81_15, qR_81_16, qRd_81_16, qR_81_17, qRd_81_17, qR_81_22, qRd_81_22, qR_81_23, qRd_81_23, qR_81_24, qRd_81_24, qR_81_25, qRd_81_25, qR_81_26, qRd_81_26, qR_81_27, qRd_81_27, qR_81_28, qRd_81_28, qR_81_36, qRd_81_36, qR_81_37, qRd_81_37, qR_81_38, qRd_81_38, qR_81_48, qRd_81_48, qR_81_49, qRd_81_49, qR_81_50, qRd_81_50, qR_81_52, qRd_81_52, qR_81_54, qRd_81_54, qR_81_55, qRd_81_55, qR_81_56, qRd_81_56, qR_81_57, qRd_81_57, qR_81_58, qRd_81_58, qO_81, c', e_look e4 hT, e_inD, c2, ew, ea]
    · have ea := e_addStep (X := X) (d := d) (mu := mu) (la := la) (ro := ro) (et := et) (s := p) (a := 1) (w := v) e3 hi
      rw [if_neg c2]
      simp only [r_MRm_figure_52, r_MRm_figure_53, r_MRm_figure_56, r_MRm_figure_57, r_MRm_figure_60, r_MRm_figure_62, r_MRm_figure_64, r_MRm_figure_67, r_MRm_figure_70, r_MRm_figure_71, r_MRm_figure_74, r_MRm_figure_75, r_MRm_figure_76, r_MRm_figure_77, r_MRm_figure_80, sL_0, sL_1, sL_2, mk_i, mk_r, mk_f, mk_n, mk_u, mk_l, List.set_cons_succ, List.set_cons_zero, Nat.reduceAdd, ckS_0, ckS_1, ckS_2, ckS_3, ckS_4, Option.bind_some, Option.isSome_some, psh, if_true, if_false, i10, not_true_eq_false, not_false_eq_true, Bool.false_eq_true, and_self, and_true, true_and, eq_self, qI_81_0, qI_81_2, qI_81_3, qI_81_9, qI_81_10, qI_81_11, qI_81_12, qI_81_13, qI_81_18, qI_81_19, qI_81_20, qI_81_21, qI_81_29, qI_81_30, qI_81_31, qI_81_32, qI_81_33, qI_81_34, qI_81_35, qI_81_39, qI_81_40, qI_81_41, qI_81_42, qI_81_43, qI_81_44, qI_81_45, qI_81_46, qI_81_47, qI_81_51, qI_81_53, qR_81_1, qRd_81_1, qR_81_4, qRd_81_4, qR_81_5, qRd_81_5, qR_81_6, qRd_81_6, qR_81_7, qRd_81_7, qR_81_8, qRd_81_8, qR_81_14, qRd_81_14, qR_81_15, qRd_81_15, qR_81_16, qRd_81_16, qR_81_17, qRd_81_17, qR_81_22, qRd_81_22, qR_81_23, qRd_81_23, qR_81_24, qRd_81_24, qR_81_25, qRd_81_25, qR_81_26, qRd_81_26, qR_81_27, qRd_81_27, qR_81_28, qRd_81_28, qR_81_36, qRd_81_36, qR_81_37, qRd_81_37, qR_81_38, qRd_81_38, qR_81_48, qRd_81_48, qR_81_49, qRd_81_49, qR_81_50, qRd_81_50, qR_81_52, qRd_81_52, qR_81_54, qRd_81_54, qR_81_55, qRd_81_55, qR_81_56, qRd_81_56, qR_81_57, qRd_81_57, qR_81_58, qRd_81_58, qO_81, c', e_look e4 hT, e_inD, c2, ea]
theorem e_figure (hT : tOK mu) (h1 : s.1 ≤ Tt mu) (h2 : s.2.1 = none) (h3 : s.2.2.2.length < 130) : Rr X (d + 1) MRm_figure 0 [.ref 81, mkU, mkU] [] (Wd (pm mu s) la ro et) = some (none, Wd (pm mu (fgS mu s)) la ro et) := by
  have hl := Tt_le hT
  have lp := fg_loop (X := X) (d := d) (la := la) (ro := ro) (et := et) hT 4 0 0 s rfl h1
  rw [nI_0] at lp
  obtain ⟨a1, a2, a3⟩ := fgL_n (mu := mu) 4 s.1 0 0
  have a4 := a2 h1
  have e4 : (((fgL mu 4 s.1 0 0).1, s.2) : PS).1 ≤ 120 := by show (fgL mu 4 s.1 0 0).1 ≤ 120; omega
  have q := e_fg52 (X := X) (d := d) (la := la) (ro := ro) (et := et) (p := ((fgL mu 4 s.1 0 0).1, s.2)) (v := (fgL mu 4 s.1 0 0).2.1) (n := (fgL mu 4 s.1 0 0).2.2) hT h2 h3 e4 (by omega)
  simp only [r_MRm_figure_0, r_MRm_figure_1, r_MRm_figure_2, r_MRm_figure_3, sL_0, sL_1, sL_2, mk_i, mk_r, mk_f, mk_n, mk_u, mk_l, List.set_cons_succ, List.set_cons_zero, Nat.reduceAdd, ckS_0, ckS_1, ckS_2, ckS_3, ckS_4, Option.bind_some, Option.isSome_some, psh, if_true, if_false, lp]
  exact q
end
