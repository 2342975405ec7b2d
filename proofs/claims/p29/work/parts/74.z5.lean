-- ===== by hand: changes, undone, done again
section
variable {X : Tok} {d : Nat} {mu mu' : Mu} {la la' : La} {ro ro' : Ro} {et : Nat → Option va_E}
abbrev wCh : WS := [(88, 0), (89, 0), (90, 0), (91, 0), (87, 0), (84, 0), (81, 13), (81, 14)]
noncomputable def vAt (mu : Mu) (of at' : Int32) : Int32 := if of = 0 then mu 87 at'.toNatClampNeg else mu 84 at'.toNatClampNeg
noncomputable def plc (mu : Mu) (of at' v : Int32) : Mu := if of = 0 then up2 mu 87 at'.toNatClampNeg v else up2 mu 84 at'.toNatClampNeg v
abbrev vOk (of at' : Int32) : Prop := (of = 0 ∧ ∃ j, j < 28 ∧ at' = nI j) ∨ (¬ of = 0 ∧ ∃ j, j < 84 ∧ at' = nI j)
theorem e_valueAt {of at' : Int32} (h : vOk of at') : Rr X d MRm_valueAt 0 [.ref 81, .int of, .int at'] [] (Wd mu la ro et) = some (some (.int (vAt mu of at')), Wd mu la ro et) := by
  unfold vAt
  rcases h with ⟨rfl, j, hj, rfl⟩ | ⟨h0, j, hj, rfl⟩
  · have h1 : ¬ (nI j < 0 ∨ 28 ≤ (nI j).toNatClampNeg) := nI_in hj (by decide)
    simp only [r_MRm_valueAt_0, r_MRm_valueAt_1, r_MRm_valueAt_4, r_MRm_valueAt_5, r_MRm_valueAt_8, r_MRm_valueAt_9, r_MRm_valueAt_10, r_MRm_valueAt_13, r_MRm_valueAt_14, r_MRm_valueAt_17, r_MRm_valueAt_18, r_MRm_valueAt_19, sL_0, sL_1, sL_2, mk_i, mk_r, mk_f, mk_n, mk_u, mk_l, List.set_cons_succ, List.set_cons_zero, Nat.reduceAdd, ckS_0, ckS_1, ckS_2, ckS_3, ckS_4, Option.bind_some, Option.isSome_some, psh, if_true, if_false, i10, not_true_eq_false, not_false_eq_true, Bool.false_eq_true, and_self, and_true, true_and, eq_self, qI_81_0, qI_81_2, qI_81_3, qI_81_9, qI_81_10, qI_81_11, qI_81_12, qI_81_13, qI_81_18, qI_81_19, qI_81_20, qI_81_21, qI_81_29, qI_81_30, qI_81_31, qI_81_32, qI_81_33, qI_81_34, qI_81_35, qI_81_39, qI_81_40, qI_81_41, qI_81_42, qI_81_43, qI_81_44, qI_81_45, qI_81_46, qI_81_47, qI_81_51, qI_81_53, qR_81_1, qRd_81_1, qR_81_4, qRd_81_4, qR_81_5, qRd_81_5, qR_81_6, qRd_81_6, qR_81_7, qRd_81_7, qR_81_8, qRd_81_8, qR_81_14, qRd_81_14, qR_81_15, qRd_81_15, qR_81_16, qRd_81_16, qR_81_17, qRd_81_17, qR_81_22, qRd_81_22, qR_81_23, qRd_81_23, qR_81_24, qRd_81_24, qR_81_25, qRd_81_25, qR_81_26, qRd_81_26, qR_81_27, qRd_81_27, qR_81_28, qRd_81_28, qR_81_36, qRd_81_36, qR_81_37, qRd_81_37, qR_81_38, qRd_81_38, qR_81_48, qRd_81_48, qR_81_49, qRd_81_49, qR_81_50, qRd_81_50, qR_81_52, qRd_81_52, qR_81_54, qRd_81_54, qR_81_55, qRd_81_55, qR_81_56, qRd_81_56, qR_81_57, qRd_81_57, qR_81_58, qRd_81_58, qA_84, qAd_84, qA_87, qAd_87, qO_81, qL_84, qLd_84, qL_87, qLd_87, h1]
  · have h1 : ¬ (nI j < 0 ∨ 84 ≤ (nI j).toNatClampNeg) := nI_in hj (by decide)
    simp only [r_MRm_valueAt_0, r_MRm_valueAt_1, r_MRm_valueAt_4, r_MRm_valueAt_5, r_MRm_valueAt_8, r_MRm_valueAt_9, r_MRm_valueAt_10, r_MRm_valueAt_13, r_MRm_valueAt_14, r_MRm_valueAt_17, r_MRm_valueAt_18, r_MRm_valueAt_19, sL_0, sL_1, sL_2, mk_i, mk_r, mk_f, mk_n, mk_u, mk_l, List.set_cons_succ, List.set_cons_zero, Nat.reduceAdd, ckS_0, ckS_1, ckS_2, ckS_3, ckS_4, Option.bind_some, Option.isSome_some, psh, if_true, if_false, i10, not_true_eq_false, not_false_eq_true, Bool.false_eq_true, and_self, and_true, true_and, eq_self, qI_81_0, qI_81_2, qI_81_3, qI_81_9, qI_81_10, qI_81_11, qI_81_12, qI_81_13, qI_81_18, qI_81_19, qI_81_20, qI_81_21, qI_81_29, qI_81_30, qI_81_31, qI_81_32, qI_81_33, qI_81_34, qI_81_35, qI_81_39, qI_81_40, qI_81_41, qI_81_42, qI_81_43, qI_81_44, qI_81_45, qI_81_46, qI_81_47, qI_81_51, qI_81_53, qR_81_1, qRd_81_1, qR_81_4, qRd_81_4, qR_81_5, qRd_81_5, qR_81_6, qRd_81_6, qR_81_7, qRd_81_7, qR_81_8, qRd_81_8, qR_81_14, qRd_81_14, qR_81_15, qRd_81_15, qR_81_16, qRd_81_16, qR_81_17, qRd_81_17, qR_81_22, qRd_81_22, qR_81_23, qRd_81_23, qR_81_24, qRd_81_24, qR_81_25, qRd_81_25, qR_81_26, qRd_81_26, qR_81_27, qRd_81_27, qR_81_28, qRd_81_28, qR_81_36, qRd_81_36, qR_81_37, qRd_81_37, qR_81_38, qRd_81_38, qR_81_48, qRd_81_48, qR_81_49, qRd_81_49, qR_81_50, qRd_81_50, qR_81_52, qRd_81_52, qR_81_54, qRd_81_54, qR_81_55, qRd_81_55, qR_81_56, qRd_81_56, qR_81_57, qRd_81_57, qR_81_58, qRd_81_58, qA_84, qAd_84, qA_87, qAd_87, qO_81, qL_84, qLd_84, qL_87, qLd_87, h1, h0]
theorem e_place {of at' v : Int32} (h : vOk of at') : Rr X d MRm_place 0 [.ref 81, .int of, .int at', .int v] [] (Wd mu la ro et) = some (none, Wd (plc mu of at' v) la ro et) := by
  unfold plc
  rcases h with ⟨rfl, j, hj, rfl⟩ | ⟨h0, j, hj, rfl⟩
  · have h1 : ¬ (nI j < 0 ∨ 28 ≤ (nI j).toNatClampNeg) := nI_in hj (by decide)
    simp only [r_MRm_place_0, r_MRm_place_1, r_MRm_place_4, r_MRm_place_5, r_MRm_place_8, r_MRm_place_9, r_MRm_place_10, r_MRm_place_11, r_MRm_place_14, r_MRm_place_15, r_MRm_place_18, r_MRm_place_19, r_MRm_place_20, r_MRm_place_21, sL_0, sL_1, sL_2, mk_i, mk_r, mk_f, mk_n, mk_u, mk_l, List.set_cons_succ, List.set_cons_zero, Nat.reduceAdd, ckS_0, ckS_1, ckS_2, ckS_3, ckS_4, Option.bind_some, Option.isSome_some, psh, if_true, if_false, i10, not_true_eq_false, not_false_eq_true, Bool.false_eq_true, and_self, and_true, true_and, eq_self, qI_81_0, qI_81_2, qI_81_3, qI_81_9, qI_81_10, qI_81_11, qI_81_12, qI_81_13, qI_81_18, qI_81_19, qI_81_20, qI_81_21, qI_81_29, qI_81_30, qI_81_31, qI_81_32, qI_81_33, qI_81_34, qI_81_35, qI_81_39, qI_81_40, qI_81_41, qI_81_42, qI_81_43, qI_81_44, qI_81_45, qI_81_46, qI_81_47, qI_81_51, qI_81_53, qR_81_1, qRd_81_1, qR_81_4, qRd_81_4, qR_81_5, qRd_81_5, qR_81_6, qRd_81_6, qR_81_7, qRd_81_7, qR_81_8, qRd_81_8, qR_81_14, qRd_81_14, qR_81_15, qRd_81_15, qR_81_16, qRd_81_16, qR_81_17, qRd_81_17, qR_81_22, qRd_81_22, qR_81_23, qRd_81_23, qR_81_24, qRd_81_24, qR_81_25, qRd_81_25, qR_81_26, qRd_81_26, qR_81_27, qRd_81_27, qR_81_28, qRd_81_28, qR_81_36, qRd_81_36, qR_81_37, qRd_81_37, qR_81_38, qRd_81_38, qR_81_48, qRd_81_48, qR_81_49, qRd_81_49, qR_81_50, qRd_81_50, qR_81_52, qRd_81_52, qR_81_54, qRd_81_54, qR_81_55, qRd_81_55, qR_81_56, qRd_81_56, qR_81_57, qRd_81_57, qR_81_58, qRd_81_58, qA_84, qAd_84, qA_87, qAd_87, qO_81, qL_84, qLd_84, qL_87, qLd_87, h1]
  · have h1 : ¬ (nI j < 0 ∨ 84 ≤ (nI j).toNatClampNeg) := nI_in hj (by decide)
    simp only [r_MRm_place_0, r_MRm_place_1, r_MRm_place_4, r_MRm_place_5, r_MRm_place_8, r_MRm_place_9, r_MRm_place_10, r_MRm_place_11, r_MRm_place_14, r_MRm_place_15, r_MRm_place_18, r_MRm_place_19, r_MRm_place_20, r_MRm_place_21, sL_0, sL_1, sL_2, mk_i, mk_r, mk_f, mk_n, mk_u, mk_l, List.set_cons_succ, List.set_cons_zero, Nat.reduceAdd, ckS_0, ckS_1, ckS_2, ckS_3, ckS_4, Option.bind_some, Option.isSome_some, psh, if_true, if_false, i10, not_true_eq_false, not_false_eq_true, Bool.false_eq_true, and_self, and_true, true_and, eq_self, qI_81_0, qI_81_2, qI_81_3, qI_81_9, qI_81_10, qI_81_11, qI_81_12, qI_81_13, qI_81_18, qI_81_19, qI_81_20, qI_81_21, qI_81_29, qI_81_30, qI_81_31, qI_81_32, qI_81_33, qI_81_34, qI_81_35, qI_81_39, qI_81_40, qI_81_41, qI_81_42, qI_81_43, qI_81_44, qI_81_45, qI_81_46, qI_81_47, qI_81_51, qI_81_53, qR_81_1, qRd_81_1, qR_81_4, qRd_81_4, qR_81_5, qRd_81_5, qR_81_6, qRd_81_6, qR_81_7, qRd_81_7, qR_81_8, qRd_81_8, qR_81_14, qRd_81_14, qR_81_15, qRd_81_15, qR_81_16, qRd_81_16, qR_81_17, qRd_81_17, qR_81_22, qRd_81_22, qR_81_23, qRd_81_23, qR_81_24, qRd_81_24, qR_81_25, qRd_81_25, qR_81_26, qRd_81_26, qR_81_27, qRd_81_27, qR_81_28, qRd_81_28, qR_81_36, qRd_81_36, qR_81_37, qRd_81_37, qR_81_38, qRd_81_38, qR_81_48, qRd_81_48, qR_81_49, qRd_81_49, qR_81_50, qRd_81_50, qR_81_52, qRd_81_52, qR_81_54, qRd_81_54, qR_81_55, qRd_81_55, qR_81_56, qRd_81_56, qR_81_57, qRd_81_57, qR_81_58, qRd_81_58, qA_84, qAd_84, qA_87, qAd_87, qO_81, qL_84, qLd_84, qL_87, qLd_87, h1, h0]
/-- the oldest k - 1 places moved down by one -/
noncomputable def shk (mu : Mu) (k : Nat) : Mu := fun c j => if (c = 88 ∨ c = 89 ∨ c = 90 ∨ c = 91) ∧ j + 1 < k then mu c (j + 1) else mu c j
theorem shk_1 (mu : Mu) : shk mu 1 = mu := funext fun c => funext fun j => if_neg (by omega)
theorem shk_o {k c j : Nat} (h : ¬ (c = 88 ∨ c = 89 ∨ c = 90 ∨ c = 91)) : shk mu k c j = mu c j := if_neg fun q => h q.1
theorem shk_s (mu : Mu) (k : Nat) : up2 (up2 (up2 (up2 (shk mu (k + 1)) 88 k (shk mu (k + 1) 88 (k + 1))) 89 k (shk mu (k + 1) 89 (k + 1))) 90 k (shk mu (k + 1) 90 (k + 1))) 91 k (shk mu (k + 1) 91 (k + 1)) = shk mu (k + 2) := by
  refine funext fun c => funext fun j => ?_
  rw [up2_e, up2_e, up2_e, up2_e]
  unfold shk
  by_cases h1 : c = 88
  · subst h1
    by_cases h2 : j = k
    · subst h2; simp; intro q; omega
    · have : (j + 1 < k + 1) = (j + 1 < k + 2) := propext ⟨fun _ => by omega, fun _ => by omega⟩
      simp [h2]
      split <;> split <;> first | rfl | omega
  by_cases h1 : c = 89
  · subst h1
    by_cases h2 : j = k
    · subst h2; simp; intro q; omega
    · simp [h2]
      split <;> split <;> first | rfl | omega
  by_cases h1 : c = 90
  · subst h1
    by_cases h2 : j = k
    · subst h2; simp; intro q; omega
    · simp [h2]
      split <;> split <;> first | rfl | omega
  by_cases h1 : c = 91
  · subst h1
    by_cases h2 : j = k
    · subst h2; simp; intro q; omega
    · simp [h2]
      split <;> split <;> first | rfl | omega
  simp [*]
theorem chg_loop {of at' v was : Int32} : ∀ (n k : Nat), k + n = 39 → Rr X (d + 1) MRm_changes 34 [.ref 81, .int of, .int at', .int v, .int was, .int (nI (k + 1))] [] (Wd (shk mu (k + 1)) la ro et) = Rr X (d + 1) MRm_changes 111 [.ref 81, .int of, .int at', .int v, .int was, .int (nI 40)] [] (Wd (shk mu 40) la ro et) := by
  intro n
  induction n with
  | zero =>
    intro k hk
    have : k = 39 := by omega
    subst this
    rw [r_MRm_changes_34]
    simp only [r_MRm_changes_36, r_MRm_changes_38, show ((40 : Int32) ≤ nI (39 + 1)) = True by decide, if_true]
  | succ n ih =>
    intro k hk
    have h1 : ¬ (40 : Int32) ≤ nI (k + 1) := nI_ge (a := k + 1) (b := 40) (by omega) (by omega)
    have c0 : (nI k).toNatClampNeg = k := nI_clamp (by omega)
    have c1 : (nI (k + 1)).toNatClampNeg = k + 1 := nI_clamp (by omega)
    have h2 : ¬ (nI k < 0 ∨ 40 ≤ k) := by have := nI_in (c := k) (N := 40) (by omega) (by decide); rwa [c0] at this
    have h3 : ¬ (nI (k + 1) < 0 ∨ 40 ≤ k + 1) := by have := nI_in (c := k + 1) (N := 40) (by omega) (by decide); rwa [c1] at this
    rw [r_MRm_changes_34]
    have := ih (k + 1) (by omega)
    rw [← shk_s] at this
    simp only [r_MRm_changes_36, r_MRm_changes_38, r_MRm_changes_41, r_MRm_changes_42, r_MRm_changes_45, r_MRm_changes_47, r_MRm_changes_48, r_MRm_changes_49, r_MRm_changes_50, r_MRm_changes_53, r_MRm_changes_55, r_MRm_changes_56, r_MRm_changes_57, r_MRm_changes_58, r_MRm_changes_61, r_MRm_changes_63, r_MRm_changes_64, r_MRm_changes_65, r_MRm_changes_66, r_MRm_changes_69, r_MRm_changes_71, r_MRm_changes_72, r_MRm_changes_73, r_MRm_changes_74, r_MRm_changes_77, r_MRm_changes_79, r_MRm_changes_80, r_MRm_changes_81, r_MRm_changes_82, r_MRm_changes_85, r_MRm_changes_87, r_MRm_changes_88, r_MRm_changes_89, r_MRm_changes_90, r_MRm_changes_93, r_MRm_changes_95, r_MRm_changes_96, r_MRm_changes_97, r_MRm_changes_98, r_MRm_changes_101, r_MRm_changes_103, r_MRm_changes_104, r_MRm_changes_105, r_MRm_changes_108, sL_0, sL_1, sL_2, mk_i, mk_r, mk_f, mk_n, mk_u, mk_l, List.set_cons_succ, List.set_cons_zero, Nat.reduceAdd, ckS_0, ckS_1, ckS_2, ckS_3, ckS_4, Option.bind_some, Option.isSome_some, psh, if_true, if_false, i10, not_true_eq_false, not_false_eq_true, Bool.false_eq_true, and_self, and_true, true_and, eq_self, qI_81_0, qI_81_2, qI_81_3, qI_81_9, qI_81_10, qI_81_11, qI_81_12, qI_81_13, qI_81_18, qI_81_19, qI_81_20, qI_81_21, qI_81_29, qI_81_30, qI_81_31, qI_81_32, qI_81_33, qI_81_34, qI_81_35, qI_81_39, qI_81_40, qI_81_41, qI_81_42, qI_81_43, qI_81_44, qI_81_45, qI_81_46, qI_81_47, qI_81_51, qI_81_53, qR_81_1, qRd_81_1, qR_81_4, qRd_81_4, qR_81_5, qRd_81_5, qR_81_6, qRd_81_6, qR_81_7, qRd_81_7, qR_81_8, qRd_81_8, qR_81_14, qRd_81_14, qR_81_15, qRd_81_15, qR_81_16, qRd_81_16, qR_81_17, qRd_81_17, qR_81_22, qRd_81_22, qR_81_23, qRd_81_23, qR_81_24, qRd_81_24, qR_81_25, qRd_81_25, qR_81_26, qRd_81_26, qR_81_27, qRd_81_27, qR_81_28, qRd_81_28, qR_81_36, qRd_81_36, qR_81_37, qRd_81_37, qR_81_38, qRd_81_38, qR_81_48, qRd_81_48, qR_81_49, qRd_81_49, qR_81_50, qRd_81_50, qR_81_52, qRd_81_52, qR_81_54, qRd_81_54, qR_81_55, qRd_81_55, qR_81_56, qRd_81_56, qR_81_57, qRd_81_57, qR_81_58, qRd_81_58, qA_88, qAd_88, qA_89, qAd_89, qA_90, qAd_90, qA_91, qAd_91, qO_81, qL_88, qLd_88, qL_89, qLd_89, qL_90, qLd_90, qL_91, qLd_91, h1, nI_pred, c0, c1, h2, h3, nI_1, up2_e, Nat.reduceEqDiff, false_and, if_false]
    exact this
noncomputable def chgF (mu : Mu) (of at' v : Int32) : Mu :=
  if vAt mu of at' = v then mu else
  let D : Nat := if mu 81 12 = 40 then 39 else (mu 81 12).toNatClampNeg
  let m : Mu := if mu 81 12 = 40 then up2 (shk (up2 mu 81 13 0) 40) 81 12 39 else up2 mu 81 13 0
  plc (up2 (up2 (up2 (up2 (up2 m 88 D of) 89 D at') 90 D (vAt mu of at')) 91 D v) 81 12 (nI (D + 1))) of at' v
theorem e_changes {of at' v : Int32} {D : Nat} (h : vOk of at') (hD : mu 81 12 = nI D) (hD4 : D ≤ 40) : Rr X (d + 1) MRm_changes 0 [.ref 81, .int of, .int at', .int v, mkU, mkU] [] (Wd mu la ro et) = some (some (.int (vAt mu of at')), Wd (chgF mu of at' v) la ro et) := by
  unfold chgF
  by_cases h1 : vAt mu of at' = v
  · simp only [r_MRm_changes_0, r_MRm_changes_1, r_MRm_changes_2, r_MRm_changes_3, r_MRm_changes_6, r_MRm_changes_8, r_MRm_changes_10, r_MRm_changes_11, r_MRm_changes_14, r_MRm_changes_16, r_MRm_changes_17, sL_0, sL_1, sL_2, mk_i, mk_r, mk_f, mk_n, mk_u, mk_l, List.set_cons_succ, List.set_cons_zero, Nat.reduceAdd, ckS_0, ckS_1, ckS_2, ckS_3, ckS_4, Option.bind_some, Option.isSome_some, psh, if_true, if_false, i10, not_true_eq_false, not_false_eq_true, Bool.false_eq_true, and_self, and_true, true_and, eq_self, qI_81_0, qI_81_2, qI_81_3, qI_81_9, qI_81_10, qI_81_11, qI_81_12, qI_81_13, qI_81_18, qI_81_19, qI_81_20, qI_81_21, qI_81_29, qI_81_30, qI_81_31, qI_81_32, qI_81_33, qI_81_34, qI_81_35, qI_81_39, qI_81_40, qI_81_41, qI_81_42, qI_81_43, qI_81_44, qI_81_45, qI_81_46, qI_81_47, qI_81_51, qI_81_53, qR_81_1, qRd_81_1, qR_81_4, qRd_81_4, qR_81_5, qRd_81_5, qR_81_6, qRd_81_6, qR_81_7, qRd_81_7, qR_81_8, qRd_81_8, qR_81_14, qRd_81_14, qR_81_15, qRd_81_15, qR_81_16, qRd_81_16, qR_81_17, qRd_81_17, qR_81_22, qRd_81_22, qR_81_23, qRd_81_23, qR_81_24, qRd_81_24, qR_81_25, qRd_81_25, qR_81_26, qRd_81_26, qR_81_27, qRd_81_27, qR_81_28, qRd_81_28, qR_81_36, qRd_81_36, qR_81_37, qRd_81_37, qR_81_38, qRd_81_38, qR_81_48, qRd_81_48, qR_81_49, qRd_81_49, qR_81_50, qRd_81_50, qR_81_52, qRd_81_52, qR_81_54, qRd_81_54, qR_81_55, qRd_81_55, qR_81_56, qRd_81_56, qR_81_57, qRd_81_57, qR_81_58, qRd_81_58, qO_81, e_valueAt h, h1]
  · by_cases h2 : D = 40
    · subst h2
      have e0 : mu 81 12 = 40 := hD
      have lp := chg_loop (X := X) (d := d) (mu := up2 mu 81 13 0) (la := la) (ro := ro) (et := et) (of := of) (at' := at') (v := v) (was := vAt mu of at') 39 0 (by omega)
      have e1 : nI (0 + 1) = 1 := rfl
      rw [shk_1, e1] at lp
      have g0 : shk (up2 mu 81 13 0) 40 81 12 = 40 := by rw [shk_o (by decide), up2_k (by decide)]; exact e0
      have i1 : ¬ ((39 : Int32) < 0 ∨ 40 ≤ (39 : Int32).toNatClampNeg) := by decide
      have i2 : (39 : Int32).toNatClampNeg = 39 := by decide
      simp only [r_MRm_changes_0, r_MRm_changes_1, r_MRm_changes_2, r_MRm_changes_3, r_MRm_changes_6, r_MRm_changes_8, r_MRm_changes_10, r_MRm_changes_11, r_MRm_changes_14, r_MRm_changes_16, r_MRm_changes_17, r_MRm_changes_18, r_MRm_changes_19, r_MRm_changes_22, r_MRm_changes_23, r_MRm_changes_26, r_MRm_changes_28, r_MRm_changes_31, r_MRm_changes_32, r_MRm_changes_111, r_MRm_changes_112, r_MRm_changes_112i, r_MRm_changes_113, r_MRm_changes_116, r_MRm_changes_117, r_MRm_changes_118, r_MRm_changes_121, r_MRm_changes_122, r_MRm_changes_125, r_MRm_changes_126, r_MRm_changes_129, r_MRm_changes_130, r_MRm_changes_131, r_MRm_changes_132, r_MRm_changes_135, r_MRm_changes_136, r_MRm_changes_139, r_MRm_changes_140, r_MRm_changes_141, r_MRm_changes_142, r_MRm_changes_145, r_MRm_changes_146, r_MRm_changes_149, r_MRm_changes_151, r_MRm_changes_152, r_MRm_changes_153, r_MRm_changes_156, r_MRm_changes_157, r_MRm_changes_160, r_MRm_changes_161, r_MRm_changes_162, r_MRm_changes_163, r_MRm_changes_163i, r_MRm_changes_164, r_MRm_changes_167, r_MRm_changes_168, r_MRm_changes_169, r_MRm_changes_172, r_MRm_changes_173, r_MRm_changes_174, r_MRm_changes_175, r_MRm_changes_176, r_MRm_changes_179, r_MRm_changes_181, sL_0, sL_1, sL_2, mk_i, mk_r, mk_f, mk_n, mk_u, mk_l, List.set_cons_succ, List.set_cons_zero, Nat.reduceAdd, ckS_0, ckS_1, ckS_2, ckS_3, ckS_4, Option.bind_some, Option.isSome_some, psh, if_true, if_false, i10, not_true_eq_false, not_false_eq_true, Bool.false_eq_true, and_self, and_true, true_and, eq_self, qI_81_0, qI_81_2, qI_81_3, qI_81_9, qI_81_10, qI_81_11, qI_81_12, qI_81_13, qI_81_18, qI_81_19, qI_81_20, qI_81_21, qI_81_29, qI_81_30, qI_81_31, qI_81_32, qI_81_33, qI_81_34, qI_81_35, qI_81_39, qI_81_40, qI_81_41, qI_81_42, qI_81_43, qI_81_44, qI_81_45, qI_81_46, qI_81_47, qI_81_51, qI_81_53, qR_81_1, qRd_81_1, qR_81_4, qRd_81_4, qR_81_5, qRd_81_5, qR_81_6, qRd_81_6, qR_81_7, qRd_81_7, qR_81_8, qRd_81_8, qR_81_14, qRd_81_14, qR_81_15, qRd_81_15, qR_81_16, qRd_81_16, qR_81_17, qRd_81_17, qR_81_22, qRd_81_22, qR_81_23, qRd_81_23, qR_81_24, qRd_81_24, qR_81_25, qRd_81_25, qR_81_26, qRd_81_26, qR_81_27, qRd_81_27, qR_81_28, qRd_81_28, qR_81_36, qRd_81_36, qR_81_37, qRd_81_37, qR_81_38, qRd_81_38, qR_81_48, qRd_81_48, qR_81_49, qRd_81_49, qR_81_50, qRd_81_50, qR_81_52, qRd_81_52, qR_81_54, qRd_81_54, qR_81_55, qRd_81_55, qR_81_56, qRd_81_56, qR_81_57, qRd_81_57, qR_81_58, qRd_81_58, qA_88, qAd_88, qA_89, qAd_89, qA_90, qAd_90, qA_91, qAd_91, qO_81, qL_88, qLd_88, qL_89, qLd_89, qL_90, qLd_90, qL_91, qLd_91, e_valueAt h, h1, e0, up2_e, Nat.reduceEqDiff, false_and, and_false, if_false, lp, g0, show (40 : Int32) - 1 = 39 by decide, i1, i2, e_place h]
      rfl
    · have h3 : ¬ mu 81 12 = 40 := by
        rw [hD]
        exact fun q => h2 ((nI_eq (b := 40) (by omega) (by omega)).mp q)
      have c0 : (nI D).toNatClampNeg = D := nI_clamp (by omega)
      have i1 : ¬ (nI D < 0 ∨ 40 ≤ D) := by have := nI_in (c := D) (N := 40) (by omega) (by decide); rwa [c0] at this
      have h3' : ¬ nI D = 40 := by rwa [hD] at h3
      simp only [r_MRm_changes_0, r_MRm_changes_1, r_MRm_changes_2, r_MRm_changes_3, r_MRm_changes_6, r_MRm_changes_8, r_MRm_changes_10, r_MRm_changes_11, r_MRm_changes_14, r_MRm_changes_16, r_MRm_changes_17, r_MRm_changes_18, r_MRm_changes_19, r_MRm_changes_22, r_MRm_changes_23, r_MRm_changes_26, r_MRm_changes_28, r_MRm_changes_31, r_MRm_changes_32, r_MRm_changes_111, r_MRm_changes_112, r_MRm_changes_112i, r_MRm_changes_113, r_MRm_changes_116, r_MRm_changes_117, r_MRm_changes_118, r_MRm_changes_121, r_MRm_changes_122, r_MRm_changes_125, r_MRm_changes_126, r_MRm_changes_129, r_MRm_changes_130, r_MRm_changes_131, r_MRm_changes_132, r_MRm_changes_135, r_MRm_changes_136, r_MRm_changes_139, r_MRm_changes_140, r_MRm_changes_141, r_MRm_changes_142, r_MRm_changes_145, r_MRm_changes_146, r_MRm_changes_149, r_MRm_changes_151, r_MRm_changes_152, r_MRm_changes_153, r_MRm_changes_156, r_MRm_changes_157, r_MRm_changes_160, r_MRm_changes_161, r_MRm_changes_162, r_MRm_changes_163, r_MRm_changes_163i, r_MRm_changes_164, r_MRm_changes_167, r_MRm_changes_168, r_MRm_changes_169, r_MRm_changes_172, r_MRm_changes_173, r_MRm_changes_174, r_MRm_changes_175, r_MRm_changes_176, r_MRm_changes_179, r_MRm_changes_181, sL_0, sL_1, sL_2, mk_i, mk_r, mk_f, mk_n, mk_u, mk_l, List.set_cons_succ, List.set_cons_zero, Nat.reduceAdd, ckS_0, ckS_1, ckS_2, ckS_3, ckS_4, Option.bind_some, Option.isSome_some, psh, if_true, if_false, i10, not_true_eq_false, not_false_eq_true, Bool.false_eq_true, and_self, and_true, true_and, eq_self, qI_81_0, qI_81_2, qI_81_3, qI_81_9, qI_81_10, qI_81_11, qI_81_12, qI_81_13, qI_81_18, qI_81_19, qI_81_20, qI_81_21, qI_81_29, qI_81_30, qI_81_31, qI_81_32, qI_81_33, qI_81_34, qI_81_35, qI_81_39, qI_81_40, qI_81_41, qI_81_42, qI_81_43, qI_81_44, qI_81_45, qI_81_46, qI_81_47, qI_81_51, qI_81_53, qR_81_1, qRd_81_1, qR_81_4, qRd_81_4, qR_81_5, qRd_81_5, qR_81_6, qRd_81_6, qR_81_7, qRd_81_7, qR_81_8, qRd_81_8, qR_81_14, qRd_81_14, qR_81_15, qRd_81_15, qR_81_16, qRd_81_16, qR_81_17, qRd_81_17, qR_81_22, qRd_81_22, qR_81_23, qRd_81_23, qR_81_24, qRd_81_24, qR_81_25, qRd_81_25, qR_81_26, qRd_81_26, qR_81_27, qRd_81_27, qR_81_28, qRd_81_28, qR_81_36, qRd_81_36, qR_81_37, qRd_81_37, qR_81_38, qRd_81_38, qR_81_48, qRd_81_48, qR_81_49, qRd_81_49, qR_81_50, qRd_81_50, qR_81_52, qRd_81_52, qR_81_54, qRd_81_54, qR_81_55, qRd_81_55, qR_81_56, qRd_81_56, qR_81_57, qRd_81_57, qR_81_58, qRd_81_58, qA_88, qAd_88, qA_89, qAd_89, qA_90, qAd_90, qA_91, qAd_91, qO_81, qL_88, qLd_88, qL_89, qLd_89, qL_90, qLd_90, qL_91, qLd_91, e_valueAt h, h1, hD, h3', up2_e, Nat.reduceEqDiff, false_and, and_false, if_false, c0, i1, e_place h, nI_1]
theorem frm_plc {of at' v : Int32} : frm wCh mu la ro (plc mu of at' v) la ro := by
  unfold plc
  split
  · exact frm_up (.inl (by decide))
  · exact frm_up (.inl (by decide))
theorem gOk_plc {of at' v : Int32} (hg : gOk ivG mu) : gOk ivG (plc mu of at' v) := by
  unfold plc
  split
  · exact gOk_r hg (by decide) (top_ok _)
  · exact gOk_r hg (by decide) (top_ok _)
theorem frm_shk {k : Nat} : frm wCh mu la ro (shk mu k) la ro := by
  refine ⟨fun a j h1 h2 => ?_, fun _ _ => rfl, fun _ _ _ => rfl, fun _ => rfl⟩
  refine shk_o fun q => ?_
  rcases q with rfl | rfl | rfl | rfl <;> exact absurd h1 (by decide)
theorem gOk_shk {k : Nat} (hg : gOk ivG mu) : gOk ivG (shk mu k) := by
  intro a j
  unfold shk
  split
  · rename_i q
    rcases q.1 with rfl | rfl | rfl | rfl <;> exact ⟨top_ok _, by rw [ivR_ok (by decide)]; exact top_ok _⟩
  · exact hg a j
theorem gOk_f {k : Nat} {x : Int32} (hg : gOk ivG mu) (h1 : (ivL ivG 81 (k + 1)).1 ≤ x.toInt ∧ x.toInt ≤ (ivL ivG 81 (k + 1)).2) : gOk ivG (up2 mu 81 k x) := gOk_up hg (by rw [ivF_ok (by decide)]; exact top_ok x) h1
theorem frm_chgF {of at' v : Int32} : frm wCh mu la ro (chgF mu of at' v) la ro := by
  unfold chgF
  split
  · exact frm_r _ _ _ _
  · refine frm_t ?_ frm_plc
    refine frm_t (frm_t (frm_t (frm_t (frm_t ?_ (frm_up (.inl (by decide)))) (frm_up (.inl (by decide)))) (frm_up (.inl (by decide)))) (frm_up (.inl (by decide)))) (frm_up (.inr (by decide)))
    split
    · exact frm_t (frm_t (frm_up (.inr (by decide))) frm_shk) (frm_up (.inr (by decide)))
    · exact frm_up (.inr (by decide))
theorem gOk_chgF {of at' v : Int32} (hg : gOk ivG mu) : gOk ivG (chgF mu of at' v) := by
  unfold chgF
  split
  · exact hg
  · refine gOk_plc (gOk_f (gOk_r (gOk_r (gOk_r (gOk_r ?_ (by decide) (top_ok _)) (by decide) (top_ok _)) (by decide) (top_ok _)) (by decide) (top_ok _)) (top_ok _))
    split
    · exact gOk_f (gOk_shk (gOk_f hg (top_ok _))) (top_ok _)
    · exact gOk_f hg (top_ok _)
end
