-- ===== by hand: contracts of changes
section
variable {X : Tok} {d : Nat} {mu mu' : Mu} {la la' : La} {ro ro' : Ro} {et : Nat → Option va_E}
theorem JB_ch (h : JB mu la ro) (f : frm wCh mu la ro mu' la' ro') (j : JCh mu') : JB mu' la' ro' := ⟨JFm_f (by decide) f h.1, j, JFl_f (by decide) f h.2.2⟩
theorem plc_o {of at' v : Int32} {c j : Nat} (h1 : ¬ c = 84) (h2 : ¬ c = 87) : plc mu of at' v c j = mu c j := by
  unfold plc
  split
  · exact up2_a h2
  · exact up2_a h1
theorem chgF_o {of at' v : Int32} (h1 : ¬ vAt mu of at' = v) {D : Nat} {m : Mu} (hD : (if mu 81 12 = 40 then 39 else (mu 81 12).toNatClampNeg) = D) (hm : (if mu 81 12 = 40 then up2 (shk (up2 mu 81 13 0) 40) 81 12 39 else up2 mu 81 13 0) = m) : chgF mu of at' v 81 12 = nI (D + 1) ∧ chgF mu of at' v 81 13 = m 81 13 ∧ (∀ i, chgF mu of at' v 88 i = if i = D then of else m 88 i) ∧ (∀ i, chgF mu of at' v 89 i = if i = D then at' else m 89 i) := by
  unfold chgF
  rw [if_neg h1]
  simp only [hD, hm]
  refine ⟨?_, ?_, fun i => ?_, fun i => ?_⟩
  · rw [plc_o (by decide) (by decide), up2_s]
  · rw [plc_o (by decide) (by decide)]
    simp [up2_e]
  · rw [plc_o (by decide) (by decide)]
    simp [up2_e]
  · rw [plc_o (by decide) (by decide)]
    simp [up2_e]
theorem JCh_chgF {of at' v : Int32} (hj : JCh mu) (h : vOk of at') : JCh (chgF mu of at' v) := by
  by_cases h1 : vAt mu of at' = v
  · unfold chgF
    rw [if_pos h1]
    exact hj
  · obtain ⟨D, U, q1, q2, q3, q4⟩ := hj
    by_cases h2 : D = 40
    · subst h2
      have e0 : mu 81 12 = 40 := q2
      obtain ⟨g1, g2, g3, g4⟩ := chgF_o (mu := mu) h1 (if_pos e0) (if_pos e0)
      refine ⟨40, 0, by omega, g1, ?_, fun i hi => ?_⟩
      · rw [g2]
        simp [up2_e, shk_o]
        rfl
      · rw [g3, g4]
        by_cases c : i = 39
        · rw [if_pos c, if_pos c]
          exact h
        · rw [if_neg c, if_neg c, up2_a (by decide), up2_a (by decide)]
          unfold shk
          rw [if_pos ⟨.inl rfl, by omega⟩, if_pos ⟨.inr (.inl rfl), by omega⟩, up2_a (by decide), up2_a (by decide)]
          exact q4 (i + 1) (by omega)
    · have e0 : ¬ mu 81 12 = 40 := by
        rw [q2]
        exact fun q => h2 ((nI_eq (b := 40) (by omega) (by omega)).mp q)
      obtain ⟨g1, g2, g3, g4⟩ := chgF_o (mu := mu) (D := D) h1 (by rw [if_neg e0, q2, nI_clamp (by omega)]) (if_neg e0)
      refine ⟨D + 1, 0, by omega, g1, ?_, fun i hi => ?_⟩
      · rw [g2, up2_s]
        rfl
      · rw [g3, g4]
        by_cases c : i = D
        · rw [if_pos c, if_pos c]
          exact h
        · rw [if_neg c, if_neg c, up2_a (by decide), up2_a (by decide)]
          exact q4 i (by omega)
theorem hand_undo : ctrT ivG JB X et h3 := by
  intro d av mu la ro hd ha hg hr hj
  have := ap1 ha
  subst this
  obtain ⟨d, rfl⟩ : ∃ e, d = e + 4 := ⟨d - 4, by have : 4 ≤ d := hd; omega⟩
  show Fin X (d + 4) MRm_undo 0 [.ref 81] [] mu la ro et _
  obtain ⟨D, U, q1, q2, q3, q4⟩ := hj.2.1
  cases D with
  | zero =>
    refine ⟨some (.int (-5)), mu, la, ro, ?_, hg, hr, hj, frm_r _ _ _ _, resT _⟩
    simp only [r_MRm_undo_0, r_MRm_undo_1, r_MRm_undo_4, r_MRm_undo_7, r_MRm_undo_9, r_MRm_undo_10, sL_0, sL_1, sL_2, mk_i, mk_r, mk_f, mk_n, mk_u, mk_l, List.set_cons_succ, List.set_cons_zero, Nat.reduceAdd, ckS_0, ckS_1, ckS_2, ckS_3, ckS_4, Option.bind_some, Option.isSome_some, psh, if_true, if_false, i10, not_true_eq_false, not_false_eq_true, Bool.false_eq_true, and_self, and_true, true_and, eq_self, qI_81_0, qI_81_2, qI_81_3, qI_81_9, qI_81_10, qI_81_11, qI_81_12, qI_81_13, qI_81_18, qI_81_19, qI_81_20, qI_81_21, qI_81_29, qI_81_30, qI_81_31, qI_81_32, qI_81_33, qI_81_34, qI_81_35, qI_81_39, qI_81_40, qI_81_41, qI_81_42, qI_81_43, qI_81_44, qI_81_45, qI_81_46, qI_81_47, qI_81_51, qI_81_53, qR_81_1, qRd_81_1, qR_81_4, qRd_81_4, qR_81_5, qRd_81_5, qR_81_6, qRd_81_6, qR_81_7, qRd_81_7, qR_81_8, qRd_81_8, qR_81_14, qRd_81_14, qR_81_15, qRd_81_15, qR_81_16, qRd_81_16, qR_81_17, qRd_81_17, qR_81_22, qRd_81_22, qR_81_23, qRd_81_23, qR_81_24, qRd_81_24, qR_81_25, qRd_81_25, qR_81_26, qRd_81_26, qR_81_27, qRd_81_27, qR_81_28, qRd_81_28, qR_81_36, qRd_81_36, qR_81_37, qRd_81_37, qR_81_38, qRd_81_38, qR_81_48, qRd_81_48, qR_81_49, qRd_81_49, qR_81_50, qRd_81_50, qR_81_52, qRd_81_52, qR_81_54, qRd_81_54, qR_81_55, qRd_81_55, qR_81_56, qRd_81_56, qR_81_57, qRd_81_57, qR_81_58, qRd_81_58, qO_81, q2, nI_0]
  | succ D =>
    have h1 : ¬ nI (D + 1) = 0 := nI_ne0 (by omega) (by omega)
    have c0 : (nI D).toNatClampNeg = D := nI_clamp (by omega)
    have i1 : ¬ (nI D < 0 ∨ 40 ≤ D) := by have := nI_in (c := D) (N := 40) (by omega) (by decide); rwa [c0] at this
    have hv : vOk (mu 88 D) (mu 89 D) := q4 D (by omega)
    have f : frm wCh mu la ro (plc (up2 (up2 mu 81 12 (nI D)) 81 13 (nI (U + 1))) (mu 88 D) (mu 89 D) (mu 90 D)) la ro := frm_t (frm_t (frm_up (.inr (by decide))) (frm_up (.inr (by decide)))) frm_plc
    refine ⟨some (.int (nI D)), plc (up2 (up2 mu 81 12 (nI D)) 81 13 (nI (U + 1))) (mu 88 D) (mu 89 D) (mu 90 D), la, ro, ?_, gOk_plc (gOk_f (gOk_f hg (top_ok _)) (top_ok _)), hr, JB_ch hj f ⟨D, U + 1, by omega, ?_, ?_, fun i hi => ?_⟩, f, resT _⟩
    · simp only [r_MRm_undo_0, r_MRm_undo_1, r_MRm_undo_4, r_MRm_undo_7, r_MRm_undo_9, r_MRm_undo_10, r_MRm_undo_11, r_MRm_undo_11i, r_MRm_undo_12, r_MRm_undo_15, r_MRm_undo_16, r_MRm_undo_17, r_MRm_undo_20, r_MRm_undo_21, r_MRm_undo_21i, r_MRm_undo_22, r_MRm_undo_25, r_MRm_undo_26, r_MRm_undo_27, r_MRm_undo_30, r_MRm_undo_31, r_MRm_undo_32, r_MRm_undo_35, r_MRm_undo_36, r_MRm_undo_39, r_MRm_undo_40, r_MRm_undo_41, r_MRm_undo_44, r_MRm_undo_45, r_MRm_undo_48, r_MRm_undo_49, r_MRm_undo_50, r_MRm_undo_53, r_MRm_undo_54, r_MRm_undo_57, r_MRm_undo_58, r_MRm_undo_61, r_MRm_undo_62, r_MRm_undo_65, sL_0, sL_1, sL_2, mk_i, mk_r, mk_f, mk_n, mk_u, mk_l, List.set_cons_succ, List.set_cons_zero, Nat.reduceAdd, ckS_0, ckS_1, ckS_2, ckS_3, ckS_4, Option.bind_some, Option.isSome_some, psh, if_true, if_false, i10, not_true_eq_false, not_false_eq_true, Bool.false_eq_true, and_self, and_true, true_and, eq_self, qI_81_0, qI_81_2, qI_81_3, qI_81_9, qI_81_10, qI_81_11, qI_81_12, qI_81_13, qI_81_18, qI_81_19, qI_81_20, qI_81_21, qI_81_29, qI_81_30, qI_81_31, qI_81_32, qI_81_33, qI_81_34, qI_81_35, qI_81_39, qI_81_40, qI_81_41, qI_81_42, qI_81_43, qI_81_44, qI_81_45, qI_81_46, qI_81_47, qI_81_51, qI_81_53, qR_81_1, qRd_81_1, qR_81_4, qRd_81_4, qR_81_5, qRd_81_5, qR_81_6, qRd_81_6, qR_81_7, qRd_81_7, qR_81_8, qRd_81_8, qR_81_14, qRd_81_14, qR_81_15, qRd_81_15, qR_81_16, qRd_81_16, qR_81_17, qRd_81_17, qR_81_22, qRd_81_22, qR_81_23, qRd_81_23, qR_81_24, qRd_81_24, qR_81_25, qRd_81_25, qR_81_26, qRd_81_26, qR_81_27, qRd_81_27, qR_81_28, qRd_81_28, qR_81_36, qRd_81_36, qR_81_37, qRd_81_37, qR_81_38, qRd_81_38, qR_81_48, qRd_81_48, qR_81_49, qRd_81_49, qR_81_50, qRd_81_50, qR_81_52, qRd_81_52, qR_81_54, qRd_81_54, qR_81_55, qRd_81_55, qR_81_56, qRd_81_56, qR_81_57, qRd_81_57, qR_81_58, qRd_81_58, qA_88, qAd_88, qA_89, qAd_89, qA_90, qAd_90, qO_81, qL_88, qLd_88, qL_89, qLd_89, qL_90, qLd_90, q2, q3, h1, nI_pred, nI_1, up2_e, Nat.reduceEqDiff, false_and, and_false, if_false, c0, i1, e_place hv, plc_o (show ¬ 81 = 84 by decide) (show ¬ 81 = 87 by decide)]
    · rw [plc_o (by decide) (by decide), up2_k (by decide), up2_s]
    · rw [plc_o (by decide) (by decide), up2_s]
    · rw [plc_o (by decide) (by decide), plc_o (by decide) (by decide), up2_a (by decide), up2_a (by decide), up2_a (by decide), up2_a (by decide)]
      exact q4 i (by omega)
theorem hand_redo : ctrT ivG JB X et h4 := by
  intro d av mu la ro hd ha hg hr hj
  have := ap1 ha
  subst this
  obtain ⟨d, rfl⟩ : ∃ e, d = e + 4 := ⟨d - 4, by have : 4 ≤ d := hd; omega⟩
  show Fin X (d + 4) MRm_redo 0 [.ref 81] [] mu la ro et _
  obtain ⟨D, U, q1, q2, q3, q4⟩ := hj.2.1
  cases U with
  | zero =>
    refine ⟨some (.int (-5)), mu, la, ro, ?_, hg, hr, hj, frm_r _ _ _ _, resT _⟩
    simp only [r_MRm_redo_0, r_MRm_redo_1, r_MRm_redo_4, r_MRm_redo_7, r_MRm_redo_9, r_MRm_redo_10, sL_0, sL_1, sL_2, mk_i, mk_r, mk_f, mk_n, mk_u, mk_l, List.set_cons_succ, List.set_cons_zero, Nat.reduceAdd, ckS_0, ckS_1, ckS_2, ckS_3, ckS_4, Option.bind_some, Option.isSome_some, psh, if_true, if_false, i10, not_true_eq_false, not_false_eq_true, Bool.false_eq_true, and_self, and_true, true_and, eq_self, qI_81_0, qI_81_2, qI_81_3, qI_81_9, qI_81_10, qI_81_11, qI_81_12, qI_81_13, qI_81_18, qI_81_19, qI_81_20, qI_81_21, qI_81_29, qI_81_30, qI_81_31, qI_81_32, qI_81_33, qI_81_34, qI_81_35, qI_81_39, qI_81_40, qI_81_41, qI_81_42, qI_81_43, qI_81_44, qI_81_45, qI_81_46, qI_81_47, qI_81_51, qI_81_53, qR_81_1, qRd_81_1, qR_81_4, qRd_81_4, qR_81_5, qRd_81_5, qR_81_6, qRd_81_6, qR_81_7, qRd_81_7, qR_81_8, qRd_81_8, qR_81_14, qRd_81_14, qR_81_15, qRd_81_15, qR_81_16, qRd_81_16, qR_81_17, qRd_81_17, qR_81_22, qRd_81_22, qR_81_23, qRd_81_23, qR_81_24, qRd_81_24, qR_81_25, qRd_81_25, qR_81_26, qRd_81_26, qR_81_27, qRd_81_27, qR_81_28, qRd_81_28, qR_81_36, qRd_81_36, qR_81_37, qRd_81_37, qR_81_38, qRd_81_38, qR_81_48, qRd_81_48, qR_81_49, qRd_81_49, qR_81_50, qRd_81_50, qR_81_52, qRd_81_52, qR_81_54, qRd_81_54, qR_81_55, qRd_81_55, qR_81_56, qRd_81_56, qR_81_57, qRd_81_57, qR_81_58, qRd_81_58, qO_81, q3, nI_0]
  | succ U =>
    have h1 : ¬ nI (U + 1) = 0 := nI_ne0 (by omega) (by omega)
    have c0 : (nI D).toNatClampNeg = D := nI_clamp (by omega)
    have i1 : ¬ (nI D < 0 ∨ 40 ≤ D) := by have := nI_in (c := D) (N := 40) (by omega) (by decide); rwa [c0] at this
    have hv : vOk (mu 88 D) (mu 89 D) := q4 D (by omega)
    have f : frm wCh mu la ro (up2 (up2 (plc mu (mu 88 D) (mu 89 D) (mu 91 D)) 81 12 (nI (D + 1))) 81 13 (nI U)) la ro := frm_t (frm_t frm_plc (frm_up (.inr (by decide)))) (frm_up (.inr (by decide)))
    refine ⟨some (.int (nI U)), up2 (up2 (plc mu (mu 88 D) (mu 89 D) (mu 91 D)) 81 12 (nI (D + 1))) 81 13 (nI U), la, ro, ?_, gOk_f (gOk_f (gOk_plc hg) (top_ok _)) (top_ok _), hr, JB_ch hj f ⟨D + 1, U, by omega, ?_, ?_, fun i hi => ?_⟩, f, resT _⟩
    · simp only [r_MRm_redo_0, r_MRm_redo_1, r_MRm_redo_4, r_MRm_redo_7, r_MRm_redo_9, r_MRm_redo_10, r_MRm_redo_11, r_MRm_redo_12, r_MRm_redo_15, r_MRm_redo_16, r_MRm_redo_19, r_MRm_redo_20, r_MRm_redo_21, r_MRm_redo_24, r_MRm_redo_25, r_MRm_redo_28, r_MRm_redo_29, r_MRm_redo_30, r_MRm_redo_33, r_MRm_redo_34, r_MRm_redo_37, r_MRm_redo_38, r_MRm_redo_41, r_MRm_redo_42, r_MRm_redo_42i, r_MRm_redo_43, r_MRm_redo_46, r_MRm_redo_47, r_MRm_redo_48, r_MRm_redo_51, r_MRm_redo_52, r_MRm_redo_52i, r_MRm_redo_53, r_MRm_redo_56, r_MRm_redo_57, r_MRm_redo_58, r_MRm_redo_61, r_MRm_redo_62, r_MRm_redo_65, sL_0, sL_1, sL_2, mk_i, mk_r, mk_f, mk_n, mk_u, mk_l, List.set_cons_succ, List.set_cons_zero, Nat.reduceAdd, ckS_0, ckS_1, ckS_2, ckS_3, ckS_4, Option.bind_some, Option.isSome_some, psh, if_true, if_false, i10, not_true_eq_false, not_false_eq_true, Bool.false_eq_true, and_self, and_true, true_and, eq_self, qI_81_0, qI_81_2, qI_81_3, qI_81_9, qI_81_10, qI_81_11, qI_81_12, qI_81_13, qI_81_18, qI_81_19, qI_81_20, qI_81_21, qI_81_29, qI_81_30, qI_81_31, qI_81_32, qI_81_33, qI_81_34, qI_81_35, qI_81_39, qI_81_40, qI_81_41, qI_81_42, qI_81_43, qI_81_44, qI_81_45, qI_81_46, qI_81_47, qI_81_51, qI_81_53, qR_81_1, qRd_81_1, qR_81_4, qRd_81_4, qR_81_5, qRd_81_5, qR_81_6, qRd_81_6, qR_81_7, qRd_81_7, qR_81_8, qRd_81_8, qR_81_14, qRd_81_14, qR_81_15, qRd_81_15, qR_81_16, qRd_81_16, qR_81_17, qRd_81_17, qR_81_22, qRd_81_22, qR_81_23, qRd_81_23, qR_81_24, qRd_81_24, qR_81_25, qRd_81_25, qR_81_26, qRd_81_26, qR_81_27, qRd_81_27, qR_81_28, qRd_81_28, qR_81_36, qRd_81_36, qR_81_37, qRd_81_37, qR_81_38, qRd_81_38, qR_81_48, qRd_81_48, qR_81_49, qRd_81_49, qR_81_50, qRd_81_50, qR_81_52, qRd_81_52, qR_81_54, qRd_81_54, qR_81_55, qRd_81_55, qR_81_56, qRd_81_56, qR_81_57, qRd_81_57, qR_81_58, qRd_81_58, qA_88, qAd_88, qA_89, qAd_89, qA_91, qAd_91, qO_81, qL_88, qLd_88, qL_89, qLd_89, qL_91, qLd_91, q2, q3, h1, nI_pred, nI_1, up2_e, Nat.reduceEqDiff, false_and, and_false, if_false, c0, i1, e_place hv, plc_o (show ¬ 81 = 84 by decide) (show ¬ 81 = 87 by decide)]
    · rw [up2_k (by decide), up2_s]
    · rw [up2_s]
    · rw [up2_a (by decide), up2_a (by decide), up2_a (by decide), up2_a (by decide), plc_o (by decide) (by decide), plc_o (by decide) (by decide)]
      exact q4 i (by omega)
theorem e_isStone {s : Int32} : Rr X (d + 1) MRm_isStone 0 [.ref 81, .int s] [] (Wd mu la ro et) = some (some (.int (if 0 ≤ s ∧ s ≤ mu 81 3 - 1 then 1 else 0)), Wd mu la ro et) := by
  by_cases c : 0 ≤ s ∧ s ≤ mu 81 3 - 1
  · simp [r_MRm_isStone_0, r_MRm_isStone_1, r_MRm_isStone_2, r_MRm_isStone_3, r_MRm_isStone_6, r_MRm_isStone_7, r_MRm_isStone_8, r_MRm_isStone_11, sL_0, sL_1, sL_2, mk_i, mk_r, mk_f, mk_n, mk_u, mk_l, List.set_cons_succ, List.set_cons_zero, Nat.reduceAdd, ckS_0, ckS_1, ckS_2, ckS_3, ckS_4, Option.bind_some, Option.isSome_some, psh, if_true, if_false, qI_81_0, qI_81_2, qI_81_3, qI_81_9, qI_81_10, qI_81_11, qI_81_12, qI_81_13, qI_81_18, qI_81_19, qI_81_20, qI_81_21, qI_81_29, qI_81_30, qI_81_31, qI_81_32, qI_81_33, qI_81_34, qI_81_35, qI_81_39, qI_81_40, qI_81_41, qI_81_42, qI_81_43, qI_81_44, qI_81_45, qI_81_46, qI_81_47, qI_81_51, qI_81_53, qR_81_1, qRd_81_1, qR_81_4, qRd_81_4, qR_81_5, qRd_81_5, qR_81_6, qRd_81_6, qR_81_7, qRd_81_7, qR_81_8, qRd_81_8, qR_81_14, qRd_81_14, qR_81_15, qRd_81_15, qR_81_16, qRd_81_16, qR_81_17, qRd_81_17, qR_81_22, qRd_81_22, qR_81_23, qRd_81_23, qR_81_24, qRd_81_24, qR_81_25, qRd_81_25, qR_81_26, qRd_81_26, qR_81_27, qRd_81_27, qR_81_28, qRd_81_28, qR_81_36, qRd_81_36, qR_81_37, qRd_81_37, qR_81_38, qRd_81_38, qR_81_48, qRd_81_48, qR_81_49, qRd_81_49, qR_81_50, qRd_81_50, qR_81_52, qRd_81_52, qR_81_54, qRd_81_54, qR_81_55, qRd_81_55, qR_81_56, qRd_81_56, qR_81_57, qRd_81_57, qR_81_58, qRd_81_58, qO_81, e_in, c]
  · simp [r_MRm_isStone_0, r_MRm_isStone_1, r_MRm_isStone_2, r_MRm_isStone_3, r_MRm_isStone_6, r_MRm_isStone_7, r_MRm_isStone_8, r_MRm_isStone_11, sL_0, sL_1, sL_2, mk_i, mk_r, mk_f, mk_n, mk_u, mk_l, List.set_cons_succ, List.set_cons_zero, Nat.reduceAdd, ckS_0, ckS_1, ckS_2, ckS_3, ckS_4, Option.bind_some, Option.isSome_some, psh, if_true, if_false, qI_81_0, qI_81_2, qI_81_3, qI_81_9, qI_81_10, qI_81_11, qI_81_12, qI_81_13, qI_81_18, qI_81_19, qI_81_20, qI_81_21, qI_81_29, qI_81_30, qI_81_31, qI_81_32, qI_81_33, qI_81_34, qI_81_35, qI_81_39, qI_81_40, qI_81_41, qI_81_42, qI_81_43, qI_81_44, qI_81_45, qI_81_46, qI_81_47, qI_81_51, qI_81_53, qR_81_1, qRd_81_1, qR_81_4, qRd_81_4, qR_81_5, qRd_81_5, qR_81_6, qRd_81_6, qR_81_7, qRd_81_7, qR_81_8, qRd_81_8, qR_81_14, qRd_81_14, qR_81_15, qRd_81_15, qR_81_16, qRd_81_16, qR_81_17, qRd_81_17, qR_81_22, qRd_81_22, qR_81_23, qRd_81_23, qR_81_24, qRd_81_24, qR_81_25, qRd_81_25, qR_81_26, qRd_81_26, qR_81_27, qRd_81_27, qR_81_28, qRd_81_28, qR_81_36, qRd_81_36, qR_81_37, qRd_81_37, qR_81_38, qRd_81_38, qR_81_48, qRd_81_48, qR_81_49, qRd_81_49, qR_81_50, qRd_81_50, qR_81_52, qRd_81_52, qR_81_54, qRd_81_54, qR_81_55, qRd_81_55, qR_81_56, qRd_81_56, qR_81_57, qRd_81_57, qR_81_58, qRd_81_58, qO_81, e_in, c]
noncomputable def setK (mu : Mu) (s w v : Int32) : Option (Int32 × Int32) :=
  if 0 ≤ s ∧ s ≤ mu 81 3 - 1 then
    if 6 ≤ w ∧ w ≤ 9 then (if 0 ≤ v ∧ v ≤ (if 8 ≤ w then 100 else 999) then some (0, 4 * s + w - 6) else none)
    else if (10 ≤ w ∧ w ≤ 9 + mu 83 s.toNatClampNeg) ∧ (1 ≤ v ∧ v ≤ 9) then some (1, 12 * s + w - 10) else none
  else none
theorem g_stone (hg : gOk ivG mu) {s : Int32} (h : 0 ≤ s ∧ s ≤ mu 81 3 - 1) : ∃ S, S < 6 ∧ s = nI S := by
  have b : (0 : Int) ≤ (mu 81 3).toInt ∧ (mu 81 3).toInt ≤ 6 := (hg 81 3).2
  have e1 : (mu 81 3 - 1).toInt = (mu 81 3).toInt - 1 := by
    rw [Int32.toInt_sub, show (1 : Int32).toInt = 1 from rfl]
    exact Int.bmod_eq_of_le (by omega) (by omega)
  have h1 := h.1
  have h2 := h.2
  rw [Int32.le_iff_toInt_le] at h1 h2
  rw [show (0 : Int32).toInt = 0 from rfl] at h1
  refine ⟨s.toInt.toNat, by omega, Int32.toInt_inj.mp ?_⟩
  rw [nI_toInt (by omega)]
  omega
theorem g_lumps {S : Nat} (hg : gOk ivG mu) : ∃ z, z ≤ 12 ∧ mu 83 S = nI z := by
  have h : (0 : Int) ≤ (mu 83 S).toInt ∧ (mu 83 S).toInt ≤ 12 := (hg 83 S).1
  refine ⟨(mu 83 S).toInt.toNat, by omega, Int32.toInt_inj.mp ?_⟩
  rw [nI_toInt (by omega)]
  omega
theorem i_between {w : Int32} {a b : Nat} (hab : a ≤ b) (hb : b < 2 ^ 31) (h1 : nI a ≤ w) (h2 : w ≤ nI b) : ∃ W, a ≤ W ∧ W ≤ b ∧ w = nI W := by
  rw [Int32.le_iff_toInt_le, nI_toInt hb] at h2
  rw [Int32.le_iff_toInt_le, nI_toInt (by omega)] at h1
  refine ⟨w.toInt.toNat, by omega, by omega, Int32.toInt_inj.mp ?_⟩
  rw [nI_toInt (by omega)]
  omega
theorem setK_ok (hg : gOk ivG mu) {s w v of at' : Int32} (h : setK mu s w v = some (of, at')) : vOk of at' := by
  unfold setK at h
  split at h
  · rename_i c1
    obtain ⟨S, hS, rfl⟩ := g_stone hg c1
    split at h
    · rename_i c2
      obtain ⟨W, w1, w2, rfl⟩ := i_between (a := 6) (b := 9) (by omega) (by omega) c2.1 c2.2
      by_cases c3 : 0 ≤ v ∧ v ≤ (if 8 ≤ nI W then (100 : Int32) else 999)
      · rw [if_pos c3] at h
        cases h
        refine .inl ⟨rfl, 4 * S + W - 6, by omega, ?_⟩
        rw [show (4 : Int32) * nI S = nI (4 * S) from (Int32.ofNat_mul 4 S).symm, nI_add]
        exact pk_sub (a := 4 * S + W) (b := 6) (by omega)
      · rw [if_neg c3] at h
        cases h
    · split at h
      · rename_i c3
        cases h
        obtain ⟨z, hz, ez⟩ := g_lumps (S := S) hg
        have c4 := c3.1
        rw [nI_clamp (by omega), ez, show (9 : Int32) + nI z = nI (9 + z) from nI_add 9 z] at c4
        have c5 : 10 ≤ 9 + z := by
          have e : nI 10 ≤ nI (9 + z) := Int32.le_trans c4.1 c4.2
          exact (nI_leI (by omega) (by omega)).mp e
        obtain ⟨W, w1, w2, rfl⟩ := i_between (a := 10) (b := 9 + z) (by omega) (by omega) c4.1 c4.2
        refine .inr ⟨by decide, 12 * S + W - 10, by omega, ?_⟩
        rw [show (12 : Int32) * nI S = nI (12 * S) from (Int32.ofNat_mul 12 S).symm, nI_add]
        exact pk_sub (a := 12 * S + W) (b := 10) (by omega)
      · cases h
  · cases h
noncomputable def setR (mu : Mu) (s w v : Int32) : Int32 := match setK mu s w v with
  | some (of, at') => vAt mu of at'
  | none => -1
noncomputable def setF (mu : Mu) (s w v : Int32) : Mu := match setK mu s w v with
  | some (of, at') => chgF mu of at' v
  | none => mu
theorem e_set (hg : gOk ivG mu) (hj : JCh mu) {s w v : Int32} : Rr X (d + 3) MRm_set 0 [.ref 81, .int s, .int w, .int v] [] (Wd mu la ro et) = some (some (.int (setR mu s w v)), Wd (setF mu s w v) la ro et) := by
  obtain ⟨D, U, q1, q2, q3, q4⟩ := hj
  unfold setR setF
  by_cases c1 : 0 ≤ s ∧ s ≤ mu 81 3 - 1
  · obtain ⟨S, hS, rfl⟩ := g_stone hg c1
    by_cases c2 : 6 ≤ w ∧ w ≤ 9
    · by_cases c3 : 0 ≤ v ∧ v ≤ (if 8 ≤ w then (100 : Int32) else 999)
      · have k : setK mu (nI S) w v = some (0, 4 * nI S + w - 6) := by unfold setK; rw [if_pos c1, if_pos c2, if_pos c3]
        rw [k]
        by_cases c4 : 8 ≤ w
        · rw [if_pos c4] at c3
          simp only [r_MRm_set_0, r_MRm_set_1, r_MRm_set_2, r_MRm_set_5, r_MRm_set_8, r_MRm_set_9, r_MRm_set_10, r_MRm_set_11, r_MRm_set_13, r_MRm_set_15, r_MRm_set_18, r_MRm_set_21, r_MRm_set_22, r_MRm_set_23, r_MRm_set_24, r_MRm_set_26, r_MRm_set_29, r_MRm_set_32, r_MRm_set_35, r_MRm_set_37, r_MRm_set_40, r_MRm_set_43, r_MRm_set_44, r_MRm_set_45, r_MRm_set_46, r_MRm_set_47, r_MRm_set_48, r_MRm_set_49, r_MRm_set_50, r_MRm_set_52, r_MRm_set_53, r_MRm_set_54, r_MRm_set_57, r_MRm_set_60, r_MRm_set_61, sL_0, sL_1, sL_2, mk_i, mk_r, mk_f, mk_n, mk_u, mk_l, List.set_cons_succ, List.set_cons_zero, Nat.reduceAdd, ckS_0, ckS_1, ckS_2, ckS_3, ckS_4, Option.bind_some, Option.isSome_some, psh, if_true, if_false, i10, not_true_eq_false, not_false_eq_true, Bool.false_eq_true, and_self, and_true, true_and, eq_self, qI_81_0, qI_81_2, qI_81_3, qI_81_9, qI_81_10, qI_81_11, qI_81_12, qI_81_13, qI_81_18, qI_81_19, qI_81_20, qI_81_21, qI_81_29, qI_81_30, qI_81_31, qI_81_32, qI_81_33, qI_81_34, qI_81_35, qI_81_39, qI_81_40, qI_81_41, qI_81_42, qI_81_43, qI_81_44, qI_81_45, qI_81_46, qI_81_47, qI_81_51, qI_81_53, qR_81_1, qRd_81_1, qR_81_4, qRd_81_4, qR_81_5, qRd_81_5, qR_81_6, qRd_81_6, qR_81_7, qRd_81_7, qR_81_8, qRd_81_8, qR_81_14, qRd_81_14, qR_81_15, qRd_81_15, qR_81_16, qRd_81_16, qR_81_17, qRd_81_17, qR_81_22, qRd_81_22, qR_81_23, qRd_81_23, qR_81_24, qRd_81_24, qR_81_25, qRd_81_25, qR_81_26, qRd_81_26, qR_81_27, qRd_81_27, qR_81_28, qRd_81_28, qR_81_36, qRd_81_36, qR_81_37, qRd_81_37, qR_81_38, qRd_81_38, qR_81_48, qRd_81_48, qR_81_49, qRd_81_49, qR_81_50, qRd_81_50, qR_81_52, qRd_81_52, qR_81_54, qRd_81_54, qR_81_55, qRd_81_55, qR_81_56, qRd_81_56, qR_81_57, qRd_81_57, qR_81_58, qRd_81_58, qO_81, e_isStone, e_in, c1, c2, c3, c4, e_changes (setK_ok hg k) q2 (by omega)]
        · rw [if_neg c4] at c3
          simp only [r_MRm_set_0, r_MRm_set_1, r_MRm_set_2, r_MRm_set_5, r_MRm_set_8, r_MRm_set_9, r_MRm_set_10, r_MRm_set_11, r_MRm_set_13, r_MRm_set_15, r_MRm_set_18, r_MRm_set_21, r_MRm_set_22, r_MRm_set_23, r_MRm_set_24, r_MRm_set_26, r_MRm_set_29, r_MRm_set_32, r_MRm_set_35, r_MRm_set_37, r_MRm_set_40, r_MRm_set_43, r_MRm_set_44, r_MRm_set_45, r_MRm_set_46, r_MRm_set_47, r_MRm_set_48, r_MRm_set_49, r_MRm_set_50, r_MRm_set_52, r_MRm_set_53, r_MRm_set_54, r_MRm_set_57, r_MRm_set_60, r_MRm_set_61, sL_0, sL_1, sL_2, mk_i, mk_r, mk_f, mk_n, mk_u, mk_l, List.set_cons_succ, List.set_cons_zero, Nat.reduceAdd, ckS_0, ckS_1, ckS_2, ckS_3, ckS_4, Option.bind_some, Option.isSome_some, psh, if_true, if_false, i10, not_true_eq_false, not_false_eq_true, Bool.false_eq_true, and_self, and_true, true_and, eq_self, qI_81_0, qI_81_2, qI_81_3, qI_81_9, qI_81_10, qI_81_11, qI_81_12, qI_81_13, qI_81_18, qI_81_19, qI_81_20, qI_81_21, qI_81_29, qI_81_30, qI_81_31, qI_81_32, qI_81_33, qI_81_34, qI_81_35, qI_81_39, qI_81_40, qI_81_41, qI_81_42, qI_81_43, qI_81_44, qI_81_45, qI_81_46, qI_81_47, qI_81_51, qI_81_53, qR_81_1, qRd_81_1, qR_81_4, qRd_81_4, qR_81_5, qRd_81_5, qR_81_6, qRd_81_6, qR_81_7, qRd_81_7, qR_81_8, qRd_81_8, qR_81_14, qRd_81_14, qR_81_15, qRd_81_15, qR_81_16, qRd_81_16, qR_81_17, qRd_81_17, qR_81_22, qRd_81_22, qR_81_23, qRd_81_23, qR_81_24, qRd_81_24, qR_81_25, qRd_81_25, qR_81_26, qRd_81_26, qR_81_27, qRd_81_27, qR_81_28, qRd_81_28, qR_81_36, qRd_81_36, qR_81_37, qRd_81_37, qR_81_38, qRd_81_38, qR_81_48, qRd_81_48, qR_81_49, qRd_81_49, qR_81_50, qRd_81_50, qR_81_52, qRd_81_52, qR_81_54, qRd_81_54, qR_81_55, qRd_81_55, qR_81_56, qRd_81_56, qR_81_57, qRd_81_57, qR_81_58, qRd_81_58, qO_81, e_isStone, e_in, c1, c2, c3, c4, e_changes (setK_ok hg k) q2 (by omega)]
      · have k : setK mu (nI S) w v = none := by unfold setK; rw [if_pos c1, if_pos c2, if_neg c3]
        rw [k]
        by_cases c4 : 8 ≤ w
        · rw [if_pos c4] at c3
          simp only [r_MRm_set_0, r_MRm_set_1, r_MRm_set_2, r_MRm_set_5, r_MRm_set_8, r_MRm_set_9, r_MRm_set_10, r_MRm_set_11, r_MRm_set_13, r_MRm_set_15, r_MRm_set_18, r_MRm_set_21, r_MRm_set_22, r_MRm_set_23, r_MRm_set_24, r_MRm_set_26, r_MRm_set_29, r_MRm_set_32, r_MRm_set_35, r_MRm_set_37, r_MRm_set_40, r_MRm_set_43, r_MRm_set_44, r_MRm_set_45, r_MRm_set_46, r_MRm_set_47, r_MRm_set_48, r_MRm_set_49, r_MRm_set_50, r_MRm_set_52, r_MRm_set_53, r_MRm_set_54, r_MRm_set_57, r_MRm_set_60, r_MRm_set_61, sL_0, sL_1, sL_2, mk_i, mk_r, mk_f, mk_n, mk_u, mk_l, List.set_cons_succ, List.set_cons_zero, Nat.reduceAdd, ckS_0, ckS_1, ckS_2, ckS_3, ckS_4, Option.bind_some, Option.isSome_some, psh, if_true, if_false, i10, not_true_eq_false, not_false_eq_true, Bool.false_eq_true, and_self, and_true, true_and, eq_self, qI_81_0, qI_81_2, qI_81_3, qI_81_9, qI_81_10, qI_81_11, qI_81_12, qI_81_13, qI_81_18, qI_81_19, qI_81_20, qI_81_21, qI_81_29, qI_81_30, qI_81_31, qI_81_32, qI_81_33, qI_81_34, qI_81_35, qI_81_39, qI_81_40, qI_81_41, qI_81_42, qI_81_43, qI_81_44, qI_81_45, qI_81_46, qI_81_47, qI_81_51, qI_81_53, qR_81_1, qRd_81_1, qR_81_4, qRd_81_4, qR_81_5, qRd_81_5, qR_81_6, qRd_81_6, qR_81_7, qRd_81_7, qR_81_8, qRd_81_8, qR_81_14, qRd_81_14, qR_81_15, qRd_81_15, qR_81_16, qRd_81_16, qR_81_17, qRd_81_17, qR_81_22, qRd_81_22, qR_81_23, qRd_81_23, qR_81_24, qRd_81_24, qR_81_25, qRd_81_25, qR_81_26, qRd_81_26, qR_81_27, qRd_81_27, qR_81_28, qRd_81_28, qR_81_36, qRd_81_36, qR_81_37, qRd_81_37, qR_81_38, qRd_81_38, qR_81_48, qRd_81_48, qR_81_49, qRd_81_49, qR_81_50, qRd_81_50, qR_81_52, qRd_81_52, qR_81_54, qRd_81_54, qR_81_55, qRd_81_55, qR_81_56, qRd_81_56, qR_81_57, qRd_81_57, qR_81_58, qRd_81_58, qO_81, e_isStone, e_in, c1, c2, c3, c4]
        · rw [if_neg c4] at c3
          simp only [r_MRm_set_0, r_MRm_set_1, r_MRm_set_2, r_MRm_set_5, r_MRm_set_8, r_MRm_set_9, r_MRm_set_10, r_MRm_set_11, r_MRm_set_13, r_MRm_set_15, r_MRm_set_18, r_MRm_set_21, r_MRm_set_22, r_MRm_set_23, r_MRm_set_24, r_MRm_set_26, r_MRm_set_29, r_MRm_set_32, r_MRm_set_35, r_MRm_set_37, r_MRm_set_40, r_MRm_set_43, r_MRm_set_44, r_MRm_set_45, r_MRm_set_46, r_MRm_set_47, r_MRm_set_48, r_MRm_set_49, r_MRm_set_50, r_MRm_set_52, r_MRm_set_53, r_MRm_set_54, r_MRm_set_57, r_MRm_set_60, r_MRm_set_61, sL_0, sL_1, sL_2, mk_i, mk_r, mk_f, mk_n, mk_u, mk_l, List.set_cons_succ, List.set_cons_zero, Nat.reduceAdd, ckS_0, ckS_1, ckS_2, ckS_3, ckS_4, Option.bind_some, Option.isSome_some, psh, if_true, if_false, i10, not_true_eq_false, not_false_eq_true, Bool.false_eq_true, and_self, and_true, true_and, eq_self, qI_81_0, qI_81_2, qI_81_3, qI_81_9, qI_81_10, qI_81_11, qI_81_12, qI_81_13, qI_81_18, qI_81_19, qI_81_20, qI_81_21, qI_81_29, qI_81_30, qI_81_31, qI_81_32, qI_81_33, qI_81_34, qI_81_35, qI_81_39, qI_81_40, qI_81_41, qI_81_42, qI_81_43, qI_81_44, qI_81_45, qI_81_46, qI_81_47, qI_81_51, qI_81_53, qR_81_1, qRd_81_1, qR_81_4, qRd_81_4, qR_81_5, qRd_81_5, qR_81_6, qRd_81_6, qR_81_7, qRd_81_7, qR_81_8, qRd_81_8, qR_81_14, qRd_81_14, qR_81_15, qRd_81_15, qR_81_16, qRd_81_16, qR_81_17, qRd_81_17, qR_81_22, qRd_81_22, qR_81_23, qRd_81_23, qR_81_24, qRd_81_24, qR_81_25, qRd_81_25, qR_81_26, qRd_81_26, qR_81_27, qRd_81_27, qR_81_28, qRd_81_28, qR_81_36, qRd_81_36, qR_81_37, qRd_81_37, qR_81_38, qRd_81_38, qR_81_48, qRd_81_48, qR_81_49, qRd_81_49, qR_81_50, qRd_81_50, qR_81_52, qRd_81_52, qR_81_54, qRd_81_54, qR_81_55, qRd_81_55, qR_81_56, qRd_81_56, qR_81_57, qRd_81_57, qR_81_58, qRd_81_58, qO_81, e_isStone, e_in, c1, c2, c3, c4]
    · have cS : (nI S).toNatClampNeg = S := nI_clamp (by omega)
      have iS : ¬ (nI S < 0 ∨ 7 ≤ S) := by have := nI_in (c := S) (N := 7) (by omega) (by decide); rwa [cS] at this
      obtain ⟨z, hz, ez⟩ := g_lumps (S := S) hg
      by_cases c3 : 10 ≤ w ∧ w ≤ 9 + mu 83 S
      · by_cases c4 : 1 ≤ v ∧ v ≤ 9
        · have k : setK mu (nI S) w v = some (1, 12 * nI S + w - 10) := by unfold setK; rw [if_pos c1, if_neg c2, if_pos ⟨by rw [cS]; exact c3, c4⟩]
          rw [k]
          simp only [r_MRm_set_0, r_MRm_set_1, r_MRm_set_2, r_MRm_set_5, r_MRm_set_8, r_MRm_set_9, r_MRm_set_10, r_MRm_set_11, r_MRm_set_13, r_MRm_set_15, r_MRm_set_18, r_MRm_set_21, r_MRm_set_22, r_MRm_set_23, r_MRm_set_24, r_MRm_set_26, r_MRm_set_29, r_MRm_set_32, r_MRm_set_35, r_MRm_set_37, r_MRm_set_40, r_MRm_set_43, r_MRm_set_44, r_MRm_set_45, r_MRm_set_46, r_MRm_set_47, r_MRm_set_48, r_MRm_set_49, r_MRm_set_50, r_MRm_set_52, r_MRm_set_53, r_MRm_set_54, r_MRm_set_57, r_MRm_set_60, r_MRm_set_61, r_MRm_set_62, r_MRm_set_63, r_MRm_set_65, r_MRm_set_67, r_MRm_set_68, r_MRm_set_71, r_MRm_set_72, r_MRm_set_73, r_MRm_set_74, r_MRm_set_77, r_MRm_set_80, r_MRm_set_81, r_MRm_set_82, r_MRm_set_84, r_MRm_set_87, r_MRm_set_90, r_MRm_set_91, r_MRm_set_92, r_MRm_set_94, r_MRm_set_95, r_MRm_set_96, r_MRm_set_97, r_MRm_set_98, r_MRm_set_100, r_MRm_set_101, r_MRm_set_102, r_MRm_set_105, r_MRm_set_108, r_MRm_set_109, sL_0, sL_1, sL_2, mk_i, mk_r, mk_f, mk_n, mk_u, mk_l, List.set_cons_succ, List.set_cons_zero, Nat.reduceAdd, ckS_0, ckS_1, ckS_2, ckS_3, ckS_4, Option.bind_some, Option.isSome_some, psh, if_true, if_false, i10, not_true_eq_false, not_false_eq_true, Bool.false_eq_true, and_self, and_true, true_and, eq_self, qI_81_0, qI_81_2, qI_81_3, qI_81_9, qI_81_10, qI_81_11, qI_81_12, qI_81_13, qI_81_18, qI_81_19, qI_81_20, qI_81_21, qI_81_29, qI_81_30, qI_81_31, qI_81_32, qI_81_33, qI_81_34, qI_81_35, qI_81_39, qI_81_40, qI_81_41, qI_81_42, qI_81_43, qI_81_44, qI_81_45, qI_81_46, qI_81_47, qI_81_51, qI_81_53, qR_81_1, qRd_81_1, qR_81_4, qRd_81_4, qR_81_5, qRd_81_5, qR_81_6, qRd_81_6, qR_81_7, qRd_81_7, qR_81_8, qRd_81_8, qR_81_14, qRd_81_14, qR_81_15, qRd_81_15, qR_81_16, qRd_81_16, qR_81_17, qRd_81_17, qR_81_22, qRd_81_22, qR_81_23, qRd_81_23, qR_81_24, qRd_81_24, qR_81_25, qRd_81_25, qR_81_26, qRd_81_26, qR_81_27, qRd_81_27, qR_81_28, qRd_81_28, qR_81_36, qRd_81_36, qR_81_37, qRd_81_37, qR_81_38, qRd_81_38, qR_81_48, qRd_81_48, qR_81_49, qRd_81_49, qR_81_50, qRd_81_50, qR_81_52, qRd_81_52, qR_81_54, qRd_81_54, qR_81_55, qRd_81_55, qR_81_56, qRd_81_56, qR_81_57, qRd_81_57, qR_81_58, qRd_81_58, qA_83, qAd_83, qO_81, qL_83, qLd_83, e_isStone, e_in, c1, c2, cS, iS, c3, c4, e_changes (setK_ok hg k) q2 (by omega)]
        · have k : setK mu (nI S) w v = none := by unfold setK; rw [if_pos c1, if_neg c2, if_neg (fun q => c4 q.2)]
          rw [k]
          simp only [r_MRm_set_0, r_MRm_set_1, r_MRm_set_2, r_MRm_set_5, r_MRm_set_8, r_MRm_set_9, r_MRm_set_10, r_MRm_set_11, r_MRm_set_13, r_MRm_set_15, r_MRm_set_18, r_MRm_set_21, r_MRm_set_22, r_MRm_set_23, r_MRm_set_24, r_MRm_set_26, r_MRm_set_29, r_MRm_set_32, r_MRm_set_35, r_MRm_set_37, r_MRm_set_40, r_MRm_set_43, r_MRm_set_44, r_MRm_set_45, r_MRm_set_46, r_MRm_set_47, r_MRm_set_48, r_MRm_set_49, r_MRm_set_50, r_MRm_set_52, r_MRm_set_53, r_MRm_set_54, r_MRm_set_57, r_MRm_set_60, r_MRm_set_61, r_MRm_set_62, r_MRm_set_63, r_MRm_set_65, r_MRm_set_67, r_MRm_set_68, r_MRm_set_71, r_MRm_set_72, r_MRm_set_73, r_MRm_set_74, r_MRm_set_77, r_MRm_set_80, r_MRm_set_81, r_MRm_set_82, r_MRm_set_84, r_MRm_set_87, r_MRm_set_90, r_MRm_set_91, r_MRm_set_92, r_MRm_set_94, r_MRm_set_95, r_MRm_set_96, r_MRm_set_97, r_MRm_set_98, r_MRm_set_100, r_MRm_set_101, r_MRm_set_102, r_MRm_set_105, r_MRm_set_108, r_MRm_set_109, sL_0, sL_1, sL_2, mk_i, mk_r, mk_f, mk_n, mk_u, mk_l, List.set_cons_succ, List.set_cons_zero, Nat.reduceAdd, ckS_0, ckS_1, ckS_2, ckS_3, ckS_4, Option.bind_some, Option.isSome_some, psh, if_true, if_false, i10, not_true_eq_false, not_false_eq_true, Bool.false_eq_true, and_self, and_true, true_and, eq_self, qI_81_0, qI_81_2, qI_81_3, qI_81_9, qI_81_10, qI_81_11, qI_81_12, qI_81_13, qI_81_18, qI_81_19, qI_81_20, qI_81_21, qI_81_29, qI_81_30, qI_81_31, qI_81_32, qI_81_33, qI_81_34, qI_81_35, qI_81_39, qI_81_40, qI_81_41, qI_81_42, qI_81_43, qI_81_44, qI_81_45, qI_81_46, qI_81_47, qI_81_51, qI_81_53, qR_81_1, qRd_81_1, qR_81_4, qRd_81_4, qR_81_5, qRd_81_5, qR_81_6, qRd_81_6, qR_81_7, qRd_81_7, qR_81_8, qRd_81_8, qR_81_14, qRd_81_14, qR_81_15, qRd_81_15, qR_81_16, qRd_81_16, qR_81_17, qRd_81_17, qR_81_22, qRd_81_22, qR_81_23, qRd_81_23, qR_81_24, qRd_81_24, qR_81_25, qRd_81_25, qR_81_26, qRd_81_26, qR_81_27, qRd_81_27, qR_81_28, qRd_81_28, qR_81_36, qRd_81_36, qR_81_37, qRd_81_37, qR_81_38, qRd_81_38, qR_81_48, qRd_81_48, qR_81_49, qRd_81_49, qR_81_50, qRd_81_50, qR_81_52, qRd_81_52, qR_81_54, qRd_81_54, qR_81_55, qRd_81_55, qR_81_56, qRd_81_56, qR_81_57, qRd_81_57, qR_81_58, qRd_81_58, qA_83, qAd_83, qO_81, qL_83, qLd_83, e_isStone, e_in, c1, c2, cS, iS, c3, c4]
      · have k : setK mu (nI S) w v = none := by unfold setK; rw [if_pos c1, if_neg c2, if_neg (fun q => c3 (by have := q.1; rwa [cS] at this))]
        rw [k]
        simp only [r_MRm_set_0, r_MRm_set_1, r_MRm_set_2, r_MRm_set_5, r_MRm_set_8, r_MRm_set_9, r_MRm_set_10, r_MRm_set_11, r_MRm_set_13, r_MRm_set_15, r_MRm_set_18, r_MRm_set_21, r_MRm_set_22, r_MRm_set_23, r_MRm_set_24, r_MRm_set_26, r_MRm_set_29, r_MRm_set_32, r_MRm_set_35, r_MRm_set_37, r_MRm_set_40, r_MRm_set_43, r_MRm_set_44, r_MRm_set_45, r_MRm_set_46, r_MRm_set_47, r_MRm_set_48, r_MRm_set_49, r_MRm_set_50, r_MRm_set_52, r_MRm_set_53, r_MRm_set_54, r_MRm_set_57, r_MRm_set_60, r_MRm_set_61, r_MRm_set_62, r_MRm_set_63, r_MRm_set_65, r_MRm_set_67, r_MRm_set_68, r_MRm_set_71, r_MRm_set_72, r_MRm_set_73, r_MRm_set_74, r_MRm_set_77, r_MRm_set_80, r_MRm_set_81, r_MRm_set_82, r_MRm_set_84, r_MRm_set_87, r_MRm_set_90, r_MRm_set_91, r_MRm_set_92, r_MRm_set_94, r_MRm_set_95, r_MRm_set_96, r_MRm_set_97, r_MRm_set_98, r_MRm_set_100, r_MRm_set_101, r_MRm_set_102, r_MRm_set_105, r_MRm_set_108, r_MRm_set_109, sL_0, sL_1, sL_2, mk_i, mk_r, mk_f, mk_n, mk_u, mk_l, List.set_cons_succ, List.set_cons_zero, Nat.reduceAdd, ckS_0, ckS_1, ckS_2, ckS_3, ckS_4, Option.bind_some, Option.isSome_some, psh, if_true, if_false, i10, not_true_eq_false, not_false_eq_true, Bool.false_eq_true, and_self, and_true, true_and, eq_self, qI_81_0, qI_81_2, qI_81_3, qI_81_9, qI_81_10, qI_81_11, qI_81_12, qI_81_13, qI_81_18, qI_81_19, qI_81_20, qI_81_21, qI_81_29, qI_81_30, qI_81_31, qI_81_32, qI_81_33, qI_81_34, qI_81_35, qI_81_39, qI_81_40, qI_81_41, qI_81_42, qI_81_43, qI_81_44, qI_81_45, qI_81_46, qI_81_47, qI_81_51, qI_81_53, qR_81_1, qRd_81_1, qR_81_4, qRd_81_4, qR_81_5, qRd_81_5, qR_81_6, qRd_81_6, qR_81_7, qRd_81_7, qR_81_8, qRd_81_8, qR_81_14, qRd_81_14, qR_81_15, qRd_81_15, qR_81_16, qRd_81_16, qR_81_17, qRd_81_17, qR_81_22, qRd_81_22, qR_81_23, qRd_81_23, qR_81_24, qRd_81_24, qR_81_25, qRd_81_25, qR_81_26, qRd_81_26, qR_81_27, qRd_81_27, qR_81_28, qRd_81_28, qR_81_36, qRd_81_36, qR_81_37, qRd_81_37, qR_81_38, qRd_81_38, qR_81_48, qRd_81_48, qR_81_49, qRd_81_49, qR_81_50, qRd_81_50, qR_81_52, qRd_81_52, qR_81_54, qRd_81_54, qR_81_55, qRd_81_55, qR_81_56, qRd_81_56, qR_81_57, qRd_81_57, qR_81_58, qRd_81_58, qA_83, qAd_83, qO_81, qL_83, qLd_83, e_isStone, e_in, c1, c2, cS, iS, c3]
  · have k : setK mu s w v = none := by unfold setK; rw [if_neg c1]
    rw [k]
    simp only [r_MRm_set_0, r_MRm_set_1, r_MRm_set_2, r_MRm_set_5, r_MRm_set_8, r_MRm_set_9, r_MRm_set_10, sL_0, sL_1, sL_2, mk_i, mk_r, mk_f, mk_n, mk_u, mk_l, List.set_cons_succ, List.set_cons_zero, Nat.reduceAdd, ckS_0, ckS_1, ckS_2, ckS_3, ckS_4, Option.bind_some, Option.isSome_some, psh, if_true, if_false, i10, not_true_eq_false, not_false_eq_true, Bool.false_eq_true, and_self, and_true, true_and, eq_self, qI_81_0, qI_81_2, qI_81_3, qI_81_9, qI_81_10, qI_81_11, qI_81_12, qI_81_13, qI_81_18, qI_81_19, qI_81_20, qI_81_21, qI_81_29, qI_81_30, qI_81_31, qI_81_32, qI_81_33, qI_81_34, qI_81_35, qI_81_39, qI_81_40, qI_81_41, qI_81_42, qI_81_43, qI_81_44, qI_81_45, qI_81_46, qI_81_47, qI_81_51, qI_81_53, qR_81_1, qRd_81_1, qR_81_4, qRd_81_4, qR_81_5, qRd_81_5, qR_81_6, qRd_81_6, qR_81_7, qRd_81_7, qR_81_8, qRd_81_8, qR_81_14, qRd_81_14, qR_81_15, qRd_81_15, qR_81_16, qRd_81_16, qR_81_17, qRd_81_17, qR_81_22, qRd_81_22, qR_81_23, qRd_81_23, qR_81_24, qRd_81_24, qR_81_25, qRd_81_25, qR_81_26, qRd_81_26, qR_81_27, qRd_81_27, qR_81_28, qRd_81_28, qR_81_36, qRd_81_36, qR_81_37, qRd_81_37, qR_81_38, qRd_81_38, qR_81_48, qRd_81_48, qR_81_49, qRd_81_49, qR_81_50, qRd_81_50, qR_81_52, qRd_81_52, qR_81_54, qRd_81_54, qR_81_55, qRd_81_55, qR_81_56, qRd_81_56, qR_81_57, qRd_81_57, qR_81_58, qRd_81_58, qO_81, e_isStone, c1]
theorem hand_set : ctrT ivG JB X et h14 := by
  intro d av mu la ro hd ha hg hr hj
  obtain ⟨s, w, v, rfl⟩ := ap4 ha
  obtain ⟨d, rfl⟩ : ∃ e, d = e + 3 := ⟨d - 3, by have : 6 ≤ d := hd; omega⟩
  show Fin X (d + 3) MRm_set 0 [.ref 81, .int s, .int w, .int v] [] mu la ro et _
  have e := e_set (X := X) (d := d) (la := la) (ro := ro) (et := et) hg hj.2.1 (s := s) (w := w) (v := v)
  have f : frm wCh mu la ro (setF mu s w v) la ro := by
    unfold setF
    split
    · exact frm_chgF
    · exact frm_r _ _ _ _
  refine ⟨_, _, _, _, e, ?_, hr, JB_ch hj f ?_, f, resT _⟩
  · unfold setF
    split
    · exact gOk_chgF hg
    · exact hg
  · unfold setF
    split
    · rename_i k
      exact JCh_chgF hj.2.1 (setK_ok hg k)
    · exact hj.2.1
end
