-- ===== the model reads a stone
/-- lumps and rates of a stone, laid on the model's side -/
noncomputable def lmM (m : Mu) (S L : Nat) (x : Lp) : Mu := up2 (up2 (up2 (up2 m 84 (12 * S + L) x.1) 85 (12 * S + L) x.2.1) 86 (12 * S + L) x.2.2) 83 S (nI (L + 1))
noncomputable def lmsM (m : Mu) (S : Nat) : Nat → List Lp → Mu
  | _, [] => m
  | L, x :: W => lmsM (lmM m S L x) S (L + 1) W
section
variable {X : Tok} {d : Nat} {mu m mu' : Mu} {la la' : La} {ro ro' : Ro} {et : Nat → Option va_E} {s : SS} {c l : Int32} {h : Nat}
theorem nmM_loop {most : Int32} {F : Nat} (hT : tOK m) (hF : F ≤ 120) : ∀ (r n : Nat) (v : Int32) (s : SS), noS s = true → s.1 + r = F + 3 → s.1 ≤ Tt m → Rr X (d + 1) MRm_readNumber 7 [.ref 81, .int most, .int (nI F), .int v] [] (Wd (qm m s) la ro et) = Rr X (d + 1) MRm_readNumber 85 [.ref 81, .int most, .int (nI F), .int (fgL m r s.1 v n).2.1] [] (Wd (qm m ((fgL m r s.1 v n).1, s.2)) la ro et) := by
  have hT2 := Tt_le hT
  have eF : nI F + 3 = nI (F + 3) := nI_add F 3
  have q2 : ∀ s, qm m s 81 2 = nI (Tt m) := fun s => by
    obtain ⟨T, t1, t2⟩ := hT
    rw [qm_81 (by decide) (by decide), t2]
    unfold Tt
    rw [t2, nI_clamp (by omega)]
  have q82 : ∀ s j, qm m s 82 j = m 82 j := fun s j => qm_o (by decide)
  intro r
  induction r with
  | zero =>
    intro n v s c1 hr hs
    have h3 : nI (F + 3) ≤ nI s.1 := nI_le (by omega) (by omega)
    rw [r_MRm_readNumber_7]
    by_cases c2 : s.1 < Tt m
    · have h1 : ¬ nI (Tt m) ≤ nI s.1 := nI_ge c2 (by omega)
      simp only [r_MRm_readNumber_8, r_MRm_readNumber_11, r_MRm_readNumber_14, r_MRm_readNumber_15, r_MRm_readNumber_18, r_MRm_readNumber_19, r_MRm_readNumber_22, r_MRm_readNumber_25, r_MRm_readNumber_26, r_MRm_readNumber_29, r_MRm_readNumber_30, r_MRm_readNumber_31, r_MRm_readNumber_32, sL_0, sL_1, sL_2, mk_i, mk_r, mk_f, mk_n, mk_u, mk_l, List.set_cons_succ, List.set_cons_zero, Nat.reduceAdd, ckS_0, ckS_1, ckS_2, ckS_3, ckS_4, Option.bind_some, Option.isSome_some, psh, if_true, if_false, i10, not_true_eq_false, not_false_eq_true, Bool.false_eq_true, and_self, and_true, true_and, eq_self, qI_81_0, qI_81_2, qI_81_3, qI_81_9, qI_81_10, qI_81_11, qI_81_12, qI_81_13, qI_81_18, qI_81_19, qI_81_20, qI_81_21, qI_81_29, qI_81_30, qI_81_31, qI_81_32, qI_81_33, qI_81_34, qI_81_35, qI_81_39, qI_81_40, qI_81_41, qI_81_42, qI_81_43, qI_81_44, qI_81_45, qI_81_46, qI_81_47, qI_81_51, qI_81_53, qR_81_1, qRd_81_1, qR_81_4, qRd_81_4, qR_81_5, qRd_81_5, qR_81_6, qRd_81_6, qR_81_7, qRd_81_7, qR_81_8, qRd_81_8, qR_81_14, qRd_81_14, qR_81_15, qRd_81_15, qR_81_16, qRd_81_16, qR_81_17, qRd_81_17, qR_81_22, qRd_81_22, qR_81_23, qRd_81_23, qR_81_24, qRd_81_24, qR_81_25, qRd_81_25, qR_81_26, qRd_81_26, qR_81_27, qRd_81_27, qR_81_28, qRd_81_28, qR_81_36, qRd_81_36, qR_81_37, qRd_81_37, qR_81_38, qRd_81_38, qR_81_48, qRd_81_48, qR_81_49, qRd_81_49, qR_81_50, qRd_81_50, qR_81_52, qRd_81_52, qR_81_54, qRd_81_54, qR_81_55, qRd_81_55, qR_81_56, qRd_81_56, qR_81_57, qRd_81_57, qR_81_58, qRd_81_58, qA_82, qAd_82, qO_81, qL_82, qLd_82, qm_19, qm_18, fi0 c1, q2, h1, eF, h3, fgL]
    · have h1 : nI (Tt m) ≤ nI s.1 := nI_le (by omega) (by omega)
      simp only [r_MRm_readNumber_8, r_MRm_readNumber_11, r_MRm_readNumber_14, r_MRm_readNumber_15, r_MRm_readNumber_18, r_MRm_readNumber_19, r_MRm_readNumber_22, r_MRm_readNumber_25, r_MRm_readNumber_26, r_MRm_readNumber_29, r_MRm_readNumber_30, r_MRm_readNumber_31, r_MRm_readNumber_32, sL_0, sL_1, sL_2, mk_i, mk_r, mk_f, mk_n, mk_u, mk_l, List.set_cons_succ, List.set_cons_zero, Nat.reduceAdd, ckS_0, ckS_1, ckS_2, ckS_3, ckS_4, Option.bind_some, Option.isSome_some, psh, if_true, if_false, i10, not_true_eq_false, not_false_eq_true, Bool.false_eq_true, and_self, and_true, true_and, eq_self, qI_81_0, qI_81_2, qI_81_3, qI_81_9, qI_81_10, qI_81_11, qI_81_12, qI_81_13, qI_81_18, qI_81_19, qI_81_20, qI_81_21, qI_81_29, qI_81_30, qI_81_31, qI_81_32, qI_81_33, qI_81_34, qI_81_35, qI_81_39, qI_81_40, qI_81_41, qI_81_42, qI_81_43, qI_81_44, qI_81_45, qI_81_46, qI_81_47, qI_81_51, qI_81_53, qR_81_1, qRd_81_1, qR_81_4, qRd_81_4, qR_81_5, qRd_81_5, qR_81_6, qRd_81_6, qR_81_7, qRd_81_7, qR_81_8, qRd_81_8, qR_81_14, qRd_81_14, qR_81_15, qRd_81_15, qR_81_16, qRd_81_16, qR_81_17, qRd_81_17, qR_81_22, qRd_81_22, qR_81_23, qRd_81_23, qR_81_24, qRd_81_24, qR_81_25, qRd_81_25, qR_81_26, qRd_81_26, qR_81_27, qRd_81_27, qR_81_28, qRd_81_28, qR_81_36, qRd_81_36, qR_81_37, qRd_81_37, qR_81_38, qRd_81_38, qR_81_48, qRd_81_48, qR_81_49, qRd_81_49, qR_81_50, qRd_81_50, qR_81_52, qRd_81_52, qR_81_54, qRd_81_54, qR_81_55, qRd_81_55, qR_81_56, qRd_81_56, qR_81_57, qRd_81_57, qR_81_58, qRd_81_58, qA_82, qAd_82, qO_81, qL_82, qLd_82, qm_19, qm_18, fi0 c1, q2, h1, fgL]
  | succ r ih =>
    intro n v s c1 hr hs
    have h3 : ¬ nI (F + 3) ≤ nI s.1 := nI_ge (by omega) (by omega)
    rw [r_MRm_readNumber_7, fgL]
    by_cases c2 : s.1 < Tt m
    · have h1 : ¬ nI (Tt m) ≤ nI s.1 := nI_ge c2 (by omega)
      have ch : (nI s.1).toNatClampNeg = s.1 := nI_clamp (by omega)
      have ih' := ix (j := s.1) (N := 120) (by omega) (by omega)
      have eb : bt m s.1 = m 82 s.1 := if_pos c2
      by_cases c : isD (bt m s.1) = true
      · rw [if_pos c]
        have nx := ih (n + 1) (10 * v + bt m s.1 - 48) (inS s) c1 (by show s.1 + 1 + r = _; omega) c2
        rw [eb] at c nx ⊢
        simp only [r_MRm_readNumber_8, r_MRm_readNumber_11, r_MRm_readNumber_14, r_MRm_readNumber_15, r_MRm_readNumber_18, r_MRm_readNumber_19, r_MRm_readNumber_22, r_MRm_readNumber_25, r_MRm_readNumber_26, r_MRm_readNumber_29, r_MRm_readNumber_30, r_MRm_readNumber_31, r_MRm_readNumber_32, r_MRm_readNumber_35, r_MRm_readNumber_36, r_MRm_readNumber_39, r_MRm_readNumber_40, r_MRm_readNumber_43, r_MRm_readNumber_44, r_MRm_readNumber_46, r_MRm_readNumber_48, r_MRm_readNumber_51, r_MRm_readNumber_54, r_MRm_readNumber_56, r_MRm_readNumber_57, r_MRm_readNumber_58, r_MRm_readNumber_59, r_MRm_readNumber_62, r_MRm_readNumber_63, r_MRm_readNumber_66, r_MRm_readNumber_67, r_MRm_readNumber_68, r_MRm_readNumber_70, r_MRm_readNumber_71, r_MRm_readNumber_72, r_MRm_readNumber_73, r_MRm_readNumber_73i, r_MRm_readNumber_74, r_MRm_readNumber_77, r_MRm_readNumber_78, r_MRm_readNumber_79, r_MRm_readNumber_82, sL_0, sL_1, sL_2, mk_i, mk_r, mk_f, mk_n, mk_u, mk_l, List.set_cons_succ, List.set_cons_zero, Nat.reduceAdd, ckS_0, ckS_1, ckS_2, ckS_3, ckS_4, Option.bind_some, Option.isSome_some, psh, if_true, if_false, i10, not_true_eq_false, not_false_eq_true, Bool.false_eq_true, and_self, and_true, true_and, eq_self, qI_81_0, qI_81_2, qI_81_3, qI_81_9, qI_81_10, qI_81_11, qI_81_12, qI_81_13, qI_81_18, qI_81_19, qI_81_20, qI_81_21, qI_81_29, qI_81_30, qI_81_31, qI_81_32, qI_81_33, qI_81_34, qI_81_35, qI_81_39, qI_81_40, qI_81_41, qI_81_42, qI_81_43, qI_81_44, qI_81_45, qI_81_46, qI_81_47, qI_81_51, qI_81_53, qR_81_1, qRd_81_1, qR_81_4, qRd_81_4, qR_81_5, qRd_81_5, qR_81_6, qRd_81_6, qR_81_7, qRd_81_7, qR_81_8, qRd_81_8, qR_81_14, qRd_81_14, qR_81_15, qRd_81_15, qR_81_16, qRd_81_16, qR_81_17, qRd_81_17, qR_81_22, qRd_81_22, qR_81_23, qRd_81_23, qR_81_24, qRd_81_24, qR_81_25, qRd_81_25, qR_81_26, qRd_81_26, qR_81_27, qRd_81_27, qR_81_28, qRd_81_28, qR_81_36, qRd_81_36, qR_81_37, qRd_81_37, qR_81_38, qRd_81_38, qR_81_48, qRd_81_48, qR_81_49, qRd_81_49, qR_81_50, qRd_81_50, qR_81_52, qRd_81_52, qR_81_54, qRd_81_54, qR_81_55, qRd_81_55, qR_81_56, qRd_81_56, qR_81_57, qRd_81_57, qR_81_58, qRd_81_58, qA_82, qAd_82, qO_81, qL_82, qLd_82, qm_19, qm_18, fi0 c1, q2, h1, eF, h3, ch, ih', q82, e_inD, c, nI_1, qm_in]
        exact nx
      · rw [if_neg c]
        rw [eb] at c
        simp only [r_MRm_readNumber_8, r_MRm_readNumber_11, r_MRm_readNumber_14, r_MRm_readNumber_15, r_MRm_readNumber_18, r_MRm_readNumber_19, r_MRm_readNumber_22, r_MRm_readNumber_25, r_MRm_readNumber_26, r_MRm_readNumber_29, r_MRm_readNumber_30, r_MRm_readNumber_31, r_MRm_readNumber_32, r_MRm_readNumber_35, r_MRm_readNumber_36, r_MRm_readNumber_39, r_MRm_readNumber_40, r_MRm_readNumber_43, r_MRm_readNumber_44, r_MRm_readNumber_46, r_MRm_readNumber_48, r_MRm_readNumber_51, sL_0, sL_1, sL_2, mk_i, mk_r, mk_f, mk_n, mk_u, mk_l, List.set_cons_succ, List.set_cons_zero, Nat.reduceAdd, ckS_0, ckS_1, ckS_2, ckS_3, ckS_4, Option.bind_some, Option.isSome_some, psh, if_true, if_false, i10, not_true_eq_false, not_false_eq_true, Bool.false_eq_true, and_self, and_true, true_and, eq_self, qI_81_0, qI_81_2, qI_81_3, qI_81_9, qI_81_10, qI_81_11, qI_81_12, qI_81_13, qI_81_18, qI_81_19, qI_81_20, qI_81_21, qI_81_29, qI_81_30, qI_81_31, qI_81_32, qI_81_33, qI_81_34, qI_81_35, qI_81_39, qI_81_40, qI_81_41, qI_81_42, qI_81_43, qI_81_44, qI_81_45, qI_81_46, qI_81_47, qI_81_51, qI_81_53, qR_81_1, qRd_81_1, qR_81_4, qRd_81_4, qR_81_5, qRd_81_5, qR_81_6, qRd_81_6, qR_81_7, qRd_81_7, qR_81_8, qRd_81_8, qR_81_14, qRd_81_14, qR_81_15, qRd_81_15, qR_81_16, qRd_81_16, qR_81_17, qRd_81_17, qR_81_22, qRd_81_22, qR_81_23, qRd_81_23, qR_81_24, qRd_81_24, qR_81_25, qRd_81_25, qR_81_26, qRd_81_26, qR_81_27, qRd_81_27, qR_81_28, qRd_81_28, qR_81_36, qRd_81_36, qR_81_37, qRd_81_37, qR_81_38, qRd_81_38, qR_81_48, qRd_81_48, qR_81_49, qRd_81_49, qR_81_50, qRd_81_50, qR_81_52, qRd_81_52, qR_81_54, qRd_81_54, qR_81_55, qRd_81_55, qR_81_56, qRd_81_56, qR_81_57, qRd_81_57, qR_81_58, qRd_81_58, qA_82, qAd_82, qO_81, qL_82, qLd_82, qm_19, qm_18, fi0 c1, q2, h1, eF, h3, ch, ih', q82, e_inD, c]
    · have h1 : nI (Tt m) ≤ nI s.1 := nI_le (by omega) (by omega)
      have c : ¬ isD (bt m s.1) = true := fun q => c2 (isD_lt q)
      rw [if_neg c]
      simp only [r_MRm_readNumber_8, r_MRm_readNumber_11, r_MRm_readNumber_14, r_MRm_readNumber_15, r_MRm_readNumber_18, r_MRm_readNumber_19, r_MRm_readNumber_22, sL_0, sL_1, sL_2, mk_i, mk_r, mk_f, mk_n, mk_u, mk_l, List.set_cons_succ, List.set_cons_zero, Nat.reduceAdd, ckS_0, ckS_1, ckS_2, ckS_3, ckS_4, Option.bind_some, Option.isSome_some, psh, if_true, if_false, i10, not_true_eq_false, not_false_eq_true, Bool.false_eq_true, and_self, and_true, true_and, eq_self, qI_81_0, qI_81_2, qI_81_3, qI_81_9, qI_81_10, qI_81_11, qI_81_12, qI_81_13, qI_81_18, qI_81_19, qI_81_20, qI_81_21, qI_81_29, qI_81_30, qI_81_31, qI_81_32, qI_81_33, qI_81_34, qI_81_35, qI_81_39, qI_81_40, qI_81_41, qI_81_42, qI_81_43, qI_81_44, qI_81_45, qI_81_46, qI_81_47, qI_81_51, qI_81_53, qR_81_1, qRd_81_1, qR_81_4, qRd_81_4, qR_81_5, qRd_81_5, qR_81_6, qRd_81_6, qR_81_7, qRd_81_7, qR_81_8, qRd_81_8, qR_81_14, qRd_81_14, qR_81_15, qRd_81_15, qR_81_16, qRd_81_16, qR_81_17, qRd_81_17, qR_81_22, qRd_81_22, qR_81_23, qRd_81_23, qR_81_24, qRd_81_24, qR_81_25, qRd_81_25, qR_81_26, qRd_81_26, qR_81_27, qRd_81_27, qR_81_28, qRd_81_28, qR_81_36, qRd_81_36, qR_81_37, qRd_81_37, qR_81_38, qRd_81_38, qR_81_48, qRd_81_48, qR_81_49, qRd_81_49, qR_81_50, qRd_81_50, qR_81_52, qRd_81_52, qR_81_54, qRd_81_54, qR_81_55, qRd_81_55, qR_81_56, qRd_81_56, qR_81_57, qRd_81_57, qR_81_58, qRd_81_58, qA_82, qAd_82, qO_81, qL_82, qLd_82, qm_19, qm_18, fi0 c1, q2, h1]
theorem e_numberM {most : Int32} (hT : tOK m) (hb : fw m s s) : Rr X (d + 1) MRm_readNumber 0 [.ref 81, .int most, mkU, mkU] [] (Wd (qm m s) la ro et) = some (some (.int (nmS m most s).1), Wd (qm m (nmS m most s).2) la ro et) := by
  have hT2 := Tt_le hT
  unfold nmS
  by_cases c1 : noS s = true
  · rw [if_pos c1]
    have lp := nmM_loop (X := X) (d := d) (la := la) (ro := ro) (et := et) (most := most) (F := s.1) hT (by have := hb.2.1; omega) 3 0 0 s c1 rfl hb.2.1
    obtain ⟨a1, a2, a3⟩ := fgL_n (mu := m) 3 s.1 0 0
    have a4 := a2 hb.2.1
    generalize fgL m 3 s.1 0 0 = q at *
    obtain ⟨h', v, n⟩ := q
    simp only at a1 a2 a3 a4 lp ⊢
    have c1' : noS ((h', s.2) : SS) = true := c1
    have f0 : (0 ≤ fI' s.2) = False := fi0 c1
    have en : (nI h' = nI s.1) = (h' = s.1) := propext (nI_eq (by omega) (by omega))
    have e18 : qm m (h', s.2) 81 18 = nI h' := qm_18
    have e19 : qm m (h', s.2) 81 19 = fI' s.2 := qm_19
    have ef : up2 (qm m (h', s.2)) 81 19 (nI s.1) = qm m (h', some s.1) := by
      refine funext fun c' => funext fun j' => ?_
      unfold qm
      simp only [up2_e]
      by_cases q : c' = 81 ∧ j' = 19
      · rw [if_pos q, if_pos q]; rfl
      · rw [if_neg q, if_neg q, if_neg q]
    have e2 : s.2 = none := noS_n c1
    by_cases c2 : h' = s.1
    · rw [if_pos (.inl c2)]
      have cT : (h' = s.1) = True := eq_true c2
      simp only [r_MRm_readNumber_0, r_MRm_readNumber_1, r_MRm_readNumber_4, r_MRm_readNumber_5, r_MRm_readNumber_6, r_MRm_readNumber_85, r_MRm_readNumber_86, r_MRm_readNumber_89, r_MRm_readNumber_92, r_MRm_readNumber_93, r_MRm_readNumber_96, r_MRm_readNumber_97, r_MRm_readNumber_100, r_MRm_readNumber_101, r_MRm_readNumber_102, r_MRm_readNumber_105, r_MRm_readNumber_106, r_MRm_readNumber_107, r_MRm_readNumber_110, r_MRm_readNumber_111, sL_0, sL_1, sL_2, mk_i, mk_r, mk_f, mk_n, mk_u, mk_l, List.set_cons_succ, List.set_cons_zero, Nat.reduceAdd, ckS_0, ckS_1, ckS_2, ckS_3, ckS_4, Option.bind_some, Option.isSome_some, psh, if_true, if_false, i10, not_true_eq_false, not_false_eq_true, Bool.false_eq_true, and_self, and_true, true_and, eq_self, qI_81_0, qI_81_2, qI_81_3, qI_81_9, qI_81_10, qI_81_11, qI_81_12, qI_81_13, qI_81_18, qI_81_19, qI_81_20, qI_81_21, qI_81_29, qI_81_30, qI_81_31, qI_81_32, qI_81_33, qI_81_34, qI_81_35, qI_81_39, qI_81_40, qI_81_41, qI_81_42, qI_81_43, qI_81_44, qI_81_45, qI_81_46, qI_81_47, qI_81_51, qI_81_53, qR_81_1, qRd_81_1, qR_81_4, qRd_81_4, qR_81_5, qRd_81_5, qR_81_6, qRd_81_6, qR_81_7, qRd_81_7, qR_81_8, qRd_81_8, qR_81_14, qRd_81_14, qR_81_15, qRd_81_15, qR_81_16, qRd_81_16, qR_81_17, qRd_81_17, qR_81_22, qRd_81_22, qR_81_23, qRd_81_23, qR_81_24, qRd_81_24, qR_81_25, qRd_81_25, qR_81_26, qRd_81_26, qR_81_27, qRd_81_27, qR_81_28, qRd_81_28, qR_81_36, qRd_81_36, qR_81_37, qRd_81_37, qR_81_38, qRd_81_38, qR_81_48, qRd_81_48, qR_81_49, qRd_81_49, qR_81_50, qRd_81_50, qR_81_52, qRd_81_52, qR_81_54, qRd_81_54, qR_81_55, qRd_81_55, qR_81_56, qRd_81_56, qR_81_57, qRd_81_57, qR_81_58, qRd_81_58, qO_81, qm_18, lp, e19, f0, e18, en, cT, ef]
    · by_cases c3 : v ≤ most
      · rw [if_neg (fun q => q.elim c2 (fun q => q c3)), ← e2]
        simp only [r_MRm_readNumber_0, r_MRm_readNumber_1, r_MRm_readNumber_4, r_MRm_readNumber_5, r_MRm_readNumber_6, r_MRm_readNumber_85, r_MRm_readNumber_86, r_MRm_readNumber_89, r_MRm_readNumber_92, r_MRm_readNumber_93, r_MRm_readNumber_96, r_MRm_readNumber_97, r_MRm_readNumber_100, r_MRm_readNumber_101, r_MRm_readNumber_102, r_MRm_readNumber_105, r_MRm_readNumber_106, r_MRm_readNumber_107, r_MRm_readNumber_110, r_MRm_readNumber_111, sL_0, sL_1, sL_2, mk_i, mk_r, mk_f, mk_n, mk_u, mk_l, List.set_cons_succ, List.set_cons_zero, Nat.reduceAdd, ckS_0, ckS_1, ckS_2, ckS_3, ckS_4, Option.bind_some, Option.isSome_some, psh, if_true, if_false, i10, not_true_eq_false, not_false_eq_true, Bool.false_eq_true, and_self, and_true, true_and, eq_self, qI_81_0, qI_81_2, qI_81_3, qI_81_9, qI_81_10, qI_81_11, qI_81_12, qI_81_13, qI_81_18, qI_81_19, qI_81_20, qI_81_21, qI_81_29, qI_81_30, qI_81_31, qI_81_32, qI_81_33, qI_81_34, qI_81_35, qI_81_39, qI_81_40, qI_81_41, qI_81_42, qI_81_43, qI_81_44, qI_81_45, qI_81_46, qI_81_47, qI_81_51, qI_81_53, qR_81_1, qRd_81_1, qR_81_4, qRd_81_4, qR_81_5, qRd_81_5, qR_81_6, qRd_81_6, qR_81_7, qRd_81_7, qR_81_8, qRd_81_8, qR_81_14, qRd_81_14, qR_81_15, qRd_81_15, qR_81_16, qRd_81_16, qR_81_17, qRd_81_17, qR_81_22, qRd_81_22, qR_81_23, qRd_81_23, qR_81_24, qRd_81_24, qR_81_25, qRd_81_25, qR_81_26, qRd_81_26, qR_81_27, qRd_81_27, qR_81_28, qRd_81_28, qR_81_36, qRd_81_36, qR_81_37, qRd_81_37, qR_81_38, qRd_81_38, qR_81_48, qRd_81_48, qR_81_49, qRd_81_49, qR_81_50, qRd_81_50, qR_81_52, qRd_81_52, qR_81_54, qRd_81_54, qR_81_55, qRd_81_55, qR_81_56, qRd_81_56, qR_81_57, qRd_81_57, qR_81_58, qRd_81_58, qO_81, qm_18, lp, e19, f0, e18, en, c2, c3]
      · rw [if_pos (.inr c3)]
        simp only [r_MRm_readNumber_0, r_MRm_readNumber_1, r_MRm_readNumber_4, r_MRm_readNumber_5, r_MRm_readNumber_6, r_MRm_readNumber_85, r_MRm_readNumber_86, r_MRm_readNumber_89, r_MRm_readNumber_92, r_MRm_readNumber_93, r_MRm_readNumber_96, r_MRm_readNumber_97, r_MRm_readNumber_100, r_MRm_readNumber_101, r_MRm_readNumber_102, r_MRm_readNumber_105, r_MRm_readNumber_106, r_MRm_readNumber_107, r_MRm_readNumber_110, r_MRm_readNumber_111, sL_0, sL_1, sL_2, mk_i, mk_r, mk_f, mk_n, mk_u, mk_l, List.set_cons_succ, List.set_cons_zero, Nat.reduceAdd, ckS_0, ckS_1, ckS_2, ckS_3, ckS_4, Option.bind_some, Option.isSome_some, psh, if_true, if_false, i10, not_true_eq_false, not_false_eq_true, Bool.false_eq_true, and_self, and_true, true_and, eq_self, qI_81_0, qI_81_2, qI_81_3, qI_81_9, qI_81_10, qI_81_11, qI_81_12, qI_81_13, qI_81_18, qI_81_19, qI_81_20, qI_81_21, qI_81_29, qI_81_30, qI_81_31, qI_81_32, qI_81_33, qI_81_34, qI_81_35, qI_81_39, qI_81_40, qI_81_41, qI_81_42, qI_81_43, qI_81_44, qI_81_45, qI_81_46, qI_81_47, qI_81_51, qI_81_53, qR_81_1, qRd_81_1, qR_81_4, qRd_81_4, qR_81_5, qRd_81_5, qR_81_6, qRd_81_6, qR_81_7, qRd_81_7, qR_81_8, qRd_81_8, qR_81_14, qRd_81_14, qR_81_15, qRd_81_15, qR_81_16, qRd_81_16, qR_81_17, qRd_81_17, qR_81_22, qRd_81_22, qR_81_23, qRd_81_23, qR_81_24, qRd_81_24, qR_81_25, qRd_81_25, qR_81_26, qRd_81_26, qR_81_27, qRd_81_27, qR_81_28, qRd_81_28, qR_81_36, qRd_81_36, qR_81_37, qRd_81_37, qR_81_38, qRd_81_38, qR_81_48, qRd_81_48, qR_81_49, qRd_81_49, qR_81_50, qRd_81_50, qR_81_52, qRd_81_52, qR_81_54, qRd_81_54, qR_81_55, qRd_81_55, qR_81_56, qRd_81_56, qR_81_57, qRd_81_57, qR_81_58, qRd_81_58, qO_81, qm_18, lp, e19, f0, e18, en, c2, c3, ef]
  · rw [if_neg c1]
    have f0 : (0 ≤ fI' s.2) = True := fi1 (fw_bS hT hb) c1
    simp only [r_MRm_readNumber_0, r_MRm_readNumber_1, r_MRm_readNumber_4, r_MRm_readNumber_5, r_MRm_readNumber_6, r_MRm_readNumber_7, r_MRm_readNumber_8, r_MRm_readNumber_11, r_MRm_readNumber_14, r_MRm_readNumber_15, r_MRm_readNumber_18, r_MRm_readNumber_19, r_MRm_readNumber_22, r_MRm_readNumber_25, r_MRm_readNumber_26, r_MRm_readNumber_29, r_MRm_readNumber_30, r_MRm_readNumber_31, r_MRm_readNumber_32, r_MRm_readNumber_35, r_MRm_readNumber_36, r_MRm_readNumber_39, r_MRm_readNumber_40, r_MRm_readNumber_43, r_MRm_readNumber_44, r_MRm_readNumber_46, r_MRm_readNumber_48, r_MRm_readNumber_51, r_MRm_readNumber_54, r_MRm_readNumber_56, r_MRm_readNumber_57, r_MRm_readNumber_58, r_MRm_readNumber_59, r_MRm_readNumber_62, r_MRm_readNumber_63, r_MRm_readNumber_66, r_MRm_readNumber_67, r_MRm_readNumber_68, r_MRm_readNumber_70, r_MRm_readNumber_71, r_MRm_readNumber_72, r_MRm_readNumber_73, r_MRm_readNumber_73i, r_MRm_readNumber_74, r_MRm_readNumber_77, r_MRm_readNumber_78, r_MRm_readNumber_79, r_MRm_readNumber_82, r_MRm_readNumber_85, r_MRm_readNumber_86, r_MRm_readNumber_89, r_MRm_readNumber_92, r_MRm_readNumber_93, r_MRm_readNumber_96, r_MRm_readNumber_97, r_MRm_readNumber_100, r_MRm_readNumber_101, r_MRm_readNumber_102, r_MRm_readNumber_105, r_MRm_readNumber_106, r_MRm_readNumber_107, r_MRm_readNumber_110, r_MRm_readNumber_111, sL_0, sL_1, sL_2, mk_i, mk_r, mk_f, mk_n, mk_u, mk_l, List.set_cons_succ, List.set_cons_zero, Nat.reduceAdd, ckS_0, ckS_1, ckS_2, ckS_3, ckS_4, Option.bind_some, Option.isSome_some, psh, if_true, if_false, i10, not_true_eq_false, not_false_eq_true, Bool.false_eq_true, and_self, and_true, true_and, eq_self, qI_81_0, qI_81_2, qI_81_3, qI_81_9, qI_81_10, qI_81_11, qI_81_12, qI_81_13, qI_81_18, qI_81_19, qI_81_20, qI_81_21, qI_81_29, qI_81_30, qI_81_31, qI_81_32, qI_81_33, qI_81_34, qI_81_35, qI_81_39, qI_81_40, qI_81_41, qI_81_42, qI_81_43, qI_81_44, qI_81_45, qI_81_46, qI_81_47, qI_81_51, qI_81_53, qR_81_1, qRd_81_1, qR_81_4, qRd_81_4, qR_81_5, qRd_81_5, qR_81_6, qRd_81_6, qR_81_7, qRd_81_7, qR_81_8, qRd_81_8, qR_81_14, qRd_81_14, qR_81_15, qRd_81_15, qR_81_16, qRd_81_16, qR_81_17, qRd_81_17, qR_81_22, qRd_81_22, qR_81_23, qRd_81_23, qR_81_24, qRd_81_24, qR_81_25, qRd_81_25, qR_81_26, qRd_81_26, qR_81_27, qRd_81_27, qR_81_28, qRd_81_28, qR_81_36, qRd_81_36, qR_81_37, qRd_81_37, qR_81_38, qRd_81_38, qR_81_48, qRd_81_48, qR_81_49, qRd_81_49, qR_81_50, qRd_81_50, qR_81_52, qRd_81_52, qR_81_54, qRd_81_54, qR_81_55, qRd_81_55, qR_81_56, qRd_81_56, qR_81_57, qRd_81_57, qR_81_58, qRd_81_58, qO_81, qm_18, qm_19, f0]
theorem bt_84 {c j : Nat} {v : Int32} (h : 83 ≤ c) : bt (up2 m c j v) = bt m := bt_up (by omega) (by omega)
theorem tOK_84 {c j : Nat} {v : Int32} (h : 83 ≤ c) (hT : tOK m) : tOK (up2 m c j v) := tOK_up (by omega) hT
theorem Tt_84 {c j : Nat} {v : Int32} (h : 83 ≤ c) : Tt (up2 m c j v) = Tt m := Tt_up (by omega)
theorem hrS_c (hb : bt mu' = bt mu) {c : Int32} {s : SS} : hrS mu' c s = hrS mu c s := by unfold hrS; rw [hb]
theorem tkS_c (hb : bt mu' = bt mu) {c : Int32} {s : SS} : tkS mu' c s = tkS mu c s := by unfold tkS; rw [hrS_c hb]
theorem dgS_c (hb : bt mu' = bt mu) {l : Int32} {s : SS} : dgS mu' l s = dgS mu l s := by unfold dgS dOkM; rw [hb]
theorem sgS_c (hb : bt mu' = bt mu) {s : SS} : sgS mu' s = sgS mu s := by
  have e : pmS mu' s = pmS mu s := by unfold pmS; rw [hrS_c hb, hrS_c hb]
  unfold sgS
  rw [e, dgS_c hb, hrS_c hb]
theorem nmS_c (hb : bt mu' = bt mu) {most : Int32} {s : SS} : nmS mu' most s = nmS mu most s := by unfold nmS; rw [fgL_c hb]
theorem fw_c {s r : SS} (ht : Tt mu' = Tt mu) (h : fw mu s r) : fw mu' s r := by
  show _ ∧ _ ≤ Tt mu' ∧ ∀ k, _ → k ≤ Tt mu'
  rw [ht]; exact h
theorem lpS_c (hb : bt mu' = bt mu) {s : SS} : lpS mu' s = lpS mu s := by unfold lpS; rw [dgS_c hb, sgS_c hb, sgS_c hb]
theorem lpsS_c (hb : bt mu' = bt mu) : ∀ (k : Nat) (s : SS), lpsS mu' k s = lpsS mu k s
  | 0, _ => rfl
  | k + 1, s => by rw [lpsS, lpsS, hrS_c hb, lpS_c hb, lpsS_c hb k]
theorem rtA_c (hb : bt mu' = bt mu) {s : SS} : rtA mu' s = rtA mu s := by unfold rtA; rw [tkS_c hb, nmS_c hb]
theorem rtB_c (hb : bt mu' = bt mu) {s : SS} : rtB mu' s = rtB mu s := by unfold rtB; rw [rtA_c hb, tkS_c hb, nmS_c hb]
theorem rtC_c (hb : bt mu' = bt mu) {s : SS} : rtC mu' s = rtC mu s := by unfold rtC; rw [rtB_c hb, tkS_c hb, nmS_c hb]
theorem rtD_c (hb : bt mu' = bt mu) {s : SS} : rtD mu' s = rtD mu s := by unfold rtD; rw [rtC_c hb, tkS_c hb, nmS_c hb]
theorem lmM_bt {S L : Nat} {x : Lp} : bt (lmM m S L x) = bt m := by unfold lmM; rw [bt_84 (by decide), bt_84 (by decide), bt_84 (by decide), bt_84 (by decide)]
theorem lmM_Tt {S L : Nat} {x : Lp} : Tt (lmM m S L x) = Tt m := by unfold lmM; rw [Tt_84 (by decide), Tt_84 (by decide), Tt_84 (by decide), Tt_84 (by decide)]
theorem lmM_tOK {S L : Nat} {x : Lp} (hT : tOK m) : tOK (lmM m S L x) := tOK_84 (by decide) (tOK_84 (by decide) (tOK_84 (by decide) (tOK_84 (by decide) hT)))
theorem e_lumpM {S L : Nat} (hT : tOK m) (hb : fw m s s) (hS : S < 6) (hL : L < 12) (h83 : m 83 S = nI L) : Rr X (d + 3) MRm_readLump 0 [.ref 81, .int (nI S), mkU] [] (Wd (qm m s) la ro et) = some (none, Wd (qm (lmM m S L (lpS m s).1) (lpS m s).2) la ro et) := by
  have q83 : ∀ (m : Mu) s j, qm m s 83 j = m 83 j := fun m s j => qm_o (by decide)
  have e12 : (12 : Int32) * nI S + nI L = nI (12 * S + L) := by rw [show (12 : Int32) * nI S = nI (12 * S) from (Int32.ofNat_mul 12 S).symm, nI_add]
  have cS : (nI S).toNatClampNeg = S := nI_clamp (by omega)
  have iS := ix (j := S) (N := 7) (by omega) (by decide)
  have cE : (nI (12 * S + L)).toNatClampNeg = 12 * S + L := nI_clamp (by omega)
  have iE := ix (j := 12 * S + L) (N := 84) (by omega) (by decide)
  have ed := e_digitM (X := X) (d := d + 1) (la := la) (ro := ro) (et := et) (s := s) (l := 1) hT (fw_bS hT hb) (.inr rfl)
  have f1 := fw_dg (l := 1) (.inr rfl) hb
  have u84 : ∀ (m : Mu) s v, up2 (qm m s) 84 (12 * S + L) v = qm (up2 m 84 (12 * S + L) v) s := fun m s v => qm_up (by decide)
  have u85 : ∀ (m : Mu) s v, up2 (qm m s) 85 (12 * S + L) v = qm (up2 m 85 (12 * S + L) v) s := fun m s v => qm_up (by decide)
  have u86 : ∀ (m : Mu) s v, up2 (qm m s) 86 (12 * S + L) v = qm (up2 m 86 (12 * S + L) v) s := fun m s v => qm_up (by decide)
  have u83 : ∀ (m : Mu) s v, up2 (qm m s) 83 S v = qm (up2 m 83 S v) s := fun m s v => qm_up (by decide)
  obtain ⟨m1, hm1⟩ : ∃ m1, m1 = up2 m 84 (12 * S + L) (dgS m 1 s).1 := ⟨_, rfl⟩
  have b1 : bt m1 = bt m := by rw [hm1]; exact bt_84 (by decide)
  have T1 : tOK m1 := by rw [hm1]; exact tOK_84 (by decide) hT
  have t1 : Tt m1 = Tt m := by rw [hm1]; exact Tt_84 (by decide)
  have es1 := e_signedM (X := X) (d := d) (la := la) (ro := ro) (et := et) (m := m1) (s := (dgS m 1 s).2) T1 (fw_r (by rw [t1]; exact f1.2.1) (by rw [t1]; exact f1.2.2))
  rw [sgS_c b1] at es1
  have f2 := fw_sg f1
  obtain ⟨m2, hm2⟩ : ∃ m2, m2 = up2 m1 85 (12 * S + L) (sgS m (dgS m 1 s).2).1 := ⟨_, rfl⟩
  have b2 : bt m2 = bt m := by rw [hm2, bt_84 (by decide)]; exact b1
  have T2 : tOK m2 := by rw [hm2]; exact tOK_84 (by decide) T1
  have t2 : Tt m2 = Tt m := by rw [hm2, Tt_84 (by decide)]; exact t1
  have es2 := e_signedM (X := X) (d := d) (la := la) (ro := ro) (et := et) (m := m2) (s := (sgS m (dgS m 1 s).2).2) T2 (fw_r (by rw [t2]; exact f2.2.1) (by rw [t2]; exact f2.2.2))
  rw [sgS_c b2] at es2
  have v1 : ∀ y, up2 m2 86 (12 * S + L) y 83 S = nI L := fun y => by rw [hm2, hm1, up2_a (by decide), up2_a (by decide), up2_a (by decide)]; exact h83
  unfold lmM lpS
  simp only [r_MRm_readLump_0, r_MRm_readLump_2, r_MRm_readLump_3, r_MRm_readLump_4, r_MRm_readLump_5, r_MRm_readLump_8, r_MRm_readLump_9, r_MRm_readLump_10, r_MRm_readLump_11, r_MRm_readLump_12, r_MRm_readLump_13, r_MRm_readLump_16, r_MRm_readLump_17, r_MRm_readLump_18, r_MRm_readLump_19, r_MRm_readLump_22, r_MRm_readLump_23, r_MRm_readLump_24, r_MRm_readLump_27, r_MRm_readLump_28, r_MRm_readLump_29, r_MRm_readLump_32, r_MRm_readLump_33, r_MRm_readLump_34, r_MRm_readLump_37, r_MRm_readLump_38, r_MRm_readLump_39, r_MRm_readLump_42, r_MRm_readLump_43, r_MRm_readLump_44, r_MRm_readLump_47, r_MRm_readLump_48, r_MRm_readLump_49, r_MRm_readLump_50, r_MRm_readLump_51, r_MRm_readLump_52, r_MRm_readLump_53, sL_0, sL_1, sL_2, mk_i, mk_r, mk_f, mk_n, mk_u, mk_l, List.set_cons_succ, List.set_cons_zero, Nat.reduceAdd, ckS_0, ckS_1, ckS_2, ckS_3, ckS_4, Option.bind_some, Option.isSome_some, psh, if_true, if_false, i10, not_true_eq_false, not_false_eq_true, Bool.false_eq_true, and_self, and_true, true_and, eq_self, qI_81_0, qI_81_2, qI_81_3, qI_81_9, qI_81_10, qI_81_11, qI_81_12, qI_81_13, qI_81_18, qI_81_19, qI_81_20, qI_81_21, qI_81_29, qI_81_30, qI_81_31, qI_81_32, qI_81_33, qI_81_34, qI_81_35, qI_81_39, qI_81_40, qI_81_41, qI_81_42, qI_81_43, qI_81_44, qI_81_45, qI_81_46, qI_81_47, qI_81_51, qI_81_53, qR_81_1, qRd_81_1, qR_81_4, qRd_81_4, qR_81_5, qRd_81_5, qR_81_6, qRd_81_6, qR_81_7, qRd_81_7, qR_81_8, qRd_81_8, qR_81_14, qRd_81_14, qR_81_15, qRd_81_15, qR_81_16, qRd_81_16, qR_81_17, qRd_81_17, qR_81_22, qRd_81_22, qR_81_23, qRd_81_23, qR_81_24, qRd_81_24, qR_81_25, qRd_81_25, qR_81_26, qRd_81_26, qR_81_27, qRd_81_27, qR_81_28, qRd_81_28, qR_81_36, qRd_81_36, qR_81_37, qRd_81_37, qR_81_38, qRd_81_38, qR_81_48, qRd_81_48, qR_81_49, qRd_81_49, qR_81_50, qRd_81_50, qR_81_52, qRd_81_52, qR_81_54, qRd_81_54, qR_81_55, qRd_81_55, qR_81_56, qRd_81_56, qR_81_57, qRd_81_57, qR_81_58, qRd_81_58, qA_83, qAd_83, qA_84, qAd_84, qA_85, qAd_85, qA_86, qAd_86, qO_81, qL_83, qLd_83, qL_84, qLd_84, qL_85, qLd_85, qL_86, qLd_86, q83, h83, cS, iS, e12, cE, iE, ed, u84, ← hm1, es1, u85, ← hm2, es2, u86, v1, nI_1, u83]
theorem lmsM_o {S : Nat} : ∀ (W : List Lp) (L : Nat) (m : Mu), bt (lmsM m S L W) = bt m ∧ Tt (lmsM m S L W) = Tt m ∧ (tOK m → tOK (lmsM m S L W)) ∧ (m 83 S = nI L → lmsM m S L W 83 S = nI (L + W.length))
  | [], _, _ => ⟨rfl, rfl, id, id⟩
  | x :: W, L, m => by
    obtain ⟨a1, a2, a3, a4⟩ := lmsM_o (S := S) W (L + 1) (lmM m S L x)
    refine ⟨a1.trans lmM_bt, a2.trans lmM_Tt, fun h => a3 (lmM_tOK h), fun _ => ?_⟩
    have e := a4 (up2_s _ _ _ _)
    rw [List.length_cons, show L + (W.length + 1) = L + 1 + W.length by omega]
    exact e
theorem lps_len : ∀ (k : Nat) (s : SS), (lpsS m k s).1.length ≤ k
  | 0, _ => Nat.le_refl _
  | k + 1, s => by
    rw [lpsS]
    split
    · exact Nat.succ_le_succ (lps_len k _)
    · exact Nat.zero_le _
theorem fw_lps {s : SS} : ∀ (k : Nat) (r : SS), fw m s r → fw m s (lpsS m k r).2
  | 0, _, h => h
  | k + 1, r, h => by
    rw [lpsS]
    split
    · rename_i q
      exact fw_lps k _ (fw_lp (fwd_in h (hr_lt (by decide) q)))
    · exact h
theorem stM_loop {S : Nat} (hS : S < 6) {l2 : Value} : ∀ (k L : Nat) (s : SS) (m : Mu), L + k = 12 → tOK m → fw m s s → m 83 S = nI L → Rr X (d + 4) MRm_stone 39 [.ref 81, .int (nI S), l2] [] (Wd (qm m s) la ro et) = Rr X (d + 4) MRm_stone 77 [.ref 81, .int (nI S), l2] [] (Wd (qm (lmsM m S L (lpsS m k s).1) (lpsS m k s).2) la ro et) := by
  have cS : (nI S).toNatClampNeg = S := nI_clamp (by omega)
  have iS := ix (j := S) (N := 7) (by omega) (by decide)
  have q83 : ∀ (m : Mu) s j, qm m s 83 j = m 83 j := fun m s j => qm_o (by decide)
  intro k
  induction k with
  | zero =>
    intro L s m hk hT hb h83
    have : L = 12 := by omega
    subst this
    have e := e_isHere (X := X) (d := d + 3) (la := la) (ro := ro) (et := et) (c := 59) hT (fw_bS hT hb) (by decide)
    have z : (12 : Int32) ≤ nI 12 := nI_le (a := 12) (b := 12) (Nat.le_refl _) (by omega)
    rw [r_MRm_stone_39, lpsS]
    by_cases c : hrS m 59 s = true
    · rw [if_pos c] at e
      simp only [r_MRm_stone_40, r_MRm_stone_42, r_MRm_stone_45, r_MRm_stone_48, r_MRm_stone_49, r_MRm_stone_52, r_MRm_stone_53, r_MRm_stone_54, r_MRm_stone_56, sL_0, sL_1, sL_2, mk_i, mk_r, mk_f, mk_n, mk_u, mk_l, List.set_cons_succ, List.set_cons_zero, Nat.reduceAdd, ckS_0, ckS_1, ckS_2, ckS_3, ckS_4, Option.bind_some, Option.isSome_some, psh, if_true, if_false, i10, not_true_eq_false, not_false_eq_true, Bool.false_eq_true, and_self, and_true, true_and, eq_self, qI_81_0, qI_81_2, qI_81_3, qI_81_9, qI_81_10, qI_81_11, qI_81_12, qI_81_13, qI_81_18, qI_81_19, qI_81_20, qI_81_21, qI_81_29, qI_81_30, qI_81_31, qI_81_32, qI_81_33, qI_81_34, qI_81_35, qI_81_39, qI_81_40, qI_81_41, qI_81_42, qI_81_43, qI_81_44, qI_81_45, qI_81_46, qI_81_47, qI_81_51, qI_81_53, qR_81_1, qRd_81_1, qR_81_4, qRd_81_4, qR_81_5, qRd_81_5, qR_81_6, qRd_81_6, qR_81_7, qRd_81_7, qR_81_8, qRd_81_8, qR_81_14, qRd_81_14, qR_81_15, qRd_81_15, qR_81_16, qRd_81_16, qR_81_17, qRd_81_17, qR_81_22, qRd_81_22, qR_81_23, qRd_81_23, qR_81_24, qRd_81_24, qR_81_25, qRd_81_25, qR_81_26, qRd_81_26, qR_81_27, qRd_81_27, qR_81_28, qRd_81_28, qR_81_36, qRd_81_36, qR_81_37, qRd_81_37, qR_81_38, qRd_81_38, qR_81_48, qRd_81_48, qR_81_49, qRd_81_49, qR_81_50, qRd_81_50, qR_81_52, qRd_81_52, qR_81_54, qRd_81_54, qR_81_55, qRd_81_55, qR_81_56, qRd_81_56, qR_81_57, qRd_81_57, qR_81_58, qRd_81_58, qA_83, qAd_83, qO_81, qL_83, qLd_83, e, q83, h83, cS, iS, z, lmsM]
    · rw [if_neg c] at e
      simp only [r_MRm_stone_40, r_MRm_stone_42, r_MRm_stone_45, r_MRm_stone_48, r_MRm_stone_49, r_MRm_stone_52, r_MRm_stone_53, r_MRm_stone_54, r_MRm_stone_56, sL_0, sL_1, sL_2, mk_i, mk_r, mk_f, mk_n, mk_u, mk_l, List.set_cons_succ, List.set_cons_zero, Nat.reduceAdd, ckS_0, ckS_1, ckS_2, ckS_3, ckS_4, Option.bind_some, Option.isSome_some, psh, if_true, if_false, i10, not_true_eq_false, not_false_eq_true, Bool.false_eq_true, and_self, and_true, true_and, eq_self, qI_81_0, qI_81_2, qI_81_3, qI_81_9, qI_81_10, qI_81_11, qI_81_12, qI_81_13, qI_81_18, qI_81_19, qI_81_20, qI_81_21, qI_81_29, qI_81_30, qI_81_31, qI_81_32, qI_81_33, qI_81_34, qI_81_35, qI_81_39, qI_81_40, qI_81_41, qI_81_42, qI_81_43, qI_81_44, qI_81_45, qI_81_46, qI_81_47, qI_81_51, qI_81_53, qR_81_1, qRd_81_1, qR_81_4, qRd_81_4, qR_81_5, qRd_81_5, qR_81_6, qRd_81_6, qR_81_7, qRd_81_7, qR_81_8, qRd_81_8, qR_81_14, qRd_81_14, qR_81_15, qRd_81_15, qR_81_16, qRd_81_16, qR_81_17, qRd_81_17, qR_81_22, qRd_81_22, qR_81_23, qRd_81_23, qR_81_24, qRd_81_24, qR_81_25, qRd_81_25, qR_81_26, qRd_81_26, qR_81_27, qRd_81_27, qR_81_28, qRd_81_28, qR_81_36, qRd_81_36, qR_81_37, qRd_81_37, qR_81_38, qRd_81_38, qR_81_48, qRd_81_48, qR_81_49, qRd_81_49, qR_81_50, qRd_81_50, qR_81_52, qRd_81_52, qR_81_54, qRd_81_54, qR_81_55, qRd_81_55, qR_81_56, qRd_81_56, qR_81_57, qRd_81_57, qR_81_58, qRd_81_58, qA_83, qAd_83, qO_81, qL_83, qLd_83, e, lmsM]
  | succ k ih =>
    intro L s m hk hT hb h83
    have e := e_isHere (X := X) (d := d + 3) (la := la) (ro := ro) (et := et) (c := 59) hT (fw_bS hT hb) (by decide)
    have z : ¬ (12 : Int32) ≤ nI L := nI_ge (a := L) (b := 12) (by omega) (by omega)
    rw [r_MRm_stone_39, lpsS]
    by_cases c : hrS m 59 s = true
    · rw [if_pos c] at e ⊢
      have f1 : fw m s (inS s) := fwd_in hb (hr_lt (by decide) c)
      have f1' : fw m (inS s) (inS s) := fw_r f1.2.1 f1.2.2
      have el := e_lumpM (X := X) (d := d) (la := la) (ro := ro) (et := et) (s := inS s) hT f1' hS (show L < 12 by omega) h83
      have f2 := fw_lp f1'
      have nx := ih (L + 1) (lpS m (inS s)).2 (lmM m S L (lpS m (inS s)).1) (by omega) (lmM_tOK hT) (fw_c lmM_Tt (fw_r f2.2.1 f2.2.2)) (up2_s _ _ _ _)
      rw [lpsS_c lmM_bt] at nx
      simp only [r_MRm_stone_40, r_MRm_stone_42, r_MRm_stone_45, r_MRm_stone_48, r_MRm_stone_49, r_MRm_stone_52, r_MRm_stone_53, r_MRm_stone_54, r_MRm_stone_56, r_MRm_stone_59, r_MRm_stone_60, r_MRm_stone_60i, r_MRm_stone_61, r_MRm_stone_64, r_MRm_stone_65, r_MRm_stone_66, r_MRm_stone_69, r_MRm_stone_70, r_MRm_stone_71, r_MRm_stone_74, sL_0, sL_1, sL_2, mk_i, mk_r, mk_f, mk_n, mk_u, mk_l, List.set_cons_succ, List.set_cons_zero, Nat.reduceAdd, ckS_0, ckS_1, ckS_2, ckS_3, ckS_4, Option.bind_some, Option.isSome_some, psh, if_true, if_false, i10, not_true_eq_false, not_false_eq_true, Bool.false_eq_true, and_self, and_true, true_and, eq_self, qI_81_0, qI_81_2, qI_81_3, qI_81_9, qI_81_10, qI_81_11, qI_81_12, qI_81_13, qI_81_18, qI_81_19, qI_81_20, qI_81_21, qI_81_29, qI_81_30, qI_81_31, qI_81_32, qI_81_33, qI_81_34, qI_81_35, qI_81_39, qI_81_40, qI_81_41, qI_81_42, qI_81_43, qI_81_44, qI_81_45, qI_81_46, qI_81_47, qI_81_51, qI_81_53, qR_81_1, qRd_81_1, qR_81_4, qRd_81_4, qR_81_5, qRd_81_5, qR_81_6, qRd_81_6, qR_81_7, qRd_81_7, qR_81_8, qRd_81_8, qR_81_14, qRd_81_14, qR_81_15, qRd_81_15, qR_81_16, qRd_81_16, qR_81_17, qRd_81_17, qR_81_22, qRd_81_22, qR_81_23, qRd_81_23, qR_81_24, qRd_81_24, qR_81_25, qRd_81_25, qR_81_26, qRd_81_26, qR_81_27, qRd_81_27, qR_81_28, qRd_81_28, qR_81_36, qRd_81_36, qR_81_37, qRd_81_37, qR_81_38, qRd_81_38, qR_81_48, qRd_81_48, qR_81_49, qRd_81_49, qR_81_50, qRd_81_50, qR_81_52, qRd_81_52, qR_81_54, qRd_81_54, qR_81_55, qRd_81_55, qR_81_56, qRd_81_56, qR_81_57, qRd_81_57, qR_81_58, qRd_81_58, qA_83, qAd_83, qO_81, qL_83, qLd_83, e, q83, h83, cS, iS, z, qm_18, nI_1, qm_in, el]
      exact nx
    · rw [if_neg c] at e ⊢
      simp only [r_MRm_stone_40, r_MRm_stone_42, r_MRm_stone_45, r_MRm_stone_48, r_MRm_stone_49, r_MRm_stone_52, r_MRm_stone_53, r_MRm_stone_54, r_MRm_stone_56, sL_0, sL_1, sL_2, mk_i, mk_r, mk_f, mk_n, mk_u, mk_l, List.set_cons_succ, List.set_cons_zero, Nat.reduceAdd, ckS_0, ckS_1, ckS_2, ckS_3, ckS_4, Option.bind_some, Option.isSome_some, psh, if_true, if_false, i10, not_true_eq_false, not_false_eq_true, Bool.false_eq_true, and_self, and_true, true_and, eq_self, qI_81_0, qI_81_2, qI_81_3, qI_81_9, qI_81_10, qI_81_11, qI_81_12, qI_81_13, qI_81_18, qI_81_19, qI_81_20, qI_81_21, qI_81_29, qI_81_30, qI_81_31, qI_81_32, qI_81_33, qI_81_34, qI_81_35, qI_81_39, qI_81_40, qI_81_41, qI_81_42, qI_81_43, qI_81_44, qI_81_45, qI_81_46, qI_81_47, qI_81_51, qI_81_53, qR_81_1, qRd_81_1, qR_81_4, qRd_81_4, qR_81_5, qRd_81_5, qR_81_6, qRd_81_6, qR_81_7, qRd_81_7, qR_81_8, qRd_81_8, qR_81_14, qRd_81_14, qR_81_15, qRd_81_15, qR_81_16, qRd_81_16, qR_81_17, qRd_81_17, qR_81_22, qRd_81_22, qR_81_23, qRd_81_23, qR_81_24, qRd_81_24, qR_81_25, qRd_81_25, qR_81_26, qRd_81_26, qR_81_27, qRd_81_27, qR_81_28, qRd_81_28, qR_81_36, qRd_81_36, qR_81_37, qRd_81_37, qR_81_38, qRd_81_38, qR_81_48, qRd_81_48, qR_81_49, qRd_81_49, qR_81_50, qRd_81_50, qR_81_52, qRd_81_52, qR_81_54, qRd_81_54, qR_81_55, qRd_81_55, qR_81_56, qRd_81_56, qR_81_57, qRd_81_57, qR_81_58, qRd_81_58, qA_83, qAd_83, qO_81, qL_83, qLd_83, e, lmsM]
/-- rates laid on the model's side -/
noncomputable def rtM4 (m : Mu) (S : Nat) (a b c e : Int32) : Mu := up2 (up2 (up2 (up2 m 87 (4 * S) a) 87 (4 * S + 1) b) 87 (4 * S + 2) c) 87 (4 * S + 3) e
theorem e_ratesM {S : Nat} (hS : S < 6) {l2 : Value} (hT : tOK m) (hb : fw m s s) : Rr X (d + 4) MRm_stone 77 [.ref 81, .int (nI S), l2] [] (Wd (qm m s) la ro et) = Rr X (d + 4) MRm_stone 133 [.ref 81, .int (nI S), .int 4] [] (Wd (qm (rtM4 m S (rtA m s).1 (rtB m s).1 (rtC m s).1 (rtD m s).1) (rtD m s).2) la ro et) := by
  have u87 : ∀ (m : Mu) s j v, up2 (qm m s) 87 j v = qm (up2 m 87 j v) s := fun m s j v => qm_up (by decide)
  have e4 : ∀ k, (4 : Int32) * nI S + nI k = nI (4 * S + k) := fun k => by rw [show (4 : Int32) * nI S = nI (4 * S) from (Int32.ofNat_mul 4 S).symm, nI_add]
  have e40 : (4 : Int32) * nI S + 0 = nI (4 * S) := e4 0
  have e41 : (4 : Int32) * nI S + 1 = nI (4 * S + 1) := e4 1
  have e42 : (4 : Int32) * nI S + 2 = nI (4 * S + 2) := e4 2
  have e43 : (4 : Int32) * nI S + 3 = nI (4 * S + 3) := e4 3
  have cl : ∀ k, k < 4 → (nI (4 * S + k)).toNatClampNeg = 4 * S + k := fun k hk => nI_clamp (by omega)
  have ii : ∀ k, k < 4 → ¬ (nI (4 * S + k) < 0 ∨ 28 ≤ 4 * S + k) := fun k hk => ix (j := 4 * S + k) (N := 28) (by omega) (by decide)
  have c0 := cl 0 (by omega); have c1 := cl 1 (by omega); have c2 := cl 2 (by omega); have c3 := cl 3 (by omega)
  have i0 := ii 0 (by omega); have i1 := ii 1 (by omega); have i2 := ii 2 (by omega); have i3 := ii 3 (by omega)
  rw [Nat.add_zero] at c0 i0
  have t0 := e_takes (X := X) (d := d + 2) (la := la) (ro := ro) (et := et) (c := 47) hT (fw_bS hT hb) (by decide)
  have f0 := fw_tk (c := 47) (by decide) hb
  have n0 := e_numberM (X := X) (d := d + 2) (la := la) (ro := ro) (et := et) (most := 999) hT (fw_r f0.2.1 f0.2.2)
  have g0 : fw m s (rtA m s).2 := fw_nm f0
  obtain ⟨m1, h1⟩ : ∃ m1, m1 = up2 m 87 (4 * S) (rtA m s).1 := ⟨_, rfl⟩
  have b1 : bt m1 = bt m := by rw [h1]; exact bt_84 (by decide)
  have T1 : tOK m1 := by rw [h1]; exact tOK_84 (by decide) hT
  have w1 : Tt m1 = Tt m := by rw [h1]; exact Tt_84 (by decide)
  have t1 := e_takes (X := X) (d := d + 2) (la := la) (ro := ro) (et := et) (m := m1) (s := (rtA m s).2) (c := 44) T1 (fw_bS T1 (fw_c w1 (fw_r g0.2.1 g0.2.2))) (by decide)
  rw [tkS_c b1] at t1
  have f1 := fw_tk (c := 44) (by decide) g0
  have n1 := e_numberM (X := X) (d := d + 2) (la := la) (ro := ro) (et := et) (m := m1) (s := tkS m 44 (rtA m s).2) (most := 999) T1 (fw_c w1 (fw_r f1.2.1 f1.2.2))
  rw [nmS_c b1] at n1
  have g1 : fw m s (rtB m s).2 := fw_nm f1
  obtain ⟨m2, h2⟩ : ∃ m2, m2 = up2 m1 87 (4 * S + 1) (rtB m s).1 := ⟨_, rfl⟩
  have b2 : bt m2 = bt m := by rw [h2, bt_84 (by decide)]; exact b1
  have T2 : tOK m2 := by rw [h2]; exact tOK_84 (by decide) T1
  have w2 : Tt m2 = Tt m := by rw [h2, Tt_84 (by decide)]; exact w1
  have t2 := e_takes (X := X) (d := d + 2) (la := la) (ro := ro) (et := et) (m := m2) (s := (rtB m s).2) (c := 44) T2 (fw_bS T2 (fw_c w2 (fw_r g1.2.1 g1.2.2))) (by decide)
  rw [tkS_c b2] at t2
  have f2 := fw_tk (c := 44) (by decide) g1
  have n2 := e_numberM (X := X) (d := d + 2) (la := la) (ro := ro) (et := et) (m := m2) (s := tkS m 44 (rtB m s).2) (most := 100) T2 (fw_c w2 (fw_r f2.2.1 f2.2.2))
  rw [nmS_c b2] at n2
  have g2 : fw m s (rtC m s).2 := fw_nm f2
  obtain ⟨m3, h3⟩ : ∃ m3, m3 = up2 m2 87 (4 * S + 2) (rtC m s).1 := ⟨_, rfl⟩
  have b3 : bt m3 = bt m := by rw [h3, bt_84 (by decide)]; exact b2
  have T3 : tOK m3 := by rw [h3]; exact tOK_84 (by decide) T2
  have w3 : Tt m3 = Tt m := by rw [h3, Tt_84 (by decide)]; exact w2
  have t3 := e_takes (X := X) (d := d + 2) (la := la) (ro := ro) (et := et) (m := m3) (s := (rtC m s).2) (c := 44) T3 (fw_bS T3 (fw_c w3 (fw_r g2.2.1 g2.2.2))) (by decide)
  rw [tkS_c b3] at t3
  have f3 := fw_tk (c := 44) (by decide) g2
  have n3 := e_numberM (X := X) (d := d + 2) (la := la) (ro := ro) (et := et) (m := m3) (s := tkS m 44 (rtC m s).2) (most := 100) T3 (fw_c w3 (fw_r f3.2.1 f3.2.2))
  rw [nmS_c b3] at n3
  have z1 : ((4 : Int32) ≤ 0) = False := by decide
  have z2 : ((4 : Int32) ≤ 1) = False := by decide
  have z3 : ((4 : Int32) ≤ 2) = False := by decide
  have z4 : ((4 : Int32) ≤ 3) = False := by decide
  have z5 : ((4 : Int32) ≤ 4) = True := by decide
  have y0 : ((0 : Int32) ≤ 0) = True := by decide
  have y1 : ((1 : Int32) ≤ 0) = False := by decide
  have y2 : ((2 : Int32) ≤ 0) = False := by decide
  have y3 : ((3 : Int32) ≤ 0) = False := by decide
  have x0 : ((2 : Int32) ≤ 0) = False := by decide
  have x1 : ((2 : Int32) ≤ 1) = False := by decide
  have x2 : ((2 : Int32) ≤ 2) = True := by decide
  have x3 : ((2 : Int32) ≤ 3) = True := by decide
  have a1 : (0 : Int32) + 1 = 1 := by decide
  have a2 : (1 : Int32) + 1 = 2 := by decide
  have a3 : (2 : Int32) + 1 = 3 := by decide
  have a4 : (3 : Int32) + 1 = 4 := by decide
  have r0 : Rr X (d + 4) MRm_stone 77 [.ref 81, .int (nI S), l2] [] (Wd (qm m s) la ro et) = Rr X (d + 4) MRm_stone 85 [.ref 81, .int (nI S), .int 1] [] (Wd (qm m1 (rtA m s).2) la ro et) := by
    rw [h1]
    unfold rtA
    simp only [r_MRm_stone_77, r_MRm_stone_78, r_MRm_stone_80, r_MRm_stone_83, r_MRm_stone_84, sL_0, sL_1, sL_2, mk_i, mk_r, mk_f, mk_n, mk_u, mk_l, List.set_cons_succ, List.set_cons_zero, Nat.reduceAdd, ckS_0, ckS_1, ckS_2, ckS_3, ckS_4, Option.bind_some, Option.isSome_some, psh, if_true, if_false, i10, not_true_eq_false, not_false_eq_true, Bool.false_eq_true, and_self, and_true, true_and, eq_self, qI_81_0, qI_81_2, qI_81_3, qI_81_9, qI_81_10, qI_81_11, qI_81_12, qI_81_13, qI_81_18, qI_81_19, qI_81_20, qI_81_21, qI_81_29, qI_81_30, qI_81_31, qI_81_32, qI_81_33, qI_81_34, qI_81_35, qI_81_39, qI_81_40, qI_81_41, qI_81_42, qI_81_43, qI_81_44, qI_81_45, qI_81_46, qI_81_47, qI_81_51, qI_81_53, qR_81_1, qRd_81_1, qR_81_4, qRd_81_4, qR_81_5, qRd_81_5, qR_81_6, qRd_81_6, qR_81_7, qRd_81_7, qR_81_8, qRd_81_8, qR_81_14, qRd_81_14, qR_81_15, qRd_81_15, qR_81_16, qRd_81_16, qR_81_17, qRd_81_17, qR_81_22, qRd_81_22, qR_81_23, qRd_81_23, qR_81_24, qRd_81_24, qR_81_25, qRd_81_25, qR_81_26, qRd_81_26, qR_81_27, qRd_81_27, qR_81_28, qRd_81_28, qR_81_36, qRd_81_36, qR_81_37, qRd_81_37, qR_81_38, qRd_81_38, qR_81_48, qRd_81_48, qR_81_49, qRd_81_49, qR_81_50, qRd_81_50, qR_81_52, qRd_81_52, qR_81_54, qRd_81_54, qR_81_55, qRd_81_55, qR_81_56, qRd_81_56, qR_81_57, qRd_81_57, qR_81_58, qRd_81_58, qO_81, t0]
    rw [r_MRm_stone_85]
    simp only [r_MRm_stone_86, r_MRm_stone_87, r_MRm_stone_90, r_MRm_stone_91, r_MRm_stone_94, r_MRm_stone_95, r_MRm_stone_97, r_MRm_stone_100, r_MRm_stone_101, r_MRm_stone_104, r_MRm_stone_105, r_MRm_stone_106, r_MRm_stone_107, r_MRm_stone_108, r_MRm_stone_109, r_MRm_stone_110, r_MRm_stone_111, r_MRm_stone_112, r_MRm_stone_115, r_MRm_stone_118, r_MRm_stone_121, r_MRm_stone_123, r_MRm_stone_126, r_MRm_stone_127, r_MRm_stone_130, sL_0, sL_1, sL_2, mk_i, mk_r, mk_f, mk_n, mk_u, mk_l, List.set_cons_succ, List.set_cons_zero, Nat.reduceAdd, ckS_0, ckS_1, ckS_2, ckS_3, ckS_4, Option.bind_some, Option.isSome_some, psh, if_true, if_false, i10, not_true_eq_false, not_false_eq_true, Bool.false_eq_true, and_self, and_true, true_and, eq_self, qI_81_0, qI_81_2, qI_81_3, qI_81_9, qI_81_10, qI_81_11, qI_81_12, qI_81_13, qI_81_18, qI_81_19, qI_81_20, qI_81_21, qI_81_29, qI_81_30, qI_81_31, qI_81_32, qI_81_33, qI_81_34, qI_81_35, qI_81_39, qI_81_40, qI_81_41, qI_81_42, qI_81_43, qI_81_44, qI_81_45, qI_81_46, qI_81_47, qI_81_51, qI_81_53, qR_81_1, qRd_81_1, qR_81_4, qRd_81_4, qR_81_5, qRd_81_5, qR_81_6, qRd_81_6, qR_81_7, qRd_81_7, qR_81_8, qRd_81_8, qR_81_14, qRd_81_14, qR_81_15, qRd_81_15, qR_81_16, qRd_81_16, qR_81_17, qRd_81_17, qR_81_22, qRd_81_22, qR_81_23, qRd_81_23, qR_81_24, qRd_81_24, qR_81_25, qRd_81_25, qR_81_26, qRd_81_26, qR_81_27, qRd_81_27, qR_81_28, qRd_81_28, qR_81_36, qRd_81_36, qR_81_37, qRd_81_37, qR_81_38, qRd_81_38, qR_81_48, qRd_81_48, qR_81_49, qRd_81_49, qR_81_50, qRd_81_50, qR_81_52, qRd_81_52, qR_81_54, qRd_81_54, qR_81_55, qRd_81_55, qR_81_56, qRd_81_56, qR_81_57, qRd_81_57, qR_81_58, qRd_81_58, qA_87, qAd_87, qO_81, qL_87, qLd_87, z1, y0, x0, e40, n0, c0, i0, u87, a1]
  have r1 : Rr X (d + 4) MRm_stone 85 [.ref 81, .int (nI S), .int 1] [] (Wd (qm m1 (rtA m s).2) la ro et) = Rr X (d + 4) MRm_stone 85 [.ref 81, .int (nI S), .int 2] [] (Wd (qm m2 (rtB m s).2) la ro et) := by
    rw [h2]
    unfold rtB
    rw [r_MRm_stone_85]
    simp only [r_MRm_stone_86, r_MRm_stone_87, r_MRm_stone_90, r_MRm_stone_91, r_MRm_stone_94, r_MRm_stone_95, r_MRm_stone_97, r_MRm_stone_100, r_MRm_stone_101, r_MRm_stone_104, r_MRm_stone_105, r_MRm_stone_106, r_MRm_stone_107, r_MRm_stone_108, r_MRm_stone_109, r_MRm_stone_110, r_MRm_stone_111, r_MRm_stone_112, r_MRm_stone_115, r_MRm_stone_118, r_MRm_stone_121, r_MRm_stone_123, r_MRm_stone_126, r_MRm_stone_127, r_MRm_stone_130, sL_0, sL_1, sL_2, mk_i, mk_r, mk_f, mk_n, mk_u, mk_l, List.set_cons_succ, List.set_cons_zero, Nat.reduceAdd, ckS_0, ckS_1, ckS_2, ckS_3, ckS_4, Option.bind_some, Option.isSome_some, psh, if_true, if_false, i10, not_true_eq_false, not_false_eq_true, Bool.false_eq_true, and_self, and_true, true_and, eq_self, qI_81_0, qI_81_2, qI_81_3, qI_81_9, qI_81_10, qI_81_11, qI_81_12, qI_81_13, qI_81_18, qI_81_19, qI_81_20, qI_81_21, qI_81_29, qI_81_30, qI_81_31, qI_81_32, qI_81_33, qI_81_34, qI_81_35, qI_81_39, qI_81_40, qI_81_41, qI_81_42, qI_81_43, qI_81_44, qI_81_45, qI_81_46, qI_81_47, qI_81_51, qI_81_53, qR_81_1, qRd_81_1, qR_81_4, qRd_81_4, qR_81_5, qRd_81_5, qR_81_6, qRd_81_6, qR_81_7, qRd_81_7, qR_81_8, qRd_81_8, qR_81_14, qRd_81_14, qR_81_15, qRd_81_15, qR_81_16, qRd_81_16, qR_81_17, qRd_81_17, qR_81_22, qRd_81_22, qR_81_23, qRd_81_23, qR_81_24, qRd_81_24, qR_81_25, qRd_81_25, qR_81_26, qRd_81_26, qR_81_27, qRd_81_27, qR_81_28, qRd_81_28, qR_81_36, qRd_81_36, qR_81_37, qRd_81_37, qR_81_38, qRd_81_38, qR_81_48, qRd_81_48, qR_81_49, qRd_81_49, qR_81_50, qRd_81_50, qR_81_52, qRd_81_52, qR_81_54, qRd_81_54, qR_81_55, qRd_81_55, qR_81_56, qRd_81_56, qR_81_57, qRd_81_57, qR_81_58, qRd_81_58, qA_87, qAd_87, qO_81, qL_87, qLd_87, z2, y1, x1, t1, e41, n1, c1, i1, u87, a2]
  have r2 : Rr X (d + 4) MRm_stone 85 [.ref 81, .int (nI S), .int 2] [] (Wd (qm m2 (rtB m s).2) la ro et) = Rr X (d + 4) MRm_stone 85 [.ref 81, .int (nI S), .int 3] [] (Wd (qm m3 (rtC m s).2) la ro et) := by
    rw [h3]
    unfold rtC
    rw [r_MRm_stone_85]
    simp only [r_MRm_stone_86, r_MRm_stone_87, r_MRm_stone_90, r_MRm_stone_91, r_MRm_stone_94, r_MRm_stone_95, r_MRm_stone_97, r_MRm_stone_100, r_MRm_stone_101, r_MRm_stone_104, r_MRm_stone_105, r_MRm_stone_106, r_MRm_stone_107, r_MRm_stone_108, r_MRm_stone_109, r_MRm_stone_110, r_MRm_stone_111, r_MRm_stone_112, r_MRm_stone_115, r_MRm_stone_118, r_MRm_stone_121, r_MRm_stone_123, r_MRm_stone_126, r_MRm_stone_127, r_MRm_stone_130, sL_0, sL_1, sL_2, mk_i, mk_r, mk_f, mk_n, mk_u, mk_l, List.set_cons_succ, List.set_cons_zero, Nat.reduceAdd, ckS_0, ckS_1, ckS_2, ckS_3, ckS_4, Option.bind_some, Option.isSome_some, psh, if_true, if_false, i10, not_true_eq_false, not_false_eq_true, Bool.false_eq_true, and_self, and_true, true_and, eq_self, qI_81_0, qI_81_2, qI_81_3, qI_81_9, qI_81_10, qI_81_11, qI_81_12, qI_81_13, qI_81_18, qI_81_19, qI_81_20, qI_81_21, qI_81_29, qI_81_30, qI_81_31, qI_81_32, qI_81_33, qI_81_34, qI_81_35, qI_81_39, qI_81_40, qI_81_41, qI_81_42, qI_81_43, qI_81_44, qI_81_45, qI_81_46, qI_81_47, qI_81_51, qI_81_53, qR_81_1, qRd_81_1, qR_81_4, qRd_81_4, qR_81_5, qRd_81_5, qR_81_6, qRd_81_6, qR_81_7, qRd_81_7, qR_81_8, qRd_81_8, qR_81_14, qRd_81_14, qR_81_15, qRd_81_15, qR_81_16, qRd_81_16, qR_81_17, qRd_81_17, qR_81_22, qRd_81_22, qR_81_23, qRd_81_23, qR_81_24, qRd_81_24, qR_81_25, qRd_81_25, qR_81_26, qRd_81_26, qR_81_27, qRd_81_27, qR_81_28, qRd_81_28, qR_81_36, qRd_81_36, qR_81_37, qRd_81_37, qR_81_38, qRd_81_38, qR_81_48, qRd_81_48, qR_81_49, qRd_81_49, qR_81_50, qRd_81_50, qR_81_52, qRd_81_52, qR_81_54, qRd_81_54, qR_81_55, qRd_81_55, qR_81_56, qRd_81_56, qR_81_57, qRd_81_57, qR_81_58, qRd_81_58, qA_87, qAd_87, qO_81, qL_87, qLd_87, z3, y2, x2, t2, e42, n2, c2, i2, u87, a3]
  rw [r0, r1, r2]
  have r3 : Rr X (d + 4) MRm_stone 85 [.ref 81, .int (nI S), .int 3] [] (Wd (qm m3 (rtC m s).2) la ro et) = Rr X (d + 4) MRm_stone 85 [.ref 81, .int (nI S), .int 4] [] (Wd (qm (up2 m3 87 (4 * S + 3) (rtD m s).1) (rtD m s).2) la ro et) := by
    unfold rtD
    rw [r_MRm_stone_85]
    simp only [r_MRm_stone_86, r_MRm_stone_87, r_MRm_stone_90, r_MRm_stone_91, r_MRm_stone_94, r_MRm_stone_95, r_MRm_stone_97, r_MRm_stone_100, r_MRm_stone_101, r_MRm_stone_104, r_MRm_stone_105, r_MRm_stone_106, r_MRm_stone_107, r_MRm_stone_108, r_MRm_stone_109, r_MRm_stone_110, r_MRm_stone_111, r_MRm_stone_112, r_MRm_stone_115, r_MRm_stone_118, r_MRm_stone_121, r_MRm_stone_123, r_MRm_stone_126, r_MRm_stone_127, r_MRm_stone_130, sL_0, sL_1, sL_2, mk_i, mk_r, mk_f, mk_n, mk_u, mk_l, List.set_cons_succ, List.set_cons_zero, Nat.reduceAdd, ckS_0, ckS_1, ckS_2, ckS_3, ckS_4, Option.bind_some, Option.isSome_some, psh, if_true, if_false, i10, not_true_eq_false, not_false_eq_true, Bool.false_eq_true, and_self, and_true, true_and, eq_self, qI_81_0, qI_81_2, qI_81_3, qI_81_9, qI_81_10, qI_81_11, qI_81_12, qI_81_13, qI_81_18, qI_81_19, qI_81_20, qI_81_21, qI_81_29, qI_81_30, qI_81_31, qI_81_32, qI_81_33, qI_81_34, qI_81_35, qI_81_39, qI_81_40, qI_81_41, qI_81_42, qI_81_43, qI_81_44, qI_81_45, qI_81_46, qI_81_47, qI_81_51, qI_81_53, qR_81_1, qRd_81_1, qR_81_4, qRd_81_4, qR_81_5, qRd_81_5, qR_81_6, qRd_81_6, qR_81_7, qRd_81_7, qR_81_8, qRd_81_8, qR_81_14, qRd_81_14, qR_81_15, qRd_81_15, qR_81_16, qRd_81_16, qR_81_17, qRd_81_17, qR_81_22, qRd_81_22, qR_81_23, qRd_81_23, qR_81_24, qRd_81_24, qR_81_25, qRd_81_25, qR_81_26, qRd_81_26, qR_81_27, qRd_81_27, qR_81_28, qRd_81_28, qR_81_36, qRd_81_36, qR_81_37, qRd_81_37, qR_81_38, qRd_81_38, qR_81_48, qRd_81_48, qR_81_49, qRd_81_49, qR_81_50, qRd_81_50, qR_81_52, qRd_81_52, qR_81_54, qRd_81_54, qR_81_55, qRd_81_55, qR_81_56, qRd_81_56, qR_81_57, qRd_81_57, qR_81_58, qRd_81_58, qA_87, qAd_87, qO_81, qL_87, qLd_87, z4, y3, x3, t3, e43, n3, c3, i3, u87, a4]
  rw [r3, r_MRm_stone_85]
  simp only [r_MRm_stone_86, r_MRm_stone_87, z5, if_true]
  rw [h3, h2, h1]
  rfl
/-- the model's memory when a stone's text is read -/
noncomputable def srM (m : Mu) (S : Nat) : Mu := rtM4 (lmsM (up2 m 83 S 0) S 0 (stW m)) S (rtA m (stZ m)).1 (rtB m (stZ m)).1 (rtC m (stZ m)).1 (rtD m (stZ m)).1
theorem qm_0 : up2 (up2 m 81 18 0) 81 19 (-1) = qm m (0, none) := rfl
theorem e_stoneM {S : Nat} (hg : gOk ivG m) (hS : S ≤ 6) (h3 : m 81 3 = nI S) : ∃ mu', Rr X (d + 4) MRm_stone 0 [.ref 81, mkU, mkU] [] (Wd m la ro et) = some (some (.int (if S = 6 then -3 else if noS (stEnd m) = true then nI S else -100 - fI' (stEnd m).2)), Wd mu' la ro et) ∧ mu' = if S = 6 then m else if noS (stEnd m) = true then up2 (up2 (qm (srM m S) (stEnd m)) 81 2 0) 81 3 (nI (S + 1)) else up2 (qm (srM m S) (stEnd m)) 81 2 0 := by
  refine ⟨_, ?_, rfl⟩
  by_cases c6 : S = 6
  · subst c6
    have z : nI 6 = 6 := rfl
    rw [if_pos rfl, if_pos rfl]
    simp only [r_MRm_stone_0, r_MRm_stone_1, r_MRm_stone_4, r_MRm_stone_6, r_MRm_stone_9, r_MRm_stone_11, sL_0, sL_1, sL_2, mk_i, mk_r, mk_f, mk_n, mk_u, mk_l, List.set_cons_succ, List.set_cons_zero, Nat.reduceAdd, ckS_0, ckS_1, ckS_2, ckS_3, ckS_4, Option.bind_some, Option.isSome_some, psh, if_true, if_false, i10, not_true_eq_false, not_false_eq_true, Bool.false_eq_true, and_self, and_true, true_and, eq_self, qI_81_0, qI_81_2, qI_81_3, qI_81_9, qI_81_10, qI_81_11, qI_81_12, qI_81_13, qI_81_18, qI_81_19, qI_81_20, qI_81_21, qI_81_29, qI_81_30, qI_81_31, qI_81_32, qI_81_33, qI_81_34, qI_81_35, qI_81_39, qI_81_40, qI_81_41, qI_81_42, qI_81_43, qI_81_44, qI_81_45, qI_81_46, qI_81_47, qI_81_51, qI_81_53, qR_81_1, qRd_81_1, qR_81_4, qRd_81_4, qR_81_5, qRd_81_5, qR_81_6, qRd_81_6, qR_81_7, qRd_81_7, qR_81_8, qRd_81_8, qR_81_14, qRd_81_14, qR_81_15, qRd_81_15, qR_81_16, qRd_81_16, qR_81_17, qRd_81_17, qR_81_22, qRd_81_22, qR_81_23, qRd_81_23, qR_81_24, qRd_81_24, qR_81_25, qRd_81_25, qR_81_26, qRd_81_26, qR_81_27, qRd_81_27, qR_81_28, qRd_81_28, qR_81_36, qRd_81_36, qR_81_37, qRd_81_37, qR_81_38, qRd_81_38, qR_81_48, qRd_81_48, qR_81_49, qRd_81_49, qR_81_50, qRd_81_50, qR_81_52, qRd_81_52, qR_81_54, qRd_81_54, qR_81_55, qRd_81_55, qR_81_56, qRd_81_56, qR_81_57, qRd_81_57, qR_81_58, qRd_81_58, qO_81, h3, z]
  · have hS6 : S < 6 := by omega
    have z : ¬ nI S = 6 := fun q => c6 ((nI_eq (b := 6) (by omega) (by omega)).mp q)
    have hT := g_tOK hg
    rw [if_neg c6, if_neg c6]
    obtain ⟨m0', hm⟩ : ∃ m0', m0' = up2 m 83 S 0 := ⟨_, rfl⟩
    have b0 : bt m0' = bt m := by rw [hm]; exact bt_84 (by decide)
    have T0 : tOK m0' := by rw [hm]; exact tOK_84 (by decide) hT
    have w0 : Tt m0' = Tt m := by rw [hm]; exact Tt_84 (by decide)
    have fz : fw m (0, none) (0, none) := fw_r (Nat.zero_le _) (fun k h => by cases h)
    have h83 : m0' 83 S = nI 0 := by rw [hm]; exact up2_s _ _ _ _
    have el := e_lumpM (X := X) (d := d) (la := la) (ro := ro) (et := et) (m := m0') (s := (0, none)) T0 (fw_c w0 fz) hS6 (by decide) h83
    rw [lpS_c b0] at el
    have f1 := fw_lp fz
    have lp := stM_loop (X := X) (d := d) (la := la) (ro := ro) (et := et) (l2 := mkU) hS6 11 1 (lpS m (0, none)).2 (lmM m0' S 0 (lpS m (0, none)).1) rfl (lmM_tOK T0) (fw_c (lmM_Tt.trans w0) (fw_r f1.2.1 f1.2.2)) (up2_s _ _ _ _)
    rw [lpsS_c (lmM_bt.trans b0)] at lp
    have em : lmsM (lmM m0' S 0 (lpS m (0, none)).1) S 1 (lpsS m 11 (lpS m (0, none)).2).1 = lmsM m0' S 0 (stW m) := rfl
    have ez : (lpsS m 11 (lpS m (0, none)).2).2 = stZ m := rfl
    rw [em, ez] at lp
    obtain ⟨p1, p2, p3, p4⟩ := lmsM_o (S := S) (stW m) 0 m0'
    have f2 : fw m (0, none) (stZ m) := fw_lps 11 _ f1
    have er := e_ratesM (X := X) (d := d) (la := la) (ro := ro) (et := et) (m := lmsM m0' S 0 (stW m)) (s := stZ m) (l2 := mkU) hS6 (p3 T0) (fw_c (p2.trans w0) (fw_r f2.2.1 f2.2.2))
    have bb : bt (lmsM m0' S 0 (stW m)) = bt m := p1.trans b0
    rw [rtA_c bb, rtB_c bb, rtC_c bb, rtD_c bb] at er
    have es : rtM4 (lmsM m0' S 0 (stW m)) S (rtA m (stZ m)).1 (rtB m (stZ m)).1 (rtC m (stZ m)).1 (rtD m (stZ m)).1 = srM m S := by rw [hm]; rfl
    rw [es] at er
    have f3 : fw m (0, none) (rtD m (stZ m)).2 := fw_nm (fw_tk (by decide) (fw_nm (fw_tk (by decide) (fw_nm (fw_tk (by decide) (fw_nm (fw_tk (by decide) f2)))))))
    have cS : (nI S).toNatClampNeg = S := nI_clamp (by omega)
    have iS := ix (j := S) (N := 7) (by omega) (by decide)
    have q3 : ∀ mm s, qm mm s 81 3 = mm 81 3 := fun mm s => qm_81 (by decide) (by decide)
    have q3' : m0' 81 3 = nI S := by rw [hm, up2_a (by decide)]; exact h3
    have s3 : srM m S 81 3 = nI S := by
      have h : ∀ (W : List Lp) (L : Nat) (x : Mu), lmsM x S L W 81 3 = x 81 3 := by
        intro W
        induction W with
        | nil => intro L x; rfl
        | cons y W ih =>
          intro L x
          rw [lmsM, ih]
          unfold lmM
          rw [up2_a (by decide), up2_a (by decide), up2_a (by decide), up2_a (by decide)]
      unfold srM rtM4
      rw [up2_a (by decide), up2_a (by decide), up2_a (by decide), up2_a (by decide), h, up2_a (by decide)]
      exact h3
    have s2 : srM m S 81 2 = nI (Tt m) := by
      have h : ∀ (W : List Lp) (L : Nat) (x : Mu), lmsM x S L W 81 2 = x 81 2 := by
        intro W
        induction W with
        | nil => intro L x; rfl
        | cons y W ih =>
          intro L x
          rw [lmsM, ih]
          unfold lmM
          rw [up2_a (by decide), up2_a (by decide), up2_a (by decide), up2_a (by decide)]
      unfold srM rtM4
      rw [up2_a (by decide), up2_a (by decide), up2_a (by decide), up2_a (by decide), h, up2_a (by decide)]
      obtain ⟨T, t1, t2⟩ := hT
      unfold Tt
      rw [t2, nI_clamp (by omega)]
    have hT2 := Tt_le hT
    have bS3 := fw_bS hT f3
    have i83 : ∀ s, up2 (qm m s) 83 S 0 = qm m0' s := fun s => by rw [hm]; exact qm_up (by decide)
    have q30 : qm m (0, none) 81 3 = nI S := (q3 _ _).trans h3
    -- the end
    have key : Rr X (d + 4) MRm_stone 0 [.ref 81, mkU, mkU] [] (Wd m la ro et) = Rr X (d + 4) MRm_stone 159 [.ref 81, .int (nI S), .int 4] [] (Wd (qm (srM m S) (stEnd m)) la ro et) := by
      have k1 : Rr X (d + 4) MRm_stone 0 [.ref 81, mkU, mkU] [] (Wd m la ro et) = Rr X (d + 4) MRm_stone 133 [.ref 81, .int (nI S), .int 4] [] (Wd (qm (srM m S) (rtD m (stZ m)).2) la ro et) := by
        rw [← er, ← lp]
        simp only [r_MRm_stone_0, r_MRm_stone_1, r_MRm_stone_4, r_MRm_stone_6, r_MRm_stone_9, r_MRm_stone_11, r_MRm_stone_12, r_MRm_stone_13, r_MRm_stone_14, r_MRm_stone_17, r_MRm_stone_18, r_MRm_stone_19, r_MRm_stone_22, r_MRm_stone_23, r_MRm_stone_26, r_MRm_stone_27, r_MRm_stone_28, r_MRm_stone_31, r_MRm_stone_32, r_MRm_stone_33, r_MRm_stone_34, r_MRm_stone_35, r_MRm_stone_36, sL_0, sL_1, sL_2, mk_i, mk_r, mk_f, mk_n, mk_u, mk_l, List.set_cons_succ, List.set_cons_zero, Nat.reduceAdd, ckS_0, ckS_1, ckS_2, ckS_3, ckS_4, Option.bind_some, Option.isSome_some, psh, if_true, if_false, i10, not_true_eq_false, not_false_eq_true, Bool.false_eq_true, and_self, and_true, true_and, eq_self, qI_81_0, qI_81_2, qI_81_3, qI_81_9, qI_81_10, qI_81_11, qI_81_12, qI_81_13, qI_81_18, qI_81_19, qI_81_20, qI_81_21, qI_81_29, qI_81_30, qI_81_31, qI_81_32, qI_81_33, qI_81_34, qI_81_35, qI_81_39, qI_81_40, qI_81_41, qI_81_42, qI_81_43, qI_81_44, qI_81_45, qI_81_46, qI_81_47, qI_81_51, qI_81_53, qR_81_1, qRd_81_1, qR_81_4, qRd_81_4, qR_81_5, qRd_81_5, qR_81_6, qRd_81_6, qR_81_7, qRd_81_7, qR_81_8, qRd_81_8, qR_81_14, qRd_81_14, qR_81_15, qRd_81_15, qR_81_16, qRd_81_16, qR_81_17, qRd_81_17, qR_81_22, qRd_81_22, qR_81_23, qRd_81_23, qR_81_24, qRd_81_24, qR_81_25, qRd_81_25, qR_81_26, qRd_81_26, qR_81_27, qRd_81_27, qR_81_28, qRd_81_28, qR_81_36, qRd_81_36, qR_81_37, qRd_81_37, qR_81_38, qRd_81_38, qR_81_48, qRd_81_48, qR_81_49, qRd_81_49, qR_81_50, qRd_81_50, qR_81_52, qRd_81_52, qR_81_54, qRd_81_54, qR_81_55, qRd_81_55, qR_81_56, qRd_81_56, qR_81_57, qRd_81_57, qR_81_58, qRd_81_58, qA_83, qAd_83, qO_81, qL_83, qLd_83, h3, z, qm_0, q30, cS, iS, i83, el]
      rw [k1]
      have eT : stEnd m = enT m (rtD m (stZ m)).2 := rfl
      rw [eT]
      generalize (rtD m (stZ m)).2 = s at *
      unfold enT
      have q2 : qm (srM m S) s 81 2 = nI (Tt m) := (qm_81 (by decide) (by decide)).trans s2
      by_cases c : noS s = true
      · rw [if_pos c]
        by_cases c2 : s.1 < Tt m
        · have h1 : ¬ nI (Tt m) ≤ nI s.1 := nI_ge c2 (by omega)
          rw [if_pos c2]
          simp only [r_MRm_stone_133, r_MRm_stone_134, r_MRm_stone_137, r_MRm_stone_140, r_MRm_stone_141, r_MRm_stone_144, r_MRm_stone_145, r_MRm_stone_148, r_MRm_stone_151, r_MRm_stone_152, r_MRm_stone_153, r_MRm_stone_156, sL_0, sL_1, sL_2, mk_i, mk_r, mk_f, mk_n, mk_u, mk_l, List.set_cons_succ, List.set_cons_zero, Nat.reduceAdd, ckS_0, ckS_1, ckS_2, ckS_3, ckS_4, Option.bind_some, Option.isSome_some, psh, if_true, if_false, i10, not_true_eq_false, not_false_eq_true, Bool.false_eq_true, and_self, and_true, true_and, eq_self, qI_81_0, qI_81_2, qI_81_3, qI_81_9, qI_81_10, qI_81_11, qI_81_12, qI_81_13, qI_81_18, qI_81_19, qI_81_20, qI_81_21, qI_81_29, qI_81_30, qI_81_31, qI_81_32, qI_81_33, qI_81_34, qI_81_35, qI_81_39, qI_81_40, qI_81_41, qI_81_42, qI_81_43, qI_81_44, qI_81_45, qI_81_46, qI_81_47, qI_81_51, qI_81_53, qR_81_1, qRd_81_1, qR_81_4, qRd_81_4, qR_81_5, qRd_81_5, qR_81_6, qRd_81_6, qR_81_7, qRd_81_7, qR_81_8, qRd_81_8, qR_81_14, qRd_81_14, qR_81_15, qRd_81_15, qR_81_16, qRd_81_16, qR_81_17, qRd_81_17, qR_81_22, qRd_81_22, qR_81_23, qRd_81_23, qR_81_24, qRd_81_24, qR_81_25, qRd_81_25, qR_81_26, qRd_81_26, qR_81_27, qRd_81_27, qR_81_28, qRd_81_28, qR_81_36, qRd_81_36, qR_81_37, qRd_81_37, qR_81_38, qRd_81_38, qR_81_48, qRd_81_48, qR_81_49, qRd_81_49, qR_81_50, qRd_81_50, qR_81_52, qRd_81_52, qR_81_54, qRd_81_54, qR_81_55, qRd_81_55, qR_81_56, qRd_81_56, qR_81_57, qRd_81_57, qR_81_58, qRd_81_58, qO_81, qm_19, fi0 c, qm_18, q2, h1, qm_fl c]
        · have h1 : nI (Tt m) ≤ nI s.1 := nI_le (by omega) (by have := f3.2.1; omega)
          rw [if_neg c2]
          simp only [r_MRm_stone_133, r_MRm_stone_134, r_MRm_stone_137, r_MRm_stone_140, r_MRm_stone_141, r_MRm_stone_144, r_MRm_stone_145, r_MRm_stone_148, r_MRm_stone_151, r_MRm_stone_152, r_MRm_stone_153, r_MRm_stone_156, sL_0, sL_1, sL_2, mk_i, mk_r, mk_f, mk_n, mk_u, mk_l, List.set_cons_succ, List.set_cons_zero, Nat.reduceAdd, ckS_0, ckS_1, ckS_2, ckS_3, ckS_4, Option.bind_some, Option.isSome_some, psh, if_true, if_false, i10, not_true_eq_false, not_false_eq_true, Bool.false_eq_true, and_self, and_true, true_and, eq_self, qI_81_0, qI_81_2, qI_81_3, qI_81_9, qI_81_10, qI_81_11, qI_81_12, qI_81_13, qI_81_18, qI_81_19, qI_81_20, qI_81_21, qI_81_29, qI_81_30, qI_81_31, qI_81_32, qI_81_33, qI_81_34, qI_81_35, qI_81_39, qI_81_40, qI_81_41, qI_81_42, qI_81_43, qI_81_44, qI_81_45, qI_81_46, qI_81_47, qI_81_51, qI_81_53, qR_81_1, qRd_81_1, qR_81_4, qRd_81_4, qR_81_5, qRd_81_5, qR_81_6, qRd_81_6, qR_81_7, qRd_81_7, qR_81_8, qRd_81_8, qR_81_14, qRd_81_14, qR_81_15, qRd_81_15, qR_81_16, qRd_81_16, qR_81_17, qRd_81_17, qR_81_22, qRd_81_22, qR_81_23, qRd_81_23, qR_81_24, qRd_81_24, qR_81_25, qRd_81_25, qR_81_26, qRd_81_26, qR_81_27, qRd_81_27, qR_81_28, qRd_81_28, qR_81_36, qRd_81_36, qR_81_37, qRd_81_37, qR_81_38, qRd_81_38, qR_81_48, qRd_81_48, qR_81_49, qRd_81_49, qR_81_50, qRd_81_50, qR_81_52, qRd_81_52, qR_81_54, qRd_81_54, qR_81_55, qRd_81_55, qR_81_56, qRd_81_56, qR_81_57, qRd_81_57, qR_81_58, qRd_81_58, qO_81, qm_19, fi0 c, qm_18, q2, h1]
      · rw [if_neg c]
        simp only [r_MRm_stone_133, r_MRm_stone_134, r_MRm_stone_137, r_MRm_stone_140, r_MRm_stone_141, r_MRm_stone_144, r_MRm_stone_145, r_MRm_stone_148, r_MRm_stone_151, r_MRm_stone_152, r_MRm_stone_153, r_MRm_stone_156, sL_0, sL_1, sL_2, mk_i, mk_r, mk_f, mk_n, mk_u, mk_l, List.set_cons_succ, List.set_cons_zero, Nat.reduceAdd, ckS_0, ckS_1, ckS_2, ckS_3, ckS_4, Option.bind_some, Option.isSome_some, psh, if_true, if_false, i10, not_true_eq_false, not_false_eq_true, Bool.false_eq_true, and_self, and_true, true_and, eq_self, qI_81_0, qI_81_2, qI_81_3, qI_81_9, qI_81_10, qI_81_11, qI_81_12, qI_81_13, qI_81_18, qI_81_19, qI_81_20, qI_81_21, qI_81_29, qI_81_30, qI_81_31, qI_81_32, qI_81_33, qI_81_34, qI_81_35, qI_81_39, qI_81_40, qI_81_41, qI_81_42, qI_81_43, qI_81_44, qI_81_45, qI_81_46, qI_81_47, qI_81_51, qI_81_53, qR_81_1, qRd_81_1, qR_81_4, qRd_81_4, qR_81_5, qRd_81_5, qR_81_6, qRd_81_6, qR_81_7, qRd_81_7, qR_81_8, qRd_81_8, qR_81_14, qRd_81_14, qR_81_15, qRd_81_15, qR_81_16, qRd_81_16, qR_81_17, qRd_81_17, qR_81_22, qRd_81_22, qR_81_23, qRd_81_23, qR_81_24, qRd_81_24, qR_81_25, qRd_81_25, qR_81_26, qRd_81_26, qR_81_27, qRd_81_27, qR_81_28, qRd_81_28, qR_81_36, qRd_81_36, qR_81_37, qRd_81_37, qR_81_38, qRd_81_38, qR_81_48, qRd_81_48, qR_81_49, qRd_81_49, qR_81_50, qRd_81_50, qR_81_52, qRd_81_52, qR_81_54, qRd_81_54, qR_81_55, qRd_81_55, qR_81_56, qRd_81_56, qR_81_57, qRd_81_57, qR_81_58, qRd_81_58, qO_81, qm_19, fi1 bS3 c]
    rw [key]
    have bE : bS (stEnd m) := by
      have : fw m (0, none) (stEnd m) := by
        unfold stEnd enT
        split
        · split
          · exact fw_fl f3
          · exact f3
        · exact f3
      exact fw_bS hT this
    have e19 : up2 (qm (srM m S) (stEnd m)) 81 2 0 81 19 = fI' (stEnd m).2 := (up2_k (by decide)).trans qm_19
    have e3 : up2 (qm (srM m S) (stEnd m)) 81 2 0 81 3 = nI S := (up2_k (by decide)).trans ((q3 _ _).trans s3)
    by_cases c : noS (stEnd m) = true
    · rw [if_pos c, if_pos c]
      simp only [r_MRm_stone_159, r_MRm_stone_160, r_MRm_stone_161, r_MRm_stone_164, r_MRm_stone_165, r_MRm_stone_168, r_MRm_stone_171, r_MRm_stone_173, r_MRm_stone_174, r_MRm_stone_177, r_MRm_stone_178, r_MRm_stone_179, r_MRm_stone_180, r_MRm_stone_180i, r_MRm_stone_181, r_MRm_stone_184, r_MRm_stone_185, r_MRm_stone_186, r_MRm_stone_189, r_MRm_stone_190, sL_0, sL_1, sL_2, mk_i, mk_r, mk_f, mk_n, mk_u, mk_l, List.set_cons_succ, List.set_cons_zero, Nat.reduceAdd, ckS_0, ckS_1, ckS_2, ckS_3, ckS_4, Option.bind_some, Option.isSome_some, psh, if_true, if_false, i10, not_true_eq_false, not_false_eq_true, Bool.false_eq_true, and_self, and_true, true_and, eq_self, qI_81_0, qI_81_2, qI_81_3, qI_81_9, qI_81_10, qI_81_11, qI_81_12, qI_81_13, qI_81_18, qI_81_19, qI_81_20, qI_81_21, qI_81_29, qI_81_30, qI_81_31, qI_81_32, qI_81_33, qI_81_34, qI_81_35, qI_81_39, qI_81_40, qI_81_41, qI_81_42, qI_81_43, qI_81_44, qI_81_45, qI_81_46, qI_81_47, qI_81_51, qI_81_53, qR_81_1, qRd_81_1, qR_81_4, qRd_81_4, qR_81_5, qRd_81_5, qR_81_6, qRd_81_6, qR_81_7, qRd_81_7, qR_81_8, qRd_81_8, qR_81_14, qRd_81_14, qR_81_15, qRd_81_15, qR_81_16, qRd_81_16, qR_81_17, qRd_81_17, qR_81_22, qRd_81_22, qR_81_23, qRd_81_23, qR_81_24, qRd_81_24, qR_81_25, qRd_81_25, qR_81_26, qRd_81_26, qR_81_27, qRd_81_27, qR_81_28, qRd_81_28, qR_81_36, qRd_81_36, qR_81_37, qRd_81_37, qR_81_38, qRd_81_38, qR_81_48, qRd_81_48, qR_81_49, qRd_81_49, qR_81_50, qRd_81_50, qR_81_52, qRd_81_52, qR_81_54, qRd_81_54, qR_81_55, qRd_81_55, qR_81_56, qRd_81_56, qR_81_57, qRd_81_57, qR_81_58, qRd_81_58, qO_81, e19, fl0 c, e3, nI_1]
    · rw [if_neg c, if_neg c]
      simp only [r_MRm_stone_159, r_MRm_stone_160, r_MRm_stone_161, r_MRm_stone_164, r_MRm_stone_165, r_MRm_stone_168, r_MRm_stone_171, r_MRm_stone_173, r_MRm_stone_174, r_MRm_stone_177, r_MRm_stone_178, r_MRm_stone_179, r_MRm_stone_180, r_MRm_stone_180i, r_MRm_stone_181, r_MRm_stone_184, r_MRm_stone_185, r_MRm_stone_186, r_MRm_stone_189, r_MRm_stone_190, sL_0, sL_1, sL_2, mk_i, mk_r, mk_f, mk_n, mk_u, mk_l, List.set_cons_succ, List.set_cons_zero, Nat.reduceAdd, ckS_0, ckS_1, ckS_2, ckS_3, ckS_4, Option.bind_some, Option.isSome_some, psh, if_true, if_false, i10, not_true_eq_false, not_false_eq_true, Bool.false_eq_true, and_self, and_true, true_and, eq_self, qI_81_0, qI_81_2, qI_81_3, qI_81_9, qI_81_10, qI_81_11, qI_81_12, qI_81_13, qI_81_18, qI_81_19, qI_81_20, qI_81_21, qI_81_29, qI_81_30, qI_81_31, qI_81_32, qI_81_33, qI_81_34, qI_81_35, qI_81_39, qI_81_40, qI_81_41, qI_81_42, qI_81_43, qI_81_44, qI_81_45, qI_81_46, qI_81_47, qI_81_51, qI_81_53, qR_81_1, qRd_81_1, qR_81_4, qRd_81_4, qR_81_5, qRd_81_5, qR_81_6, qRd_81_6, qR_81_7, qRd_81_7, qR_81_8, qRd_81_8, qR_81_14, qRd_81_14, qR_81_15, qRd_81_15, qR_81_16, qRd_81_16, qR_81_17, qRd_81_17, qR_81_22, qRd_81_22, qR_81_23, qRd_81_23, qR_81_24, qRd_81_24, qR_81_25, qRd_81_25, qR_81_26, qRd_81_26, qR_81_27, qRd_81_27, qR_81_28, qRd_81_28, qR_81_36, qRd_81_36, qR_81_37, qRd_81_37, qR_81_38, qRd_81_38, qR_81_48, qRd_81_48, qR_81_49, qRd_81_49, qR_81_50, qRd_81_50, qR_81_52, qRd_81_52, qR_81_54, qRd_81_54, qR_81_55, qRd_81_55, qR_81_56, qRd_81_56, qR_81_57, qRd_81_57, qR_81_58, qRd_81_58, qO_81, e19, fl1 bE c]
end
