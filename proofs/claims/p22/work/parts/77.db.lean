-- ===== bodies, exactly, on both sides; keeping a body on a shelf
section
variable {X : Tok} {d : Nat} {mu mu' : Mu} {la la' : La} {ro ro' : Ro} {et : Nat → Option va_E}
/-- both sides keep the same bodies, of the same kinds -/
def RBod (mu : Mu) (_ : La) (_ : Ro) : Prop := ∃ n : Nat, n ≤ 50 ∧ mu 16 2 = nI n ∧ mu 81 51 = nI n ∧ ∀ i, i < n → mu 17 i = mu 105 i
abbrev dBod : WS := [(16, 3), (81, 52), (17, 0), (105, 0)]
theorem RBod_f {w : WS} (h : wDis w dBod = true) (f : frm w mu la ro mu' la' ro') (q : RBod mu la ro) : RBod mu' la' ro' := by
  obtain ⟨n, h1, h2, h3, h4⟩ := q
  exact ⟨n, h1, (dis_f h f (by decide) (by decide)).trans h2, (dis_f h f (by decide) (by decide)).trans h3, fun i hi => by
    rw [dis_r (a := 17) (k := i) h f (by decide) (by decide), dis_r (a := 105) (k := i) h f (by decide) (by decide)]
    exact h4 i hi⟩
theorem e_isBody {n : Nat} {b : Int32} (h : mu 81 51 = nI n) : Rr X (d + 1) MRm_isBody 0 [.ref 81, .int b] [] (Wd mu la ro et) = some (some (.int (if 0 ≤ b ∧ b ≤ nI n - 1 then 1 else 0)), Wd mu la ro et) := by
  by_cases c : 0 ≤ b ∧ b ≤ nI n - 1
  · rw [if_pos c]
    simp only [r_MRm_isBody_0, r_MRm_isBody_1, r_MRm_isBody_2, r_MRm_isBody_3, r_MRm_isBody_6, r_MRm_isBody_7, r_MRm_isBody_8, r_MRm_isBody_11, sL_0, sL_1, sL_2, mk_i, mk_r, mk_f, mk_n, mk_u, mk_l, List.set_cons_succ, List.set_cons_zero, Nat.reduceAdd, ckS_0, ckS_1, ckS_2, ckS_3, ckS_4, Option.bind_some, Option.isSome_some, psh, if_true, if_false, i10, not_true_eq_false, not_false_eq_true, Bool.false_eq_true, and_self, and_true, true_and, eq_self, qI_81_0, qI_81_2, qI_81_3, qI_81_9, qI_81_10, qI_81_11, qI_81_12, qI_81_13, qI_81_18, qI_81_19, qI_81_20, qI_81_21, qI_81_29, qI_81_30, qI_81_31, qI_81_32, qI_81_33, qI_81_34, qI_81_35, qI_81_39, qI_81_40, qI_81_41, qI_81_42, qI_81_43, qI_81_44, qI_81_45, qI_81_46, qI_81_47, qI_81_51, qI_81_53, qR_81_1, qRd_81_1, qR_81_4, qRd_81_4, qR_81_5, qRd_81_5, qR_81_6, qRd_81_6, qR_81_7, qRd_81_7, qR_81_8, qRd_81_8, qR_81_14, qRd_81_14, qR_81_15, qRd_81_15, qR_81_16, qRd_81_16, qR_81_17, qRd_81_17, qR_81_22, qRd_81_22, qR_81_23, qRd_81_23, qR_81_24, qRd_81_24, qR_81_25, qRd_81_25, qR_81_26, qRd_81_26, qR_81_27, qRd_81_27, qR_81_28, qRd_81_28, qR_81_36, qRd_81_36, qR_81_37, qRd_81_37, qR_81_38, qRd_81_38, qR_81_48, qRd_81_48, qR_81_49, qRd_81_49, qR_81_50, qRd_81_50, qR_81_52, qRd_81_52, qR_81_54, qRd_81_54, qR_81_55, qRd_81_55, qR_81_56, qRd_81_56, qR_81_57, qRd_81_57, qR_81_58, qRd_81_58, qO_81, e_in, h, c, or_true]
  · rw [if_neg c]
    simp only [r_MRm_isBody_0, r_MRm_isBody_1, r_MRm_isBody_2, r_MRm_isBody_3, r_MRm_isBody_6, r_MRm_isBody_7, r_MRm_isBody_8, r_MRm_isBody_11, sL_0, sL_1, sL_2, mk_i, mk_r, mk_f, mk_n, mk_u, mk_l, List.set_cons_succ, List.set_cons_zero, Nat.reduceAdd, ckS_0, ckS_1, ckS_2, ckS_3, ckS_4, Option.bind_some, Option.isSome_some, psh, if_true, if_false, i10, not_true_eq_false, not_false_eq_true, Bool.false_eq_true, and_self, and_true, true_and, eq_self, qI_81_0, qI_81_2, qI_81_3, qI_81_9, qI_81_10, qI_81_11, qI_81_12, qI_81_13, qI_81_18, qI_81_19, qI_81_20, qI_81_21, qI_81_29, qI_81_30, qI_81_31, qI_81_32, qI_81_33, qI_81_34, qI_81_35, qI_81_39, qI_81_40, qI_81_41, qI_81_42, qI_81_43, qI_81_44, qI_81_45, qI_81_46, qI_81_47, qI_81_51, qI_81_53, qR_81_1, qRd_81_1, qR_81_4, qRd_81_4, qR_81_5, qRd_81_5, qR_81_6, qRd_81_6, qR_81_7, qRd_81_7, qR_81_8, qRd_81_8, qR_81_14, qRd_81_14, qR_81_15, qRd_81_15, qR_81_16, qRd_81_16, qR_81_17, qRd_81_17, qR_81_22, qRd_81_22, qR_81_23, qRd_81_23, qR_81_24, qRd_81_24, qR_81_25, qRd_81_25, qR_81_26, qRd_81_26, qR_81_27, qRd_81_27, qR_81_28, qRd_81_28, qR_81_36, qRd_81_36, qR_81_37, qRd_81_37, qR_81_38, qRd_81_38, qR_81_48, qRd_81_48, qR_81_49, qRd_81_49, qR_81_50, qRd_81_50, qR_81_52, qRd_81_52, qR_81_54, qRd_81_54, qR_81_55, qRd_81_55, qR_81_56, qRd_81_56, qR_81_57, qRd_81_57, qR_81_58, qRd_81_58, qO_81, e_in, h, c, true_or]
noncomputable def bdR (k : Int32) (n : Nat) : Int32 := if 0 ≤ k ∧ k ≤ 7 then (if n < 50 then nI n else -3) else -1
noncomputable def bdC (mu : Mu) (k : Int32) (n : Nat) : Mu := if (0 ≤ k ∧ k ≤ 7) ∧ n < 50 then up2 (up2 mu 17 n k) 16 2 (nI (n + 1)) else mu
noncomputable def bdM (mu : Mu) (k : Int32) (n : Nat) : Mu := if (0 ≤ k ∧ k ≤ 7) ∧ n < 50 then up2 (up2 mu 105 n k) 81 51 (nI (n + 1)) else mu
theorem e_bodyC {n : Nat} {k : Int32} (hn : n ≤ 50) (h : mu 16 2 = nI n) : Rr X (d + 2) MTo_body 0 [.ref 0, .int k] [] (Wd mu la ro et) = some (some (.int (bdR k n)), Wd (bdC mu k n) la ro et) := by
  unfold bdR bdC
  by_cases c1 : 0 ≤ k ∧ k ≤ 7
  · have c3 : ¬ nI n < 0 := nI_pos (by omega)
    by_cases c2 : n < 50
    · have c4 : nI n < 50 := nI_lt (a := n) (b := 50) c2 (by omega)
      have cN : (nI n).toNatClampNeg = n := nI_clamp (by omega)
      have c6 : ¬ 50 ≤ n := by omega
      have e1 : up2 mu 17 n k 16 2 = nI n := h
      rw [if_pos c1, if_pos c2, if_pos ⟨c1, c2⟩]
      simp only [r_MTo_body_0, r_MTo_body_1, r_MTo_body_2, r_MTo_body_4, r_MTo_body_7, r_MTo_body_10, r_MTo_body_11, r_MTo_body_12, r_MTo_body_13, r_MTo_body_16, r_MTo_body_17, r_MTo_body_20, r_MTo_body_23, r_MTo_body_24, r_MTo_body_27, r_MTo_body_30, r_MTo_body_31, r_MTo_body_32, r_MTo_body_35, r_MTo_body_37, r_MBo_append_0, r_MBo_append_1, r_MBo_append_4, r_MBo_append_7, r_MBo_append_8, r_MBo_append_11, r_MBo_append_13, r_MBo_append_16, r_MBo_append_17, r_MBo_append_18, r_MBo_append_19, r_MBo_append_22, r_MBo_append_23, r_MBo_append_26, r_MBo_append_27, r_MBo_append_28, r_MBo_append_29, r_MBo_append_29i, r_MBo_append_30, r_MBo_append_33, r_MBo_append_34, r_MBo_append_35, r_MBo_append_38, r_MBo_append_39, sL_0, sL_1, sL_2, mk_i, mk_r, mk_f, mk_n, mk_u, mk_l, List.set_cons_succ, List.set_cons_zero, Nat.reduceAdd, ckS_0, ckS_1, ckS_2, ckS_3, ckS_4, Option.bind_some, Option.isSome_some, psh, if_true, if_false, i10, not_true_eq_false, not_false_eq_true, Bool.false_eq_true, and_self, and_true, true_and, eq_self, qI_0_9, qI_0_10, qI_16_2, qI_16_3, qI_16_4, qI_16_5, qR_0_0, qRd_0_0, qR_0_1, qRd_0_1, qR_0_2, qRd_0_2, qR_0_3, qRd_0_3, qR_0_4, qRd_0_4, qR_0_5, qRd_0_5, qR_0_6, qRd_0_6, qR_0_7, qRd_0_7, qR_0_8, qRd_0_8, qR_16_0, qRd_16_0, qR_16_1, qRd_16_1, qA_17, qAd_17, qO_0, qO_16, qL_17, qLd_17, e_isWithin, h, e1, c1, c3, c4, c6, cN, nI_1, up2_s, nI_pred, or_true, or_self]
    · have c4 : ¬ nI n < 50 := nI_nlt (a := n) (b := 50) (by omega) (by omega)
      rw [if_pos c1, if_neg c2, if_neg (fun q => c2 q.2)]
      simp only [r_MTo_body_0, r_MTo_body_1, r_MTo_body_2, r_MTo_body_4, r_MTo_body_7, r_MTo_body_10, r_MTo_body_11, r_MTo_body_12, r_MTo_body_13, r_MTo_body_16, r_MTo_body_17, r_MTo_body_20, r_MTo_body_23, r_MTo_body_24, r_MTo_body_27, r_MTo_body_30, r_MTo_body_31, r_MTo_body_32, r_MTo_body_35, r_MTo_body_37, r_MBo_append_0, r_MBo_append_1, r_MBo_append_4, r_MBo_append_7, r_MBo_append_8, r_MBo_append_11, r_MBo_append_13, r_MBo_append_16, r_MBo_append_17, r_MBo_append_18, r_MBo_append_19, r_MBo_append_22, r_MBo_append_23, r_MBo_append_26, r_MBo_append_27, r_MBo_append_28, r_MBo_append_29, r_MBo_append_29i, r_MBo_append_30, r_MBo_append_33, r_MBo_append_34, r_MBo_append_35, r_MBo_append_38, r_MBo_append_39, sL_0, sL_1, sL_2, mk_i, mk_r, mk_f, mk_n, mk_u, mk_l, List.set_cons_succ, List.set_cons_zero, Nat.reduceAdd, ckS_0, ckS_1, ckS_2, ckS_3, ckS_4, Option.bind_some, Option.isSome_some, psh, if_true, if_false, i10, not_true_eq_false, not_false_eq_true, Bool.false_eq_true, and_self, and_true, true_and, eq_self, qI_0_9, qI_0_10, qI_16_2, qI_16_3, qI_16_4, qI_16_5, qR_0_0, qRd_0_0, qR_0_1, qRd_0_1, qR_0_2, qRd_0_2, qR_0_3, qRd_0_3, qR_0_4, qRd_0_4, qR_0_5, qRd_0_5, qR_0_6, qRd_0_6, qR_0_7, qRd_0_7, qR_0_8, qRd_0_8, qR_16_0, qRd_16_0, qR_16_1, qRd_16_1, qA_17, qAd_17, qO_0, qO_16, qL_17, qLd_17, e_isWithin, h, c1, c3, c4, true_or]
  · rw [if_neg c1, if_neg (fun q => c1 q.1)]
    simp only [r_MTo_body_0, r_MTo_body_1, r_MTo_body_2, r_MTo_body_4, r_MTo_body_7, r_MTo_body_10, r_MTo_body_11, sL_0, sL_1, sL_2, mk_i, mk_r, mk_f, mk_n, mk_u, mk_l, List.set_cons_succ, List.set_cons_zero, Nat.reduceAdd, ckS_0, ckS_1, ckS_2, ckS_3, ckS_4, Option.bind_some, Option.isSome_some, psh, if_true, if_false, i10, not_true_eq_false, not_false_eq_true, Bool.false_eq_true, and_self, and_true, true_and, eq_self, qI_0_9, qI_0_10, qI_16_2, qI_16_3, qI_16_4, qI_16_5, qR_0_0, qRd_0_0, qR_0_1, qRd_0_1, qR_0_2, qRd_0_2, qR_0_3, qRd_0_3, qR_0_4, qRd_0_4, qR_0_5, qRd_0_5, qR_0_6, qRd_0_6, qR_0_7, qRd_0_7, qR_0_8, qRd_0_8, qR_16_0, qRd_16_0, qR_16_1, qRd_16_1, qA_17, qAd_17, qO_0, qO_16, qL_17, qLd_17, e_isWithin, c1]
theorem e_bodyM {n : Nat} {k : Int32} (hn : n ≤ 50) (h : mu 81 51 = nI n) : Rr X (d + 2) MRm_body 0 [.ref 81, .int k] [] (Wd mu la ro et) = some (some (.int (bdR k n)), Wd (bdM mu k n) la ro et) := by
  unfold bdR bdM
  by_cases c1 : 0 ≤ k ∧ k ≤ 7
  · by_cases c2 : n < 50
    · have c4 : ¬ nI n = 50 := fun q => absurd ((nI_eq (b := 50) (by omega) (by omega)).mp q) (by omega)
      have cN : (nI n).toNatClampNeg = n := nI_clamp (by omega)
      have iN := ix (j := n) (N := 50) c2 (by decide)
      have e1 : up2 mu 105 n k 81 51 = nI n := h
      rw [if_pos c1, if_pos c2, if_pos ⟨c1, c2⟩]
      simp only [r_MRm_body_0, r_MRm_body_1, r_MRm_body_2, r_MRm_body_4, r_MRm_body_7, r_MRm_body_10, r_MRm_body_11, r_MRm_body_12, r_MRm_body_13, r_MRm_body_16, r_MRm_body_18, r_MRm_body_21, r_MRm_body_23, r_MRm_body_24, r_MRm_body_25, r_MRm_body_28, r_MRm_body_29, r_MRm_body_32, r_MRm_body_33, r_MRm_body_34, r_MRm_body_35, r_MRm_body_35i, r_MRm_body_36, r_MRm_body_39, r_MRm_body_40, r_MRm_body_41, r_MRm_body_44, r_MRm_body_45, r_MRm_body_48, r_MRm_body_49, r_MRm_body_50, sL_0, sL_1, sL_2, mk_i, mk_r, mk_f, mk_n, mk_u, mk_l, List.set_cons_succ, List.set_cons_zero, Nat.reduceAdd, ckS_0, ckS_1, ckS_2, ckS_3, ckS_4, Option.bind_some, Option.isSome_some, psh, if_true, if_false, i10, not_true_eq_false, not_false_eq_true, Bool.false_eq_true, and_self, and_true, true_and, eq_self, qI_81_0, qI_81_2, qI_81_3, qI_81_9, qI_81_10, qI_81_11, qI_81_12, qI_81_13, qI_81_18, qI_81_19, qI_81_20, qI_81_21, qI_81_29, qI_81_30, qI_81_31, qI_81_32, qI_81_33, qI_81_34, qI_81_35, qI_81_39, qI_81_40, qI_81_41, qI_81_42, qI_81_43, qI_81_44, qI_81_45, qI_81_46, qI_81_47, qI_81_51, qI_81_53, qR_81_1, qRd_81_1, qR_81_4, qRd_81_4, qR_81_5, qRd_81_5, qR_81_6, qRd_81_6, qR_81_7, qRd_81_7, qR_81_8, qRd_81_8, qR_81_14, qRd_81_14, qR_81_15, qRd_81_15, qR_81_16, qRd_81_16, qR_81_17, qRd_81_17, qR_81_22, qRd_81_22, qR_81_23, qRd_81_23, qR_81_24, qRd_81_24, qR_81_25, qRd_81_25, qR_81_26, qRd_81_26, qR_81_27, qRd_81_27, qR_81_28, qRd_81_28, qR_81_36, qRd_81_36, qR_81_37, qRd_81_37, qR_81_38, qRd_81_38, qR_81_48, qRd_81_48, qR_81_49, qRd_81_49, qR_81_50, qRd_81_50, qR_81_52, qRd_81_52, qR_81_54, qRd_81_54, qR_81_55, qRd_81_55, qR_81_56, qRd_81_56, qR_81_57, qRd_81_57, qR_81_58, qRd_81_58, qA_105, qAd_105, qO_81, qL_105, qLd_105, e_in, h, e1, c1, c4, cN, iN, nI_1, up2_s, nI_pred]
    · have c4 : n = 50 := by omega
      subst c4
      have c5 : nI 50 = 50 := rfl
      rw [if_pos c1, if_neg c2, if_neg (fun q => c2 q.2)]
      simp only [r_MRm_body_0, r_MRm_body_1, r_MRm_body_2, r_MRm_body_4, r_MRm_body_7, r_MRm_body_10, r_MRm_body_11, r_MRm_body_12, r_MRm_body_13, r_MRm_body_16, r_MRm_body_18, r_MRm_body_21, r_MRm_body_23, r_MRm_body_24, r_MRm_body_25, r_MRm_body_28, r_MRm_body_29, r_MRm_body_32, r_MRm_body_33, r_MRm_body_34, r_MRm_body_35, r_MRm_body_35i, r_MRm_body_36, r_MRm_body_39, r_MRm_body_40, r_MRm_body_41, r_MRm_body_44, r_MRm_body_45, r_MRm_body_48, r_MRm_body_49, r_MRm_body_50, sL_0, sL_1, sL_2, mk_i, mk_r, mk_f, mk_n, mk_u, mk_l, List.set_cons_succ, List.set_cons_zero, Nat.reduceAdd, ckS_0, ckS_1, ckS_2, ckS_3, ckS_4, Option.bind_some, Option.isSome_some, psh, if_true, if_false, i10, not_true_eq_false, not_false_eq_true, Bool.false_eq_true, and_self, and_true, true_and, eq_self, qI_81_0, qI_81_2, qI_81_3, qI_81_9, qI_81_10, qI_81_11, qI_81_12, qI_81_13, qI_81_18, qI_81_19, qI_81_20, qI_81_21, qI_81_29, qI_81_30, qI_81_31, qI_81_32, qI_81_33, qI_81_34, qI_81_35, qI_81_39, qI_81_40, qI_81_41, qI_81_42, qI_81_43, qI_81_44, qI_81_45, qI_81_46, qI_81_47, qI_81_51, qI_81_53, qR_81_1, qRd_81_1, qR_81_4, qRd_81_4, qR_81_5, qRd_81_5, qR_81_6, qRd_81_6, qR_81_7, qRd_81_7, qR_81_8, qRd_81_8, qR_81_14, qRd_81_14, qR_81_15, qRd_81_15, qR_81_16, qRd_81_16, qR_81_17, qRd_81_17, qR_81_22, qRd_81_22, qR_81_23, qRd_81_23, qR_81_24, qRd_81_24, qR_81_25, qRd_81_25, qR_81_26, qRd_81_26, qR_81_27, qRd_81_27, qR_81_28, qRd_81_28, qR_81_36, qRd_81_36, qR_81_37, qRd_81_37, qR_81_38, qRd_81_38, qR_81_48, qRd_81_48, qR_81_49, qRd_81_49, qR_81_50, qRd_81_50, qR_81_52, qRd_81_52, qR_81_54, qRd_81_54, qR_81_55, qRd_81_55, qR_81_56, qRd_81_56, qR_81_57, qRd_81_57, qR_81_58, qRd_81_58, qA_105, qAd_105, qO_81, qL_105, qLd_105, e_in, h, c1, c5]
  · rw [if_neg c1, if_neg (fun q => c1 q.1)]
    simp only [r_MRm_body_0, r_MRm_body_1, r_MRm_body_2, r_MRm_body_4, r_MRm_body_7, r_MRm_body_10, r_MRm_body_11, sL_0, sL_1, sL_2, mk_i, mk_r, mk_f, mk_n, mk_u, mk_l, List.set_cons_succ, List.set_cons_zero, Nat.reduceAdd, ckS_0, ckS_1, ckS_2, ckS_3, ckS_4, Option.bind_some, Option.isSome_some, psh, if_true, if_false, i10, not_true_eq_false, not_false_eq_true, Bool.false_eq_true, and_self, and_true, true_and, eq_self, qI_81_0, qI_81_2, qI_81_3, qI_81_9, qI_81_10, qI_81_11, qI_81_12, qI_81_13, qI_81_18, qI_81_19, qI_81_20, qI_81_21, qI_81_29, qI_81_30, qI_81_31, qI_81_32, qI_81_33, qI_81_34, qI_81_35, qI_81_39, qI_81_40, qI_81_41, qI_81_42, qI_81_43, qI_81_44, qI_81_45, qI_81_46, qI_81_47, qI_81_51, qI_81_53, qR_81_1, qRd_81_1, qR_81_4, qRd_81_4, qR_81_5, qRd_81_5, qR_81_6, qRd_81_6, qR_81_7, qRd_81_7, qR_81_8, qRd_81_8, qR_81_14, qRd_81_14, qR_81_15, qRd_81_15, qR_81_16, qRd_81_16, qR_81_17, qRd_81_17, qR_81_22, qRd_81_22, qR_81_23, qRd_81_23, qR_81_24, qRd_81_24, qR_81_25, qRd_81_25, qR_81_26, qRd_81_26, qR_81_27, qRd_81_27, qR_81_28, qRd_81_28, qR_81_36, qRd_81_36, qR_81_37, qRd_81_37, qR_81_38, qRd_81_38, qR_81_48, qRd_81_48, qR_81_49, qRd_81_49, qR_81_50, qRd_81_50, qR_81_52, qRd_81_52, qR_81_54, qRd_81_54, qR_81_55, qRd_81_55, qR_81_56, qRd_81_56, qR_81_57, qRd_81_57, qR_81_58, qRd_81_58, qA_105, qAd_105, qO_81, qL_105, qLd_105, e_in, c1]
theorem bdC_fr {k : Int32} {n : Nat} : frm [(16, 3), (17, 0)] mu la ro (bdC mu k n) la ro := by
  unfold bdC
  split
  · exact frm_t (frm_up (k := n) (.inl (by decide))) (frm_up (k := 2) (.inr (by decide)))
  · exact frm_r _ _ _ _
theorem bdM_fr {k : Int32} {n : Nat} : frm [(81, 52), (105, 0)] mu la ro (bdM mu k n) la ro := by
  unfold bdM
  split
  · exact frm_t (frm_up (k := n) (.inl (by decide))) (frm_up (k := 51) (.inr (by decide)))
  · exact frm_r _ _ _ _
theorem gOk_bdC {k : Int32} {n : Nat} (hg : gOk ivG mu) : gOk ivG (bdC mu k n) := by
  unfold bdC
  split
  · rename_i q
    obtain ⟨⟨q1, q2⟩, q3⟩ := q
    rw [Int32.le_iff_toInt_le] at q1 q2
    exact gOk_up (gOk_r hg (by decide) ⟨q1, q2⟩) (top_ok _) (top_ok _)
  · exact hg
theorem gOk_bdM {k : Int32} {n : Nat} (hg : gOk ivG mu) : gOk ivG (bdM mu k n) := by
  unfold bdM
  split
  · rename_i q
    obtain ⟨⟨q1, q2⟩, q3⟩ := q
    rw [Int32.le_iff_toInt_le] at q1 q2
    have e : (nI (n + 1)).toInt = ((n + 1 : Nat) : Int) := nI_toInt (by omega)
    refine gOk_up (gOk_r hg (by decide) ⟨q1, q2⟩) (top_ok _) ?_
    show (0 : Int) ≤ (nI (n + 1)).toInt ∧ (nI (n + 1)).toInt ≤ 50
    omega
  · exact hg
theorem bd_17 {n j : Nat} {k : Int32} (h : (0 ≤ k ∧ k ≤ 7) ∧ n < 50) : bdM (bdC mu k n) k n 17 j = (if j = n then k else mu 17 j) := by
  unfold bdM bdC
  rw [if_pos h, if_pos h]
  rfl
theorem bd_105 {n j : Nat} {k : Int32} (h : (0 ≤ k ∧ k ≤ 7) ∧ n < 50) : bdM (bdC mu k n) k n 105 j = (if j = n then k else mu 105 j) := by
  unfold bdM bdC
  rw [if_pos h, if_pos h]
  rfl
theorem RBod_b {n : Nat} {k : Int32} (h1 : n ≤ 50) (h2 : mu 16 2 = nI n) (h3 : mu 81 51 = nI n) (h4 : ∀ i, i < n → mu 17 i = mu 105 i) : RBod (bdM (bdC mu k n) k n) la ro := by
  by_cases c : (0 ≤ k ∧ k ≤ 7) ∧ n < 50
  · refine ⟨n + 1, c.2, ?_, ?_, fun i hi => ?_⟩
    · unfold bdM bdC
      rw [if_pos c, if_pos c]
      rfl
    · unfold bdM bdC
      rw [if_pos c, if_pos c]
      rfl
    · rw [bd_17 c, bd_105 c]
      by_cases q : i = n
      · rw [if_pos q, if_pos q]
      · rw [if_neg q, if_neg q]
        exact h4 i (by omega)
  · have e : bdM (bdC mu k n) k n = mu := by
      unfold bdM bdC
      rw [if_neg c, if_neg c]
    rw [e]
    exact ⟨n, h1, h2, h3, h4⟩
theorem bd_51 {n : Nat} {k : Int32} (h3 : mu 81 51 = nI n) : bdC mu k n 81 51 = nI n := by
  unfold bdC
  split
  · exact h3
  · exact h3
-- keep
theorem bd_n1 {n : Nat} (hn : n ≤ 50) : (nI n - 1).toInt = (n : Int) - 1 := by
  rw [Int32.toInt_sub, nI_toInt (by omega), show (1 : Int32).toInt = 1 from rfl]
  exact Int.bmod_eq_of_le (by omega) (by omega)
theorem bd_iff {b : Int32} {n : Nat} (hn : n ≤ 50) : (-1 ≤ b ∧ b ≤ nI n - 1) ↔ (b = -1 ∨ (0 ≤ b ∧ b ≤ nI n - 1)) := by
  have e := bd_n1 hn
  have e1 : (-1 : Int32).toInt = -1 := rfl
  have e2 : (0 : Int32).toInt = 0 := rfl
  rw [← Int32.toInt_inj, Int32.le_iff_toInt_le, Int32.le_iff_toInt_le, Int32.le_iff_toInt_le, e, e1, e2]
  omega
noncomputable def kpR (s b : Int32) (n : Nat) : Int32 := if (0 ≤ s ∧ s ≤ 5) ∧ (-1 ≤ b ∧ b ≤ nI n - 1) then 1 else -1
theorem e_hold {a : Nat} {b : Int32} (q : shA a) : Rr X d MSh_hold 0 [.ref a, .int b] [] (Wd mu la ro et) = some (none, Wd (up2 (up2 (up2 mu a 1 b) a 2 (-1)) a 3 0) la ro et) := by
  simp only [r_MSh_hold_0, r_MSh_hold_1, r_MSh_hold_2, r_MSh_hold_5, r_MSh_hold_6, r_MSh_hold_7, r_MSh_hold_10, r_MSh_hold_11, r_MSh_hold_12, r_MSh_hold_15, sL_0, sL_1, sL_2, mk_i, mk_r, mk_f, mk_n, mk_u, mk_l, List.set_cons_succ, List.set_cons_zero, Nat.reduceAdd, ckS_0, ckS_1, ckS_2, ckS_3, ckS_4, Option.bind_some, Option.isSome_some, psh, if_true, if_false, i10, not_true_eq_false, not_false_eq_true, Bool.false_eq_true, and_self, and_true, true_and, eq_self, q.1.2.1, q.1.2.2.1, q.1.2.2.2]
theorem e_keepC {n : Nat} {s b : Int32} (hr : rOk ro) (h : mu 16 2 = nI n) : ∃ mu', Rr X (d + 2) MTo_keep 0 [.ref 0, .int s, .int b, mkU] [] (Wd mu la ro et) = some (some (.int (kpR s b n)), Wd mu' la ro et) := by
  unfold kpR
  by_cases c1 : 0 ≤ s ∧ s ≤ 5
  · obtain ⟨S, hS, rfl⟩ := i_06 c1
    have qS := shA_of hS
    have eS := e_shelfAt (X := X) (d := d) (mu := mu) (la := la) (et := et) hr hS
    by_cases c2 : -1 ≤ b ∧ b ≤ nI n - 1
    · rw [if_pos ⟨c1, c2⟩]
      exact ⟨up2 (up2 (up2 mu (69 + 2 * S) 1 b) (69 + 2 * S) 2 (-1)) (69 + 2 * S) 3 0, by
        simp only [r_MTo_keep_0, r_MTo_keep_1, r_MTo_keep_2, r_MTo_keep_5, r_MTo_keep_5n, r_MTo_keep_6, r_MTo_keep_6n, r_MTo_keep_7, r_MTo_keep_7n, r_MTo_keep_10, r_MTo_keep_11, r_MTo_keep_12, r_MTo_keep_13, r_MTo_keep_16, r_MTo_keep_19, r_MTo_keep_20, r_MTo_keep_21, r_MTo_keep_24, r_MTo_keep_27, r_MTo_keep_28, r_MTo_keep_29, r_MTo_keep_29n, r_MTo_keep_30, r_MTo_keep_31, r_MTo_keep_34, r_MTo_keep_35, sL_0, sL_1, sL_2, mk_i, mk_r, mk_f, mk_n, mk_u, mk_l, List.set_cons_succ, List.set_cons_zero, Nat.reduceAdd, ckS_0, ckS_1, ckS_2, ckS_3, ckS_4, Option.bind_some, Option.isSome_some, psh, if_true, if_false, i10, not_true_eq_false, not_false_eq_true, Bool.false_eq_true, and_self, and_true, true_and, eq_self, qI_0_9, qI_0_10, qI_16_2, qI_16_3, qI_16_4, qI_16_5, qR_0_0, qRd_0_0, qR_0_1, qRd_0_1, qR_0_2, qRd_0_2, qR_0_3, qRd_0_3, qR_0_4, qRd_0_4, qR_0_5, qRd_0_5, qR_0_6, qRd_0_6, qR_0_7, qRd_0_7, qR_0_8, qRd_0_8, qR_16_0, qRd_16_0, qR_16_1, qRd_16_1, qO_0, qO_16, eS, e_isWithin, h, c2, qS.1.1, e_hold qS]⟩
    · rw [if_neg (fun q => c2 q.2)]
      exact ⟨mu, by simp only [r_MTo_keep_0, r_MTo_keep_1, r_MTo_keep_2, r_MTo_keep_5, r_MTo_keep_5n, r_MTo_keep_6, r_MTo_keep_6n, r_MTo_keep_7, r_MTo_keep_7n, r_MTo_keep_10, r_MTo_keep_11, r_MTo_keep_12, r_MTo_keep_13, r_MTo_keep_16, r_MTo_keep_19, r_MTo_keep_20, r_MTo_keep_21, r_MTo_keep_24, r_MTo_keep_27, r_MTo_keep_28, r_MTo_keep_29, r_MTo_keep_29n, r_MTo_keep_30, r_MTo_keep_31, r_MTo_keep_34, r_MTo_keep_35, sL_0, sL_1, sL_2, mk_i, mk_r, mk_f, mk_n, mk_u, mk_l, List.set_cons_succ, List.set_cons_zero, Nat.reduceAdd, ckS_0, ckS_1, ckS_2, ckS_3, ckS_4, Option.bind_some, Option.isSome_some, psh, if_true, if_false, i10, not_true_eq_false, not_false_eq_true, Bool.false_eq_true, and_self, and_true, true_and, eq_self, qI_0_9, qI_0_10, qI_16_2, qI_16_3, qI_16_4, qI_16_5, qR_0_0, qRd_0_0, qR_0_1, qRd_0_1, qR_0_2, qRd_0_2, qR_0_3, qRd_0_3, qR_0_4, qRd_0_4, qR_0_5, qRd_0_5, qR_0_6, qRd_0_6, qR_0_7, qRd_0_7, qR_0_8, qRd_0_8, qR_16_0, qRd_16_0, qR_16_1, qRd_16_1, qO_0, qO_16, eS, e_isWithin, h, c2]⟩
  · rw [if_neg (fun q => c1 q.1)]
    exact ⟨mu, by simp only [r_MTo_keep_0, r_MTo_keep_1, r_MTo_keep_2, r_MTo_keep_5, r_MTo_keep_5n, r_MTo_keep_6, r_MTo_keep_6n, r_MTo_keep_7, r_MTo_keep_7n, r_MTo_keep_10, r_MTo_keep_11, r_MTo_keep_12, r_MTo_keep_13, r_MTo_keep_16, r_MTo_keep_19, r_MTo_keep_20, r_MTo_keep_21, r_MTo_keep_24, r_MTo_keep_27, r_MTo_keep_28, r_MTo_keep_29, r_MTo_keep_29n, r_MTo_keep_30, r_MTo_keep_31, r_MTo_keep_34, r_MTo_keep_35, sL_0, sL_1, sL_2, mk_i, mk_r, mk_f, mk_n, mk_u, mk_l, List.set_cons_succ, List.set_cons_zero, Nat.reduceAdd, ckS_0, ckS_1, ckS_2, ckS_3, ckS_4, Option.bind_some, Option.isSome_some, psh, if_true, if_false, i10, not_true_eq_false, not_false_eq_true, Bool.false_eq_true, and_self, and_true, true_and, eq_self, qI_0_9, qI_0_10, qR_0_0, qRd_0_0, qR_0_1, qRd_0_1, qR_0_2, qRd_0_2, qR_0_3, qRd_0_3, qR_0_4, qRd_0_4, qR_0_5, qRd_0_5, qR_0_6, qRd_0_6, qR_0_7, qRd_0_7, qR_0_8, qRd_0_8, qO_0, e_shelfNo c1]⟩
theorem e_keepM {n : Nat} {s b : Int32} (hn : n ≤ 50) (h : mu 81 51 = nI n) : ∃ mu', Rr X (d + 2) MRm_keep 0 [.ref 81, .int s, .int b] [] (Wd mu la ro et) = some (some (.int (kpR s b n)), Wd mu' la ro et) := by
  unfold kpR
  by_cases c1 : 0 ≤ s ∧ s ≤ 5
  · obtain ⟨S, hS, rfl⟩ := i_06 c1
    have cS : (nI S).toNatClampNeg = S := nI_clamp (by omega)
    have iS := ix (j := S) (N := 6) hS (by decide)
    have c1' : 0 ≤ nI S ∧ nI S ≤ 5 := c1
    by_cases c2 : b = -1
    · rw [if_pos ⟨c1, (bd_iff hn).mpr (.inl c2)⟩]
      subst c2
      exact ⟨up2 mu 107 S (-1), by simp only [r_MRm_keep_0, r_MRm_keep_1, r_MRm_keep_4, r_MRm_keep_7, r_MRm_keep_8, r_MRm_keep_9, r_MRm_keep_12, r_MRm_keep_13, r_MRm_keep_14, r_MRm_keep_17, r_MRm_keep_20, r_MRm_keep_21, r_MRm_keep_22, r_MRm_keep_23, r_MRm_keep_26, r_MRm_keep_27, r_MRm_keep_28, r_MRm_keep_29, r_MRm_keep_30, sL_0, sL_1, sL_2, mk_i, mk_r, mk_f, mk_n, mk_u, mk_l, List.set_cons_succ, List.set_cons_zero, Nat.reduceAdd, ckS_0, ckS_1, ckS_2, ckS_3, ckS_4, Option.bind_some, Option.isSome_some, psh, if_true, if_false, i10, not_true_eq_false, not_false_eq_true, Bool.false_eq_true, and_self, and_true, true_and, eq_self, qI_81_0, qI_81_2, qI_81_3, qI_81_9, qI_81_10, qI_81_11, qI_81_12, qI_81_13, qI_81_18, qI_81_19, qI_81_20, qI_81_21, qI_81_29, qI_81_30, qI_81_31, qI_81_32, qI_81_33, qI_81_34, qI_81_35, qI_81_39, qI_81_40, qI_81_41, qI_81_42, qI_81_43, qI_81_44, qI_81_45, qI_81_46, qI_81_47, qI_81_51, qI_81_53, qR_81_1, qRd_81_1, qR_81_4, qRd_81_4, qR_81_5, qRd_81_5, qR_81_6, qRd_81_6, qR_81_7, qRd_81_7, qR_81_8, qRd_81_8, qR_81_14, qRd_81_14, qR_81_15, qRd_81_15, qR_81_16, qRd_81_16, qR_81_17, qRd_81_17, qR_81_22, qRd_81_22, qR_81_23, qRd_81_23, qR_81_24, qRd_81_24, qR_81_25, qRd_81_25, qR_81_26, qRd_81_26, qR_81_27, qRd_81_27, qR_81_28, qRd_81_28, qR_81_36, qRd_81_36, qR_81_37, qRd_81_37, qR_81_38, qRd_81_38, qR_81_48, qRd_81_48, qR_81_49, qRd_81_49, qR_81_50, qRd_81_50, qR_81_52, qRd_81_52, qR_81_54, qRd_81_54, qR_81_55, qRd_81_55, qR_81_56, qRd_81_56, qR_81_57, qRd_81_57, qR_81_58, qRd_81_58, qA_107, qAd_107, qO_81, qL_107, qLd_107, e_isShelf, c1', cS, iS]⟩
    · by_cases c3 : 0 ≤ b ∧ b ≤ nI n - 1
      · rw [if_pos ⟨c1, (bd_iff hn).mpr (.inr c3)⟩]
        exact ⟨up2 mu 107 S b, by simp only [r_MRm_keep_0, r_MRm_keep_1, r_MRm_keep_4, r_MRm_keep_7, r_MRm_keep_8, r_MRm_keep_9, r_MRm_keep_12, r_MRm_keep_13, r_MRm_keep_14, r_MRm_keep_17, r_MRm_keep_20, r_MRm_keep_21, r_MRm_keep_22, r_MRm_keep_23, r_MRm_keep_26, r_MRm_keep_27, r_MRm_keep_28, r_MRm_keep_29, r_MRm_keep_30, sL_0, sL_1, sL_2, mk_i, mk_r, mk_f, mk_n, mk_u, mk_l, List.set_cons_succ, List.set_cons_zero, Nat.reduceAdd, ckS_0, ckS_1, ckS_2, ckS_3, ckS_4, Option.bind_some, Option.isSome_some, psh, if_true, if_false, i10, not_true_eq_false, not_false_eq_true, Bool.false_eq_true, and_self, and_true, true_and, eq_self, qI_81_0, qI_81_2, qI_81_3, qI_81_9, qI_81_10, qI_81_11, qI_81_12, qI_81_13, qI_81_18, qI_81_19, qI_81_20, qI_81_21, qI_81_29, qI_81_30, qI_81_31, qI_81_32, qI_81_33, qI_81_34, qI_81_35, qI_81_39, qI_81_40, qI_81_41, qI_81_42, qI_81_43, qI_81_44, qI_81_45, qI_81_46, qI_81_47, qI_81_51, qI_81_53, qR_81_1, qRd_81_1, qR_81_4, qRd_81_4, qR_81_5, qRd_81_5, qR_81_6, qRd_81_6, qR_81_7, qRd_81_7, qR_81_8, qRd_81_8, qR_81_14, qRd_81_14, qR_81_15, qRd_81_15, qR_81_16, qRd_81_16, qR_81_17, qRd_81_17, qR_81_22, qRd_81_22, qR_81_23, qRd_81_23, qR_81_24, qRd_81_24, qR_81_25, qRd_81_25, qR_81_26, qRd_81_26, qR_81_27, qRd_81_27, qR_81_28, qRd_81_28, qR_81_36, qRd_81_36, qR_81_37, qRd_81_37, qR_81_38, qRd_81_38, qR_81_48, qRd_81_48, qR_81_49, qRd_81_49, qR_81_50, qRd_81_50, qR_81_52, qRd_81_52, qR_81_54, qRd_81_54, qR_81_55, qRd_81_55, qR_81_56, qRd_81_56, qR_81_57, qRd_81_57, qR_81_58, qRd_81_58, qA_107, qAd_107, qO_81, qL_107, qLd_107, e_isShelf, e_isBody h, c1', c2, c3, cS, iS]⟩
      · rw [if_neg (fun q => ((bd_iff hn).mp q.2).elim c2 c3)]
        exact ⟨mu, by simp only [r_MRm_keep_0, r_MRm_keep_1, r_MRm_keep_4, r_MRm_keep_7, r_MRm_keep_8, r_MRm_keep_9, r_MRm_keep_12, r_MRm_keep_13, r_MRm_keep_14, r_MRm_keep_17, r_MRm_keep_20, r_MRm_keep_21, r_MRm_keep_22, r_MRm_keep_23, r_MRm_keep_26, r_MRm_keep_27, r_MRm_keep_28, r_MRm_keep_29, r_MRm_keep_30, sL_0, sL_1, sL_2, mk_i, mk_r, mk_f, mk_n, mk_u, mk_l, List.set_cons_succ, List.set_cons_zero, Nat.reduceAdd, ckS_0, ckS_1, ckS_2, ckS_3, ckS_4, Option.bind_some, Option.isSome_some, psh, if_true, if_false, i10, not_true_eq_false, not_false_eq_true, Bool.false_eq_true, and_self, and_true, true_and, eq_self, qI_81_0, qI_81_2, qI_81_3, qI_81_9, qI_81_10, qI_81_11, qI_81_12, qI_81_13, qI_81_18, qI_81_19, qI_81_20, qI_81_21, qI_81_29, qI_81_30, qI_81_31, qI_81_32, qI_81_33, qI_81_34, qI_81_35, qI_81_39, qI_81_40, qI_81_41, qI_81_42, qI_81_43, qI_81_44, qI_81_45, qI_81_46, qI_81_47, qI_81_51, qI_81_53, qR_81_1, qRd_81_1, qR_81_4, qRd_81_4, qR_81_5, qRd_81_5, qR_81_6, qRd_81_6, qR_81_7, qRd_81_7, qR_81_8, qRd_81_8, qR_81_14, qRd_81_14, qR_81_15, qRd_81_15, qR_81_16, qRd_81_16, qR_81_17, qRd_81_17, qR_81_22, qRd_81_22, qR_81_23, qRd_81_23, qR_81_24, qRd_81_24, qR_81_25, qRd_81_25, qR_81_26, qRd_81_26, qR_81_27, qRd_81_27, qR_81_28, qRd_81_28, qR_81_36, qRd_81_36, qR_81_37, qRd_81_37, qR_81_38, qRd_81_38, qR_81_48, qRd_81_48, qR_81_49, qRd_81_49, qR_81_50, qRd_81_50, qR_81_52, qRd_81_52, qR_81_54, qRd_81_54, qR_81_55, qRd_81_55, qR_81_56, qRd_81_56, qR_81_57, qRd_81_57, qR_81_58, qRd_81_58, qA_107, qAd_107, qO_81, qL_107, qLd_107, e_isShelf, e_isBody h, c1', c2, c3]⟩
  · rw [if_neg (fun q => c1 q.1)]
    exact ⟨mu, by simp only [r_MRm_keep_0, r_MRm_keep_1, r_MRm_keep_4, r_MRm_keep_7, r_MRm_keep_8, r_MRm_keep_9, r_MRm_keep_12, r_MRm_keep_13, r_MRm_keep_14, r_MRm_keep_17, r_MRm_keep_20, r_MRm_keep_21, r_MRm_keep_22, r_MRm_keep_23, r_MRm_keep_26, r_MRm_keep_27, r_MRm_keep_28, r_MRm_keep_29, r_MRm_keep_30, sL_0, sL_1, sL_2, mk_i, mk_r, mk_f, mk_n, mk_u, mk_l, List.set_cons_succ, List.set_cons_zero, Nat.reduceAdd, ckS_0, ckS_1, ckS_2, ckS_3, ckS_4, Option.bind_some, Option.isSome_some, psh, if_true, if_false, i10, not_true_eq_false, not_false_eq_true, Bool.false_eq_true, and_self, and_true, true_and, eq_self, qI_81_0, qI_81_2, qI_81_3, qI_81_9, qI_81_10, qI_81_11, qI_81_12, qI_81_13, qI_81_18, qI_81_19, qI_81_20, qI_81_21, qI_81_29, qI_81_30, qI_81_31, qI_81_32, qI_81_33, qI_81_34, qI_81_35, qI_81_39, qI_81_40, qI_81_41, qI_81_42, qI_81_43, qI_81_44, qI_81_45, qI_81_46, qI_81_47, qI_81_51, qI_81_53, qR_81_1, qRd_81_1, qR_81_4, qRd_81_4, qR_81_5, qRd_81_5, qR_81_6, qRd_81_6, qR_81_7, qRd_81_7, qR_81_8, qRd_81_8, qR_81_14, qRd_81_14, qR_81_15, qRd_81_15, qR_81_16, qRd_81_16, qR_81_17, qRd_81_17, qR_81_22, qRd_81_22, qR_81_23, qRd_81_23, qR_81_24, qRd_81_24, qR_81_25, qRd_81_25, qR_81_26, qRd_81_26, qR_81_27, qRd_81_27, qR_81_28, qRd_81_28, qR_81_36, qRd_81_36, qR_81_37, qRd_81_37, qR_81_38, qRd_81_38, qR_81_48, qRd_81_48, qR_81_49, qRd_81_49, qR_81_50, qRd_81_50, qR_81_52, qRd_81_52, qR_81_54, qRd_81_54, qR_81_55, qRd_81_55, qR_81_56, qRd_81_56, qR_81_57, qRd_81_57, qR_81_58, qRd_81_58, qA_107, qAd_107, qO_81, qL_107, qLd_107, e_isShelf, c1]⟩
end
