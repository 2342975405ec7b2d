-- ===== by hand: the film's contracts
section
variable {X : Tok} {d : Nat} {mu mu' : Mu} {la la' : La} {ro ro' : Ro} {et : Nat → Option va_E}
theorem gOk_r {iv : IVs} {a k : Nat} {x : Int32} (hg : gOk iv mu) (hr : ivR iv a = true) (h0 : (ivL iv a 0).1 ≤ x.toInt ∧ x.toInt ≤ (ivL iv a 0).2) : gOk iv (up2 mu a k x) := gOk_up hg h0 (by rw [ivR_ok hr]; exact top_ok x)
abbrev wFr : WS := [(81, 48), (102, 0), (103, 0)]
theorem frm_addF {t s : Int32} : frm wFr mu la ro (addF mu t s) la ro :=
  frm_t (frm_t (frm_up (k := _) (.inl (by decide))) (frm_up (k := _) (.inl (by decide)))) (frm_up (k := 47) (.inr (by decide)))
theorem gOk_addF {t s : Int32} {F : Nat} (hg : gOk ivG mu) (h1 : mu 81 47 = nI F) (h2 : F < 40) : gOk ivG (addF mu t s) := by
  refine gOk_up (gOk_r (gOk_r hg (by decide) (top_ok _)) (by decide) (top_ok _)) (top_ok _) ?_
  rw [h1, nI_1]
  have e : (nI (F + 1)).toInt = ((F + 1 : Nat) : Int) := nI_toInt (by omega)
  show (0 : Int) ≤ (nI (F + 1)).toInt ∧ (nI (F + 1)).toInt ≤ 40
  omega
theorem fr_low (h1 : mu 81 47 = nI 0) {t s : Int32} (h : isFr mu t s = true) : 0 ≤ t.toInt ∧ t.toInt ≤ 400 := by
  have h := of_decide_eq_true h
  unfold lowT at h
  rw [h1, if_pos nI_0, Int32.le_iff_toInt_le, Int32.le_iff_toInt_le] at h
  exact h.1
theorem fr_up {F : Nat} (h0 : F + 1 ≤ 40) (h1 : mu 81 47 = nI (F + 1)) (h2 : 0 ≤ (mu 102 F).toInt ∧ (mu 102 F).toInt ≤ 400) {t s : Int32} (h : isFr mu t s = true) : (mu 102 F).toInt < t.toInt ∧ t.toInt ≤ 400 := by
  have h := of_decide_eq_true h
  unfold lowT at h
  rw [h1, if_neg (nI_ne0 (Nat.succ_pos _) (by omega)), nI_pred, nI_clamp (by omega), Int32.le_iff_toInt_le, Int32.le_iff_toInt_le] at h
  have e : (mu 102 F + 1).toInt = (mu 102 F).toInt + 1 := by
    rw [Int32.toInt_add]
    have e1 : (1 : Int32).toInt = 1 := rfl
    rw [e1]
    exact Int.bmod_eq_of_le (by omega) (by omega)
  have e2 : (400 : Int32).toInt = 400 := rfl
  omega
theorem JFm_addF {t s : Int32} {F : Nat} (hj : JFm mu) (h1 : mu 81 47 = nI F) (h2 : F < 40) (h : isFr mu t s = true) : JFm (addF mu t s) := by
  obtain ⟨F', q1, q2, q3, q4⟩ := hj
  have : F' = F := (nI_eq (by omega) (by omega)).mp (q2.symm.trans h1)
  subst this
  have e0 : addF mu t s 81 47 = nI (F' + 1) := by
    unfold addF
    rw [up2_s, h1, nI_1]
  have e1 : ∀ i, addF mu t s 102 i = if i = F' then t else mu 102 i := by
    intro i
    unfold addF
    rw [up2_a (by decide), up2_a (by decide), up2_e, h1, nI_clamp (by omega)]
    simp
  refine ⟨F' + 1, by omega, e0, fun i hi => ?_, fun i hi => ?_⟩
  · rw [e1]
    by_cases c : i = F'
    · rw [if_pos c]
      cases F' with
      | zero => exact fr_low h1 h
      | succ F => have := fr_up (by omega) h1 (q3 F (by omega)) h; have := q3 F (by omega); omega
    · rw [if_neg c]; exact q3 i (by omega)
  · rw [e1, e1, if_neg (by omega)]
    by_cases c : i + 1 = F'
    · rw [if_pos c]
      subst c
      exact (fr_up (by omega) h1 (q3 i (by omega)) h).1
    · rw [if_neg c]; exact q4 i (by omega)
theorem JB_fr (h : JB mu la ro) (f : frm wFr mu la ro mu' la' ro') (j : JFm mu') : JB mu' la' ro' := ⟨j, JCh_f (by decide) f h.2.1, JFl_f (by decide) f h.2.2⟩
theorem fr_idx {F : Nat} (h1 : mu 81 47 = nI F) (h2 : F ≤ 40) : mu 81 47 = 0 ∨ ¬ (mu 81 47 - 1 < 0 ∨ 40 ≤ (mu 81 47 - 1).toNatClampNeg) := by
  cases F with
  | zero => exact .inl h1
  | succ F =>
    refine .inr ?_
    rw [h1, nI_pred]
    exact nI_in (by omega) (by decide)
theorem ro_k {q : WS} (f : frm q mu la ro mu' la' ro) (h : rOk ro) : rOk ro := h
theorem hand_frame : ctrT ivG JB X et h11 := by
  intro d av mu la ro hd ha hg hr hj
  obtain ⟨t, s, rfl⟩ := ap3 ha
  obtain ⟨d, rfl⟩ : ∃ e, d = e + 6 := ⟨d - 6, by have : 6 ≤ d := hd; omega⟩
  obtain ⟨F, q1, q2, q3, q4⟩ := hj.1
  have hidx := fr_idx q2 q1
  show Fin X (d + 6) MRm_frame 0 [.ref 81, .int t, .int s] [] mu la ro et _
  by_cases h1 : isFr mu t s = true
  · by_cases h2 : mu 81 47 = 40
    · refine ⟨some (.int (-3)), mu, la, ro, ?_, hg, hr, hj, frm_r _ _ _ _, resT _⟩
      simp [r_MRm_frame_0, r_MRm_frame_1, r_MRm_frame_2, r_MRm_frame_3, r_MRm_frame_6, r_MRm_frame_9, r_MRm_frame_10, r_MRm_frame_11, r_MRm_frame_12, r_MRm_frame_15, r_MRm_frame_17, r_MRm_frame_20, r_MRm_frame_22, r_MRm_frame_23, r_MRm_frame_24, r_MRm_frame_25, r_MRm_frame_26, r_MRm_frame_29, r_MRm_frame_30, r_MRm_frame_33, r_MRm_frame_34, r_MRm_frame_35, sL_0, sL_1, sL_2, mk_i, mk_r, mk_f, mk_n, mk_u, mk_l, List.set_cons_succ, List.set_cons_zero, Nat.reduceAdd, ckS_0, ckS_1, ckS_2, ckS_3, ckS_4, Option.bind_some, Option.isSome_some, psh, if_true, if_false, qI_81_0, qI_81_2, qI_81_3, qI_81_9, qI_81_10, qI_81_11, qI_81_12, qI_81_13, qI_81_18, qI_81_19, qI_81_20, qI_81_21, qI_81_29, qI_81_30, qI_81_31, qI_81_32, qI_81_33, qI_81_34, qI_81_35, qI_81_39, qI_81_40, qI_81_41, qI_81_42, qI_81_43, qI_81_44, qI_81_45, qI_81_46, qI_81_47, qI_81_51, qI_81_53, qR_81_1, qRd_81_1, qR_81_4, qRd_81_4, qR_81_5, qRd_81_5, qR_81_6, qRd_81_6, qR_81_7, qRd_81_7, qR_81_8, qRd_81_8, qR_81_14, qRd_81_14, qR_81_15, qRd_81_15, qR_81_16, qRd_81_16, qR_81_17, qRd_81_17, qR_81_22, qRd_81_22, qR_81_23, qRd_81_23, qR_81_24, qRd_81_24, qR_81_25, qRd_81_25, qR_81_26, qRd_81_26, qR_81_27, qRd_81_27, qR_81_28, qRd_81_28, qR_81_36, qRd_81_36, qR_81_37, qRd_81_37, qR_81_38, qRd_81_38, qR_81_48, qRd_81_48, qR_81_49, qRd_81_49, qR_81_50, qRd_81_50, qR_81_52, qRd_81_52, qR_81_54, qRd_81_54, qR_81_55, qRd_81_55, qR_81_56, qRd_81_56, qR_81_57, qRd_81_57, qR_81_58, qRd_81_58, qA_102, qAd_102, qA_103, qAd_103, qO_81, qL_102, qLd_102, qL_103, qLd_103, e_isFrame hidx, h1, h2]
    · have h3 : F < 40 := by
        rcases Nat.lt_or_ge F 40 with c | c
        · exact c
        · exact absurd (by rw [q2, show F = 40 by omega]; rfl) h2
      have h4 : ¬ (mu 81 47 < 0 ∨ 40 ≤ (mu 81 47).toNatClampNeg) := by rw [q2]; exact nI_in h3 (by decide)
      have e1 : addF mu t s 81 47 - 1 = mu 81 47 := by
        unfold addF
        rw [up2_s, q2, nI_1, nI_pred]
      refine ⟨some (.int (mu 81 47)), addF mu t s, la, ro, ?_, gOk_addF hg q2 h3, hr, JB_fr hj frm_addF (JFm_addF hj.1 q2 h3 h1), frm_addF, resT _⟩
      simp [r_MRm_frame_0, r_MRm_frame_1, r_MRm_frame_2, r_MRm_frame_3, r_MRm_frame_6, r_MRm_frame_9, r_MRm_frame_10, r_MRm_frame_11, r_MRm_frame_12, r_MRm_frame_15, r_MRm_frame_17, r_MRm_frame_20, r_MRm_frame_22, r_MRm_frame_23, r_MRm_frame_24, r_MRm_frame_25, r_MRm_frame_26, r_MRm_frame_29, r_MRm_frame_30, r_MRm_frame_33, r_MRm_frame_34, r_MRm_frame_35, sL_0, sL_1, sL_2, mk_i, mk_r, mk_f, mk_n, mk_u, mk_l, List.set_cons_succ, List.set_cons_zero, Nat.reduceAdd, ckS_0, ckS_1, ckS_2, ckS_3, ckS_4, Option.bind_some, Option.isSome_some, psh, if_true, if_false, qI_81_0, qI_81_2, qI_81_3, qI_81_9, qI_81_10, qI_81_11, qI_81_12, qI_81_13, qI_81_18, qI_81_19, qI_81_20, qI_81_21, qI_81_29, qI_81_30, qI_81_31, qI_81_32, qI_81_33, qI_81_34, qI_81_35, qI_81_39, qI_81_40, qI_81_41, qI_81_42, qI_81_43, qI_81_44, qI_81_45, qI_81_46, qI_81_47, qI_81_51, qI_81_53, qR_81_1, qRd_81_1, qR_81_4, qRd_81_4, qR_81_5, qRd_81_5, qR_81_6, qRd_81_6, qR_81_7, qRd_81_7, qR_81_8, qRd_81_8, qR_81_14, qRd_81_14, qR_81_15, qRd_81_15, qR_81_16, qRd_81_16, qR_81_17, qRd_81_17, qR_81_22, qRd_81_22, qR_81_23, qRd_81_23, qR_81_24, qRd_81_24, qR_81_25, qRd_81_25, qR_81_26, qRd_81_26, qR_81_27, qRd_81_27, qR_81_28, qRd_81_28, qR_81_36, qRd_81_36, qR_81_37, qRd_81_37, qR_81_38, qRd_81_38, qR_81_48, qRd_81_48, qR_81_49, qRd_81_49, qR_81_50, qRd_81_50, qR_81_52, qRd_81_52, qR_81_54, qRd_81_54, qR_81_55, qRd_81_55, qR_81_56, qRd_81_56, qR_81_57, qRd_81_57, qR_81_58, qRd_81_58, qA_102, qAd_102, qA_103, qAd_103, qO_81, qL_102, qLd_102, qL_103, qLd_103, e_isFrame hidx, e_addFrame h4, h1, h2, e1]
  · refine ⟨some (.int (-1)), mu, la, ro, ?_, hg, hr, hj, frm_r _ _ _ _, resT _⟩
    simp [r_MRm_frame_0, r_MRm_frame_1, r_MRm_frame_2, r_MRm_frame_3, r_MRm_frame_6, r_MRm_frame_9, r_MRm_frame_10, r_MRm_frame_11, r_MRm_frame_12, r_MRm_frame_15, r_MRm_frame_17, r_MRm_frame_20, r_MRm_frame_22, r_MRm_frame_23, r_MRm_frame_24, r_MRm_frame_25, r_MRm_frame_26, r_MRm_frame_29, r_MRm_frame_30, r_MRm_frame_33, r_MRm_frame_34, r_MRm_frame_35, sL_0, sL_1, sL_2, mk_i, mk_r, mk_f, mk_n, mk_u, mk_l, List.set_cons_succ, List.set_cons_zero, Nat.reduceAdd, ckS_0, ckS_1, ckS_2, ckS_3, ckS_4, Option.bind_some, Option.isSome_some, psh, if_true, if_false, qI_81_0, qI_81_2, qI_81_3, qI_81_9, qI_81_10, qI_81_11, qI_81_12, qI_81_13, qI_81_18, qI_81_19, qI_81_20, qI_81_21, qI_81_29, qI_81_30, qI_81_31, qI_81_32, qI_81_33, qI_81_34, qI_81_35, qI_81_39, qI_81_40, qI_81_41, qI_81_42, qI_81_43, qI_81_44, qI_81_45, qI_81_46, qI_81_47, qI_81_51, qI_81_53, qR_81_1, qRd_81_1, qR_81_4, qRd_81_4, qR_81_5, qRd_81_5, qR_81_6, qRd_81_6, qR_81_7, qRd_81_7, qR_81_8, qRd_81_8, qR_81_14, qRd_81_14, qR_81_15, qRd_81_15, qR_81_16, qRd_81_16, qR_81_17, qRd_81_17, qR_81_22, qRd_81_22, qR_81_23, qRd_81_23, qR_81_24, qRd_81_24, qR_81_25, qRd_81_25, qR_81_26, qRd_81_26, qR_81_27, qRd_81_27, qR_81_28, qRd_81_28, qR_81_36, qRd_81_36, qR_81_37, qRd_81_37, qR_81_38, qRd_81_38, qR_81_48, qRd_81_48, qR_81_49, qRd_81_49, qR_81_50, qRd_81_50, qR_81_52, qRd_81_52, qR_81_54, qRd_81_54, qR_81_55, qRd_81_55, qR_81_56, qRd_81_56, qR_81_57, qRd_81_57, qR_81_58, qRd_81_58, qA_102, qAd_102, qA_103, qAd_103, qO_81, qL_102, qLd_102, qL_103, qLd_103, e_isFrame hidx, h1]
theorem hand_cut : ctrT ivG JB X et h13 := by
  intro d av mu la ro hd ha hg hr hj
  have := ap1 ha
  subst this
  show Fin X d MRm_cut 0 [.ref 81, mkU] [] mu la ro et _
  have f : frm wFr mu la ro (up2 mu 81 47 0) la ro := frm_up (k := 47) (.inr (by decide))
  refine ⟨some (.int (mu 81 47)), up2 mu 81 47 0, la, ro, ?_, gOk_up hg (top_ok _) (by decide), hr, JB_fr hj f ⟨0, by omega, up2_s _ _ _ _, fun i hi => absurd hi (by omega), fun i hi => absurd hi (by omega)⟩, f, resT _⟩
  simp [r_MRm_cut_0, r_MRm_cut_1, r_MRm_cut_4, r_MRm_cut_5, r_MRm_cut_6, r_MRm_cut_7, r_MRm_cut_10, r_MRm_cut_11, sL_0, sL_1, sL_2, mk_i, mk_r, mk_f, mk_n, mk_u, mk_l, List.set_cons_succ, List.set_cons_zero, Nat.reduceAdd, ckS_0, ckS_1, ckS_2, ckS_3, ckS_4, Option.bind_some, Option.isSome_some, psh, if_true, if_false, qI_81_0, qI_81_2, qI_81_3, qI_81_9, qI_81_10, qI_81_11, qI_81_12, qI_81_13, qI_81_18, qI_81_19, qI_81_20, qI_81_21, qI_81_29, qI_81_30, qI_81_31, qI_81_32, qI_81_33, qI_81_34, qI_81_35, qI_81_39, qI_81_40, qI_81_41, qI_81_42, qI_81_43, qI_81_44, qI_81_45, qI_81_46, qI_81_47, qI_81_51, qI_81_53, qR_81_1, qRd_81_1, qR_81_4, qRd_81_4, qR_81_5, qRd_81_5, qR_81_6, qRd_81_6, qR_81_7, qRd_81_7, qR_81_8, qRd_81_8, qR_81_14, qRd_81_14, qR_81_15, qRd_81_15, qR_81_16, qRd_81_16, qR_81_17, qRd_81_17, qR_81_22, qRd_81_22, qR_81_23, qRd_81_23, qR_81_24, qRd_81_24, qR_81_25, qRd_81_25, qR_81_26, qRd_81_26, qR_81_27, qRd_81_27, qR_81_28, qRd_81_28, qR_81_36, qRd_81_36, qR_81_37, qRd_81_37, qR_81_38, qRd_81_38, qR_81_48, qRd_81_48, qR_81_49, qRd_81_49, qR_81_50, qRd_81_50, qR_81_52, qRd_81_52, qR_81_54, qRd_81_54, qR_81_55, qRd_81_55, qR_81_56, qRd_81_56, qR_81_57, qRd_81_57, qR_81_58, qRd_81_58, qA_102, qAd_102, qA_103, qAd_103, qO_81, qL_102, qLd_102, qL_103, qLd_103]
end
