-- ===== by hand: floor
noncomputable def rtS (mu : Mu) : PS := endS (rdF mu).1 (rdF mu).2.1
noncomputable def rtm (mu : Mu) : Mu := pm (up2 (rdF mu).1 81 2 0) (rtS mu)
noncomputable def rtM (mu : Mu) (p : Nat) : Mu := if noF (rtS mu) = true then cpB (up2 (cpA (rtm mu) p (rtS mu).2.2.2.length) 94 p (nI (rdF mu).2.2)) p (rdF mu).2.2 else rtm mu
section
variable {X : Tok} {d : Nat} {mu mu' : Mu} {la la' : La} {ro ro' : Ro} {et : Nat → Option va_E} {s : PS} {n : Nat}
theorem g_tOK (hg : gOk ivG mu) : tOK mu := by
  have h : (0 : Int) ≤ (mu 81 2).toInt ∧ (mu 81 2).toInt ≤ 120 := (hg 81 2).2
  refine ⟨(mu 81 2).toInt.toNat, by omega, Int32.toInt_inj.mp ?_⟩
  rw [nI_toInt (by omega)]
  omega
theorem endS_n (h : noF (endS mu s) = true) : endS mu s = s ∧ noF s = true := by
  unfold endS at h ⊢
  split at h
  · rw [wr_noF] at h; cases h
  · rename_i c
    rw [if_neg c]
    exact ⟨rfl, h⟩
theorem rt_len (hT : tOK mu) (h : noF (rtS mu) = true) : (rtS mu).2.2.2.length ≤ 120 ∧ LV (rdF mu).1 (rdF mu).2.2 (rtS mu).2.2.2 ∧ (rtS mu).1 ≤ 120 := by
  have L := LI_0 hT
  obtain ⟨e1, e2⟩ := endS_n h
  have v := LV_0 hT e2
  have hT2 := Tt_le L.1
  have a := (L.2.2.2.2.2 e2).2.1
  have b := L.2.2.2.1
  unfold rtS
  rw [e1]
  exact ⟨by omega, v, by omega⟩
theorem rt_h (hT : tOK mu) : (rtS mu).1 ≤ 120 := by
  have L := LI_0 hT
  have hT2 := Tt_le L.1
  have b := L.2.2.2.1
  unfold rtS endS
  split
  · show (rdF mu).2.1.1 ≤ 120; omega
  · omega
theorem e_readText {P : Nat} (hT : tOK mu) (hP : P < 4) : Rr X (d + 53) MRm_readText 0 [.ref 81, .int (nI P), mkU] [] (Wd mu la ro et) = some (some (.int (fI' (rtS mu).2.1)), Wd (rtM mu P) la ro et) := by
  have hT' : tOK (m0 mu) := tOK_up (by decide) hT
  have i4 : ¬ ((4 : Int32) < 0 ∨ 5 ≤ 4) := by decide
  have k4 : (4 : Int32).toNatClampNeg = 4 := by decide
  have el := e_line (X := X) (d := d) (la := la) (ro := ro) (et := et) (mu := m0 mu) (n := 0) hT' (by decide) (up2_s _ _ _ _) (Pre_0 hT)
  have L1 := LI_ln (n := 0) hT' (Pre_0 hT) (Nat.le_refl _)
  have lp := rd_loop (X := X) (d := d) (la := la) (ro := ro) (et := et) (u := .int (nI P)) 121 _ 1 _ L1 (by have := Tt_le L1.1; omega)
  have L := LI_0 hT
  have hR : rdF mu = rdL 121 (lnF (m0 mu) 0 (0, none, 0, [])).1 1 (lnF (m0 mu) 0 (0, none, 0, [])).2 := rfl
  rw [← hR] at lp
  have q64 : Rr X (d + 53) MRm_readText 0 [.ref 81, .int (nI P), mkU] [] (Wd mu la ro et) = Rr X (d + 53) MRm_readText 64 [.ref 81, .int (nI P), mkU] [] (Wd (pm (rdF mu).1 (rdF mu).2.1) la ro et) := by
    simp only [r_MRm_readText_0, r_MRm_readText_1, r_MRm_readText_2, r_MRm_readText_5, r_MRm_readText_6, r_MRm_readText_7, r_MRm_readText_10, r_MRm_readText_11, r_MRm_readText_12, r_MRm_readText_15, r_MRm_readText_16, r_MRm_readText_17, r_MRm_readText_20, r_MRm_readText_21, r_MRm_readText_24, r_MRm_readText_25, r_MRm_readText_26, r_MRm_readText_27, r_MRm_readText_28, sL_0, sL_1, sL_2, mk_i, mk_r, mk_f, mk_n, mk_u, mk_l, List.set_cons_succ, List.set_cons_zero, Nat.reduceAdd, ckS_0, ckS_1, ckS_2, ckS_3, ckS_4, Option.bind_some, Option.isSome_some, psh, if_true, if_false, i10, not_true_eq_false, not_false_eq_true, Bool.false_eq_true, and_self, and_true, true_and, eq_self, qI_81_0, qI_81_2, qI_81_3, qI_81_9, qI_81_10, qI_81_11, qI_81_12, qI_81_13, qI_81_18, qI_81_19, qI_81_20, qI_81_21, qI_81_29, qI_81_30, qI_81_31, qI_81_32, qI_81_33, qI_81_34, qI_81_35, qI_81_39, qI_81_40, qI_81_41, qI_81_42, qI_81_43, qI_81_44, qI_81_45, qI_81_46, qI_81_47, qI_81_51, qI_81_53, qR_81_1, qRd_81_1, qR_81_4, qRd_81_4, qR_81_5, qRd_81_5, qR_81_6, qRd_81_6, qR_81_7, qRd_81_7, qR_81_8, qRd_81_8, qR_81_14, qRd_81_14, qR_81_15, qRd_81_15, qR_81_16, qRd_81_16, qR_81_17, qRd_81_17, qR_81_22, qRd_81_22, qR_81_23, qRd_81_23, qR_81_24, qRd_81_24, qR_81_25, qRd_81_25, qR_81_26, qRd_81_26, qR_81_27, qRd_81_27, qR_81_28, qRd_81_28, qR_81_36, qRd_81_36, qR_81_37, qRd_81_37, qR_81_38, qRd_81_38, qR_81_48, qRd_81_48, qR_81_49, qRd_81_49, qR_81_50, qRd_81_50, qR_81_52, qRd_81_52, qR_81_54, qRd_81_54, qR_81_55, qRd_81_55, qR_81_56, qRd_81_56, qR_81_57, qRd_81_57, qR_81_58, qRd_81_58, qA_94, qAd_94, qO_81, qL_94, qLd_94, k4, i4, pm_init, el]
    exact lp
  rw [q64]
  have hl := fun h => rt_len hT h
  have hA := Al_0 (mu := mu)
  unfold rtM rtm rtS at *
  generalize rdF mu = r at *
  obtain ⟨m1, s1, n1⟩ := r
  obtain ⟨⟨T, t1, t2⟩, l2, l3, l4, l5, l6⟩ := L
  simp only at t2 l2 l3 l4 l5 l6 hl hA ⊢
  have hTm : Tt m1 = T := by unfold Tt; rw [t2, nI_clamp (by omega)]
  have hT1 : tOK m1 := ⟨T, t1, t2⟩
  by_cases c1 : noF s1 = true
  · by_cases c2 : s1.1 < T
    · have ee : endS m1 s1 = wrS s1 := if_pos (by rw [c1, hTm, decide_eq_true c2]; rfl)
      rw [ee, if_neg (by rw [wr_noF]; decide)]
      have h1 : ¬ nI T ≤ nI s1.1 := nI_ge c2 (by omega)
      have hf2 : ∀ j, s1.2.1 = some j → j < 2 ^ 31 := fun j hj => by rw [noF_n c1] at hj; cases hj
      have f0 : (fI' (wrS s1).2.1 < 0) = False := flt0 (r := wrS s1) (mu := m1) (by rw [wr_noF]; decide) (fun j hj => by
        have e : (wrS s1).2.1 = some s1.1 := by unfold wrS; rw [noF_n c1]
        rw [e] at hj; cases hj; exact l4) hT1
      simp only [r_MRm_readText_64, r_MRm_readText_65, r_MRm_readText_68, r_MRm_readText_71, r_MRm_readText_72, r_MRm_readText_75, r_MRm_readText_76, r_MRm_readText_79, r_MRm_readText_82, r_MRm_readText_83, r_MRm_readText_86, r_MRm_readText_87, r_MRm_readText_88, r_MRm_readText_91, r_MRm_readText_92, r_MRm_readText_95, r_MRm_readText_98, r_MRm_readText_99, r_MRm_readText_102, sL_0, sL_1, sL_2, mk_i, mk_r, mk_f, mk_n, mk_u, mk_l, List.set_cons_succ, List.set_cons_zero, Nat.reduceAdd, ckS_0, ckS_1, ckS_2, ckS_3, ckS_4, Option.bind_some, Option.isSome_some, psh, if_true, if_false, i10, not_true_eq_false, not_false_eq_true, Bool.false_eq_true, and_self, and_true, true_and, eq_self, qI_81_0, qI_81_2, qI_81_3, qI_81_9, qI_81_10, qI_81_11, qI_81_12, qI_81_13, qI_81_18, qI_81_19, qI_81_20, qI_81_21, qI_81_29, qI_81_30, qI_81_31, qI_81_32, qI_81_33, qI_81_34, qI_81_35, qI_81_39, qI_81_40, qI_81_41, qI_81_42, qI_81_43, qI_81_44, qI_81_45, qI_81_46, qI_81_47, qI_81_51, qI_81_53, qR_81_1, qRd_81_1, qR_81_4, qRd_81_4, qR_81_5, qRd_81_5, qR_81_6, qRd_81_6, qR_81_7, qRd_81_7, qR_81_8, qRd_81_8, qR_81_14, qRd_81_14, qR_81_15, qRd_81_15, qR_81_16, qRd_81_16, qR_81_17, qRd_81_17, qR_81_22, qRd_81_22, qR_81_23, qRd_81_23, qR_81_24, qRd_81_24, qR_81_25, qRd_81_25, qR_81_26, qRd_81_26, qR_81_27, qRd_81_27, qR_81_28, qRd_81_28, qR_81_36, qRd_81_36, qR_81_37, qRd_81_37, qR_81_38, qRd_81_38, qR_81_48, qRd_81_48, qR_81_49, qRd_81_49, qR_81_50, qRd_81_50, qR_81_52, qRd_81_52, qR_81_54, qRd_81_54, qR_81_55, qRd_81_55, qR_81_56, qRd_81_56, qR_81_57, qRd_81_57, qR_81_58, qRd_81_58, qO_81, pm_19, fge1 c1, pm_18, pm_2, t2, h1, e_wrong hf2, pm_up2, f0]
    · have ee : endS m1 s1 = s1 := if_neg (by rw [c1, hTm, decide_eq_false c2]; decide)
      rw [ee] at hl ⊢
      rw [if_pos c1, noF_n c1]
      obtain ⟨k1, ⟨t, e, k2, k3, k5⟩, k6⟩ := hl c1
      have h1 : nI T ≤ nI s1.1 := nI_le (by omega) (by omega)
      have f0 : (fI' s1.2.1 < 0) = True := flt1 c1
      generalize em : pm (up2 m1 81 2 0) s1 = m
      have g21 : m 81 21 = nI s1.2.2.2.length := by rw [← em]; rfl
      have m19 : (m 81 19 < 0) = True := by rw [← em]; exact f0
      have g94 : ∀ j, m 94 j = m1 94 j := fun j => by rw [← em, pm_o (by decide) (by decide) (by decide), up2_a (by decide)]
      have g95 : ∀ j, m 95 j = m1 95 j := fun j => by rw [← em, pm_o (by decide) (by decide) (by decide), up2_a (by decide)]
      have g96 : ∀ j, m 96 j = m1 96 j := fun j => by rw [← em, pm_o (by decide) (by decide) (by decide), up2_a (by decide)]
      have gb : ∀ j, j < s1.2.2.2.length → (m 92 (520 + j)).toInt8.toInt32 = m 92 (520 + j) := fun j hj => by
        have : m 92 (520 + j) = (s1.2.2.2[j]'hj).1 := by
          rw [← em]
          unfold pm
          simp only [Nat.reduceEqDiff, if_false, if_true, Nat.le_add_right, Nat.add_sub_cancel_left, List.getElem?_eq_getElem hj]
        rw [this]
        exact hA _ (List.getElem_mem hj)
      have l1 := cpA_loop (X := X) (d := d + 53) (la := la) (ro := ro) (et := et) (m := m) (P := P) hP (by omega) g21 gb s1.2.2.2.length 0 (by omega)
      rw [cpA_0, nI_0] at l1
      have cP : (nI P).toNatClampNeg = P := nI_clamp (by omega)
      have iP := ix (j := P) (N := 5) (by omega) (by omega)
      generalize em2 : up2 (cpA m P s1.2.2.2.length) 94 P (nI n1) = m2
      have v2 : m2 94 P = nI n1 := by rw [← em2]; exact up2_s _ _ _ _
      have c94 : cpA m P s1.2.2.2.length 94 4 = nI n1 := by rw [cpA_o (by decide) (by decide), g94]; exact l2
      have l2' := cpB_loop (X := X) (d := d + 53) (la := la) (ro := ro) (et := et) (m := m2) (P := P) hP l5 v2 (fun j hj => by
        obtain ⟨a1, a2⟩ := k2 j hj
        obtain ⟨b1, b2, b3, _, _⟩ := k3 j hj
        have x1 : m2 95 (244 + j) = nI (t j) := by rw [← em2, up2_a (by decide), cpA_o (by decide) (by decide), g95]; exact a1
        have x2 : m2 96 (244 + j) = nI (e j) := by rw [← em2, up2_a (by decide), cpA_o (by decide) (by decide), g96]; exact a2
        rw [x1, x2]
        exact ⟨s16 (by omega), s16 (by omega)⟩) n1 0 (by omega)
      rw [cpB_0, nI_0] at l2'
      simp only [r_MRm_readText_64, r_MRm_readText_65, r_MRm_readText_68, r_MRm_readText_71, r_MRm_readText_72, r_MRm_readText_75, r_MRm_readText_76, r_MRm_readText_79, r_MRm_readText_82, r_MRm_readText_83, r_MRm_readText_86, r_MRm_readText_87, r_MRm_readText_88, r_MRm_readText_91, r_MRm_readText_92, r_MRm_readText_95, r_MRm_readText_98, r_MRm_readText_99, r_MRm_readText_102, r_MRm_readText_103, r_MRm_readText_104, r_MRm_readText_163, r_MRm_readText_164, r_MRm_readText_167, r_MRm_readText_168, r_MRm_readText_169, r_MRm_readText_172, r_MRm_readText_173, r_MRm_readText_174, r_MRm_readText_175, r_MRm_readText_176, r_MRm_readText_235, r_MRm_readText_236, sL_0, sL_1, sL_2, mk_i, mk_r, mk_f, mk_n, mk_u, mk_l, List.set_cons_succ, List.set_cons_zero, Nat.reduceAdd, ckS_0, ckS_1, ckS_2, ckS_3, ckS_4, Option.bind_some, Option.isSome_some, psh, if_true, if_false, i10, not_true_eq_false, not_false_eq_true, Bool.false_eq_true, and_self, and_true, true_and, eq_self, qI_81_0, qI_81_2, qI_81_3, qI_81_9, qI_81_10, qI_81_11, qI_81_12, qI_81_13, qI_81_18, qI_81_19, qI_81_20, qI_81_21, qI_81_29, qI_81_30, qI_81_31, qI_81_32, qI_81_33, qI_81_34, qI_81_35, qI_81_39, qI_81_40, qI_81_41, qI_81_42, qI_81_43, qI_81_44, qI_81_45, qI_81_46, qI_81_47, qI_81_51, qI_81_53, qR_81_1, qRd_81_1, qR_81_4, qRd_81_4, qR_81_5, qRd_81_5, qR_81_6, qRd_81_6, qR_81_7, qRd_81_7, qR_81_8, qRd_81_8, qR_81_14, qRd_81_14, qR_81_15, qRd_81_15, qR_81_16, qRd_81_16, qR_81_17, qRd_81_17, qR_81_22, qRd_81_22, qR_81_23, qRd_81_23, qR_81_24, qRd_81_24, qR_81_25, qRd_81_25, qR_81_26, qRd_81_26, qR_81_27, qRd_81_27, qR_81_28, qRd_81_28, qR_81_36, qRd_81_36, qR_81_37, qRd_81_37, qR_81_38, qRd_81_38, qR_81_48, qRd_81_48, qR_81_49, qRd_81_49, qR_81_50, qRd_81_50, qR_81_52, qRd_81_52, qR_81_54, qRd_81_54, qR_81_55, qRd_81_55, qR_81_56, qRd_81_56, qR_81_57, qRd_81_57, qR_81_58, qRd_81_58, qA_94, qAd_94, qO_81, qL_94, qLd_94, pm_19, fge1 c1, pm_18, pm_2, t2, h1, pm_up2, f0, em, m19, l1, cP, iP, k4, i4, c94, em2, l2']
      rfl
  · have ee : endS m1 s1 = s1 := if_neg (by rw [Bool.and_eq_true]; exact fun q => c1 q.1)
    rw [ee, if_neg c1]
    have f0 : (fI' s1.2.1 < 0) = False := flt0 c1 l3 hT1
    simp only [r_MRm_readText_64, r_MRm_readText_65, r_MRm_readText_68, r_MRm_readText_71, r_MRm_readText_72, r_MRm_readText_75, r_MRm_readText_76, r_MRm_readText_79, r_MRm_readText_82, r_MRm_readText_83, r_MRm_readText_86, r_MRm_readText_87, r_MRm_readText_88, r_MRm_readText_91, r_MRm_readText_92, r_MRm_readText_95, r_MRm_readText_98, r_MRm_readText_99, r_MRm_readText_102, sL_0, sL_1, sL_2, mk_i, mk_r, mk_f, mk_n, mk_u, mk_l, List.set_cons_succ, List.set_cons_zero, Nat.reduceAdd, ckS_0, ckS_1, ckS_2, ckS_3, ckS_4, Option.bind_some, Option.isSome_some, psh, if_true, if_false, i10, not_true_eq_false, not_false_eq_true, Bool.false_eq_true, and_self, and_true, true_and, eq_self, qI_81_0, qI_81_2, qI_81_3, qI_81_9, qI_81_10, qI_81_11, qI_81_12, qI_81_13, qI_81_18, qI_81_19, qI_81_20, qI_81_21, qI_81_29, qI_81_30, qI_81_31, qI_81_32, qI_81_33, qI_81_34, qI_81_35, qI_81_39, qI_81_40, qI_81_41, qI_81_42, qI_81_43, qI_81_44, qI_81_45, qI_81_46, qI_81_47, qI_81_51, qI_81_53, qR_81_1, qRd_81_1, qR_81_4, qRd_81_4, qR_81_5, qRd_81_5, qR_81_6, qRd_81_6, qR_81_7, qRd_81_7, qR_81_8, qRd_81_8, qR_81_14, qRd_81_14, qR_81_15, qRd_81_15, qR_81_16, qRd_81_16, qR_81_17, qRd_81_17, qR_81_22, qRd_81_22, qR_81_23, qRd_81_23, qR_81_24, qRd_81_24, qR_81_25, qRd_81_25, qR_81_26, qRd_81_26, qR_81_27, qRd_81_27, qR_81_28, qRd_81_28, qR_81_36, qRd_81_36, qR_81_37, qRd_81_37, qR_81_38, qRd_81_38, qR_81_48, qRd_81_48, qR_81_49, qRd_81_49, qR_81_50, qRd_81_50, qR_81_52, qRd_81_52, qR_81_54, qRd_81_54, qR_81_55, qRd_81_55, qR_81_56, qRd_81_56, qR_81_57, qRd_81_57, qR_81_58, qRd_81_58, qO_81, pm_19, fge0 c1 l3 hT1, pm_up2, f0]
end
