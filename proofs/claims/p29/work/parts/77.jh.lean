-- ===== undo, redo; a new stone; all that stones need, kept
section
variable {X : Tok} {d : Nat} {mu m m' m1 mu' M M0 : Mu} {la la' : La} {ro ro' : Ro} {et : Nat → Option va_E} {a S L n k j D U p : Nat} {s w v b x of at' old : Int32} {W : List Lp}
/-- change i, told as a number of stone S -/
theorem ChOk_kd {i : Nat} (h : ChOk mu n i) : ∃ S w, S < n ∧ mu 15 (4 * i) = nI S ∧ mu 15 (4 * i + 1) = w ∧ mu 15 (4 * i + 2) = mu 90 i ∧ mu 15 (4 * i + 3) = mu 91 i ∧ Kd S w (mu 88 i) (mu 89 i) ∧ KvB (mu 88 i) (mu 89 i) (mu 90 i) ∧ KvB (mu 88 i) (mu 89 i) (mu 91 i) := by
  obtain ⟨S, h1, h2, h3, h4, hb, h5⟩ := h
  refine ⟨S, mu 15 (4 * i + 1), h1, h2, rfl, h3, h4, ?_, hb⟩
  exact h5
theorem plc_81 {c i : Nat} (h : c = 81 ∨ c < 81) : plc m of at' v c i = m c i := plc_o (by omega) (by omega)
/-- what is placed on both sides -/
theorem ud_core (hn : n ≤ 6) (hS : S < n) (hk : Kd S w of at') (hst : ∀ S', S' < n → StOk (plc m1 of at' b) S') (hM : ∀ c j, (19 ≤ c ∧ c ≤ 48) → M c j = m1 c j) (hM2 : ∀ c j, 83 ≤ c ∧ c ≤ 87 → M c j = plc m1 of at' b c j) : ∀ S', S' < n → StOk M S' := by
  intro S' hS'
  refine st_t (M0 := plc m1 of at' b) (fun c i h => ?_) (by omega) (hst S' hS')
  rcases h with h | h
  · rw [hM c i h, plc_o (by omega) (by omega)]
  · exact hM2 c i h
set_option maxHeartbeats 4000000 in
theorem undo_all (hg : gOk ivG mu) (hr : rOk ro) (hj : JB mu la ro) (q : RSC mu) : ∃ (mu1 mu2 : Mu) (x : Int32), Rr X (d + 3) MTo_undo 0 [.ref 0] [] (Wd mu la ro et) = some (some (.int x), Wd mu1 la ro et) ∧ Rr X (d + 3) MRm_undo 0 [.ref 81] [] (Wd mu1 la ro et) = some (some (.int x), Wd mu2 la ro et) ∧ gOk ivG mu2 ∧ JB mu2 la ro ∧ RSC mu2 ∧ frm wSe mu la ro mu2 la ro := by
  obtain ⟨n, D, U, ⟨hn, hDU⟩, h0, h3, h9, hs, ⟨c1, c2, c3, c4⟩, hch⟩ := id q
  cases D with
  | zero =>
    refine ⟨mu, mu, -5, ?_, ?_, hg, hj, q, frm_r _ _ _ _⟩
    · simp only [r_MTo_undo_0, r_MTo_undo_1, r_MTo_undo_4, r_MTo_undo_7, r_MTo_undo_10, r_MTo_undo_12, sL_0, sL_1, sL_2, mk_i, mk_r, mk_f, mk_n, mk_u, mk_l, List.set_cons_succ, List.set_cons_zero, Nat.reduceAdd, ckS_0, ckS_1, ckS_2, ckS_3, ckS_4, Option.bind_some, Option.isSome_some, psh, if_true, if_false, i10, not_true_eq_false, not_false_eq_true, Bool.false_eq_true, and_self, and_true, true_and, eq_self, qI_0_9, qI_0_10, qI_14_1, qI_14_2, qR_0_0, qRd_0_0, qR_0_1, qRd_0_1, qR_0_2, qRd_0_2, qR_0_3, qRd_0_3, qR_0_4, qRd_0_4, qR_0_5, qRd_0_5, qR_0_6, qRd_0_6, qR_0_7, qRd_0_7, qR_0_8, qRd_0_8, qR_14_0, qRd_14_0, qO_0, qO_14, c1, nI_0]
    · simp only [r_MRm_undo_0, r_MRm_undo_1, r_MRm_undo_4, r_MRm_undo_7, r_MRm_undo_9, r_MRm_undo_10, sL_0, sL_1, sL_2, mk_i, mk_r, mk_f, mk_n, mk_u, mk_l, List.set_cons_succ, List.set_cons_zero, Nat.reduceAdd, ckS_0, ckS_1, ckS_2, ckS_3, ckS_4, Option.bind_some, Option.isSome_some, psh, if_true, if_false, i10, not_true_eq_false, not_false_eq_true, Bool.false_eq_true, and_self, and_true, true_and, eq_self, qI_81_0, qI_81_2, qI_81_3, qI_81_9, qI_81_10, qI_81_11, qI_81_12, qI_81_13, qI_81_18, qI_81_19, qI_81_20, qI_81_21, qI_81_29, qI_81_30, qI_81_31, qI_81_32, qI_81_33, qI_81_34, qI_81_35, qI_81_39, qI_81_40, qI_81_41, qI_81_42, qI_81_43, qI_81_44, qI_81_45, qI_81_46, qI_81_47, qI_81_51, qI_81_53, qR_81_1, qRd_81_1, qR_81_4, qRd_81_4, qR_81_5, qRd_81_5, qR_81_6, qRd_81_6, qR_81_7, qRd_81_7, qR_81_8, qRd_81_8, qR_81_14, qRd_81_14, qR_81_15, qRd_81_15, qR_81_16, qRd_81_16, qR_81_17, qRd_81_17, qR_81_22, qRd_81_22, qR_81_23, qRd_81_23, qR_81_24, qRd_81_24, qR_81_25, qRd_81_25, qR_81_26, qRd_81_26, qR_81_27, qRd_81_27, qR_81_28, qRd_81_28, qR_81_36, qRd_81_36, qR_81_37, qRd_81_37, qR_81_38, qRd_81_38, qR_81_48, qRd_81_48, qR_81_49, qRd_81_49, qR_81_50, qRd_81_50, qR_81_52, qRd_81_52, qR_81_54, qRd_81_54, qR_81_55, qRd_81_55, qR_81_56, qRd_81_56, qR_81_57, qRd_81_57, qR_81_58, qRd_81_58, qO_81, c3, nI_0]
  | succ D =>
    obtain ⟨S, w, hS, p0, p1, p2, p3, hk, kb, ka⟩ := ChOk_kd (hch D (by omega))
    have h1 : ¬ nI (D + 1) = 0 := nI_ne0 (by omega) (by omega)
    have hv := Kd_v (by omega) hk
    -- the class
    obtain ⟨m0, hm0⟩ : ∃ m0, m0 = up2 mu 14 1 (nI D) := ⟨_, rfl⟩
    have o0 : ∀ c i, ¬ c = 14 → m0 c i = mu c i := fun c i h => by rw [hm0]; exact up2_a h
    have d0 : m0 14 1 = nI D := by rw [hm0]; exact up2_s _ _ _ _
    have s0 : ∀ S', S' < n → StOk m0 S' := fun S' hS' => st_t (fun c i h => o0 c i (by omega)) (by omega) (hs S' hS')
    obtain ⟨L, l1, l2, _⟩ := s0 S hS
    obtain ⟨old, m1, e1, C, hst, _⟩ := kd_ch (X := X) (d := d) (la := la) (ro := ro) (et := et) (b := mu 90 D) hn hS s0 hk kb l2 l1.2
    have eA := e_stoneAt (X := X) (d := d) (mu := m0) (la := la) (et := et) hr hn ((o0 _ _ (by omega)).trans h0) hS
    have q0 := e_chP (X := X) (d := d + 1) (m := m0) (la := la) (ro := ro) (et := et) (p := 0) (D := D) (by decide) (by omega)
    have q1 := e_chP (X := X) (d := d + 1) (m := m0) (la := la) (ro := ro) (et := et) (p := 1) (D := D) (by decide) (by omega)
    have q2 := e_chP (X := X) (d := d + 1) (m := m0) (la := la) (ro := ro) (et := et) (p := 2) (D := D) (by decide) (by omega)
    rw [show 4 * D + 0 = 4 * D from rfl, o0 _ _ (by decide), p0] at q0
    rw [o0 _ _ (by decide), p1] at q1
    rw [o0 _ _ (by decide), p2] at q2
    simp only [show nI 0 = (0 : Int32) from rfl] at q0
    simp only [show nI 1 = (1 : Int32) from rfl] at q1
    simp only [show nI 2 = (2 : Int32) from rfl] at q2
    have m14 : m1 14 1 = nI D := (C 14 1 (by omega)).trans d0
    have qa := snA_of (show S < 6 by omega)
    have E1 : Rr X (d + 3) MTo_undo 0 [.ref 0] [] (Wd mu la ro et) = some (some (.int (nI D)), Wd m1 la ro et) := by
      simp only [r_MTo_undo_0, r_MTo_undo_1, r_MTo_undo_4, r_MTo_undo_7, r_MTo_undo_10, r_MTo_undo_12, r_MTo_undo_13, r_MTo_undo_14, r_MTo_undo_17, r_MTo_undo_17i, r_MTo_undo_18, r_MTo_undo_21, r_MTo_undo_22, r_MTo_undo_23, r_MTo_undo_26, r_MTo_undo_27, r_MTo_undo_28, r_MTo_undo_31, r_MTo_undo_32, r_MTo_undo_35, r_MTo_undo_38, r_MTo_changeTo_0, r_MTo_changeTo_1, r_MTo_changeTo_2, r_MTo_changeTo_5, r_MTo_changeTo_6, r_MTo_changeTo_9, r_MTo_changeTo_12, r_MTo_changeTo_13, r_MTo_changeTo_16, r_MTo_changeTo_19, r_MTo_changeTo_19n, r_MTo_changeTo_20, r_MTo_changeTo_20n, r_MTo_changeTo_21, r_MTo_changeTo_21n, r_MTo_changeTo_24, r_MTo_changeTo_24n, r_MTo_changeTo_25, r_MTo_changeTo_26, r_MTo_changeTo_29, r_MTo_changeTo_30, r_MTo_changeTo_33, r_MTo_changeTo_36, r_MTo_changeTo_37, r_MTo_changeTo_40, r_MTo_changeTo_41, r_MTo_changeTo_44, r_MTo_changeTo_45, r_MTo_changeTo_48, r_MTo_changeTo_51, r_MTo_changeTo_52, r_MTo_changeTo_55, r_MTo_changeTo_58, r_MTo_changeTo_59, sL_0, sL_1, sL_2, mk_i, mk_r, mk_f, mk_n, mk_u, mk_l, List.set_cons_succ, List.set_cons_zero, Nat.reduceAdd, ckS_0, ckS_1, ckS_2, ckS_3, ckS_4, Option.bind_some, Option.isSome_some, psh, if_true, if_false, i10, not_true_eq_false, not_false_eq_true, Bool.false_eq_true, and_self, and_true, true_and, eq_self, qI_0_9, qI_0_10, qI_14_1, qI_14_2, qR_0_0, qRd_0_0, qR_0_1, qRd_0_1, qR_0_2, qRd_0_2, qR_0_3, qRd_0_3, qR_0_4, qRd_0_4, qR_0_5, qRd_0_5, qR_0_6, qRd_0_6, qR_0_7, qRd_0_7, qR_0_8, qRd_0_8, qR_14_0, qRd_14_0, qO_0, qO_14, qa.1.1, c1, h1, nI_pred, ← hm0, d0, q0, eA, q1, q2, e1, m14]
    -- the model
    have n12 : m1 81 12 = nI (D + 1) := (C 81 12 (by omega)).trans ((o0 _ _ (by decide)).trans c3)
    have n13 : m1 81 13 = nI U := (C 81 13 (by omega)).trans ((o0 _ _ (by decide)).trans c4)
    have r8 : ∀ c i, 88 ≤ c → m1 c i = mu c i := fun c i h => (C c i (by omega)).trans (o0 _ _ (by omega))
    have cD : (nI D).toNatClampNeg = D := nI_clamp (by omega)
    have iD : ¬ (nI D < 0 ∨ 40 ≤ D) := by have := nI_in (c := D) (N := 40) (by omega) (by decide); rwa [cD] at this
    obtain ⟨M, hM⟩ : ∃ M, M = plc (up2 (up2 m1 81 12 (nI D)) 81 13 (nI (U + 1))) (mu 88 D) (mu 89 D) (mu 90 D) := ⟨_, rfl⟩
    have E2 : Rr X (d + 3) MRm_undo 0 [.ref 81] [] (Wd m1 la ro et) = some (some (.int (nI D)), Wd M la ro et) := by
      rw [hM]
      simp only [r_MRm_undo_0, r_MRm_undo_1, r_MRm_undo_4, r_MRm_undo_7, r_MRm_undo_9, r_MRm_undo_10, r_MRm_undo_11, r_MRm_undo_11i, r_MRm_undo_12, r_MRm_undo_15, r_MRm_undo_16, r_MRm_undo_17, r_MRm_undo_20, r_MRm_undo_21, r_MRm_undo_21i, r_MRm_undo_22, r_MRm_undo_25, r_MRm_undo_26, r_MRm_undo_27, r_MRm_undo_30, r_MRm_undo_31, r_MRm_undo_32, r_MRm_undo_35, r_MRm_undo_36, r_MRm_undo_39, r_MRm_undo_40, r_MRm_undo_41, r_MRm_undo_44, r_MRm_undo_45, r_MRm_undo_48, r_MRm_undo_49, r_MRm_undo_50, r_MRm_undo_53, r_MRm_undo_54, r_MRm_undo_57, r_MRm_undo_58, r_MRm_undo_61, r_MRm_undo_62, r_MRm_undo_65, sL_0, sL_1, sL_2, mk_i, mk_r, mk_f, mk_n, mk_u, mk_l, List.set_cons_succ, List.set_cons_zero, Nat.reduceAdd, ckS_0, ckS_1, ckS_2, ckS_3, ckS_4, Option.bind_some, Option.isSome_some, psh, if_true, if_false, i10, not_true_eq_false, not_false_eq_true, Bool.false_eq_true, and_self, and_true, true_and, eq_self, qI_81_0, qI_81_2, qI_81_3, qI_81_9, qI_81_10, qI_81_11, qI_81_12, qI_81_13, qI_81_18, qI_81_19, qI_81_20, qI_81_21, qI_81_29, qI_81_30, qI_81_31, qI_81_32, qI_81_33, qI_81_34, qI_81_35, qI_81_39, qI_81_40, qI_81_41, qI_81_42, qI_81_43, qI_81_44, qI_81_45, qI_81_46, qI_81_47, qI_81_51, qI_81_53, qR_81_1, qRd_81_1, qR_81_4, qRd_81_4, qR_81_5, qRd_81_5, qR_81_6, qRd_81_6, qR_81_7, qRd_81_7, qR_81_8, qRd_81_8, qR_81_14, qRd_81_14, qR_81_15, qRd_81_15, qR_81_16, qRd_81_16, qR_81_17, qRd_81_17, qR_81_22, qRd_81_22, qR_81_23, qRd_81_23, qR_81_24, qRd_81_24, qR_81_25, qRd_81_25, qR_81_26, qRd_81_26, qR_81_27, qRd_81_27, qR_81_28, qRd_81_28, qR_81_36, qRd_81_36, qR_81_37, qRd_81_37, qR_81_38, qRd_81_38, qR_81_48, qRd_81_48, qR_81_49, qRd_81_49, qR_81_50, qRd_81_50, qR_81_52, qRd_81_52, qR_81_54, qRd_81_54, qR_81_55, qRd_81_55, qR_81_56, qRd_81_56, qR_81_57, qRd_81_57, qR_81_58, qRd_81_58, qA_88, qAd_88, qA_89, qAd_89, qA_90, qAd_90, qO_81, qL_88, qLd_88, qL_89, qLd_89, qL_90, qLd_90, n12, n13, h1, nI_pred, nI_1, up2_e, Nat.reduceEqDiff, false_and, and_false, if_false, cD, iD, r8 88 D (by omega), r8 89 D (by omega), r8 90 D (by omega), e_place hv, plc_o (show ¬ 81 = 84 by decide) (show ¬ 81 = 87 by decide)]
    have g0 : gOk ivG m0 := gOk_1415 (fun c i h _ => o0 c i h) hg
    have f0 : frm wNt mu la ro m0 la ro := by rw [hm0]; exact frm_up (k := 1) (.inr (by decide))
    have g1 := gOk_ChA (by omega) C g0
    have f1 : frm wS1 m0 la ro m1 la ro := frm_ChA1 (by omega) C
    have f2 : frm wCh m1 la ro M la ro := by rw [hM]; exact frm_t (frm_t (frm_up (.inr (by decide))) (frm_up (.inr (by decide)))) frm_plc
    have j1 : JB m1 la ro := JS_B wS1 (by decide +kernel) _ _ _ _ _ _ f1 (JS_B wNt (by decide) _ _ _ _ _ _ f0 hj)
    have Mo : ∀ c i, c < 81 ∨ 88 ≤ c → M c i = m1 c i := fun c i h => by rw [hM, plc_o (by omega) (by omega), up2_a (by omega), up2_a (by omega)]
    have M12 : M 81 12 = nI D := by rw [hM, plc_81 (.inl rfl), up2_k (by decide), up2_s]
    have M13 : M 81 13 = nI (U + 1) := by rw [hM, plc_81 (.inl rfl), up2_s]
    refine ⟨m1, M, nI D, E1, E2, by rw [hM]; exact gOk_plc (gOk_f (gOk_f g1 (top_ok _)) (top_ok _)), JB_ch j1 f2 ⟨D, U + 1, by omega, M12, M13, fun i hi => ?_⟩, ⟨n, D, U + 1, ⟨hn, by omega⟩, ?_, ?_, ?_, ud_core hn hS hk hst (fun c i h => Mo c i (by omega)) (fun c i h => ?_), ⟨?_, ?_, M12, M13⟩, fun i hi => ?_⟩, frm_t (frm_t (frm_s (by decide +kernel) f0) (frm_s (by decide +kernel) f1)) (frm_s (by decide +kernel) f2)⟩
    · rw [Mo _ _ (by omega), Mo _ _ (by omega), r8 88 i (by omega), r8 89 i (by omega)]
      obtain ⟨D', U', q1, q2, q3, q4⟩ := hj.2.1
      have hD' : D' = D + 1 := (nI_eq (by omega) (by omega)).mp (q2.symm.trans c3)
      have hU' : U' = U := (nI_eq (by omega) (by omega)).mp (q3.symm.trans c4)
      exact q4 i (by omega)
    · rw [Mo _ _ (by omega), C _ _ (by omega), o0 _ _ (by omega)]
      exact h0
    · rw [hM, plc_81 (.inl rfl), up2_k (by decide), up2_k (by decide), C _ _ (by omega), o0 _ _ (by omega)]
      exact h3
    · rw [hM, plc_81 (.inl rfl), up2_k (by decide), up2_k (by decide), C _ _ (by omega), o0 _ _ (by omega)]
      exact h9
    · rw [hM]
      exact plc_cg (by rw [up2_a (by omega), up2_a (by omega)])
    · rw [Mo _ _ (by omega)]
      exact m14
    · rw [Mo _ _ (by omega), C _ _ (by omega), hm0, up2_k (by decide), c2, show D + 1 + U = D + (U + 1) by omega]
    · exact ch_t (fun c j h => by rw [Mo c j (by omega), C c j (by omega), o0 c j (by omega)]) (hch i (by omega))
set_option maxHeartbeats 4000000 in
theorem redo_all (hg : gOk ivG mu) (hr : rOk ro) (hj : JB mu la ro) (q : RSC mu) : ∃ (mu1 mu2 : Mu) (x : Int32), Rr X (d + 3) MTo_redo 0 [.ref 0] [] (Wd mu la ro et) = some (some (.int x), Wd mu1 la ro et) ∧ Rr X (d + 3) MRm_redo 0 [.ref 81] [] (Wd mu1 la ro et) = some (some (.int x), Wd mu2 la ro et) ∧ gOk ivG mu2 ∧ JB mu2 la ro ∧ RSC mu2 ∧ frm wSe mu la ro mu2 la ro := by
  obtain ⟨n, D, U, ⟨hn, hDU⟩, h0, h3, h9, hs, ⟨c1, c2, c3, c4⟩, hch⟩ := id q
  cases U with
  | zero =>
    rw [Nat.add_zero] at c2
    refine ⟨mu, mu, -5, ?_, ?_, hg, hj, q, frm_r _ _ _ _⟩
    · simp only [r_MTo_redo_0, r_MTo_redo_1, r_MTo_redo_4, r_MTo_redo_7, r_MTo_redo_8, r_MTo_redo_11, r_MTo_redo_14, r_MTo_redo_17, r_MTo_redo_19, sL_0, sL_1, sL_2, mk_i, mk_r, mk_f, mk_n, mk_u, mk_l, List.set_cons_succ, List.set_cons_zero, Nat.reduceAdd, ckS_0, ckS_1, ckS_2, ckS_3, ckS_4, Option.bind_some, Option.isSome_some, psh, if_true, if_false, i10, not_true_eq_false, not_false_eq_true, Bool.false_eq_true, and_self, and_true, true_and, eq_self, qI_0_9, qI_0_10, qI_14_1, qI_14_2, qR_0_0, qRd_0_0, qR_0_1, qRd_0_1, qR_0_2, qRd_0_2, qR_0_3, qRd_0_3, qR_0_4, qRd_0_4, qR_0_5, qRd_0_5, qR_0_6, qRd_0_6, qR_0_7, qRd_0_7, qR_0_8, qRd_0_8, qR_14_0, qRd_14_0, qO_0, qO_14, c1, c2]
    · simp only [r_MRm_redo_0, r_MRm_redo_1, r_MRm_redo_4, r_MRm_redo_7, r_MRm_redo_9, r_MRm_redo_10, sL_0, sL_1, sL_2, mk_i, mk_r, mk_f, mk_n, mk_u, mk_l, List.set_cons_succ, List.set_cons_zero, Nat.reduceAdd, ckS_0, ckS_1, ckS_2, ckS_3, ckS_4, Option.bind_some, Option.isSome_some, psh, if_true, if_false, i10, not_true_eq_false, not_false_eq_true, Bool.false_eq_true, and_self, and_true, true_and, eq_self, qI_81_0, qI_81_2, qI_81_3, qI_81_9, qI_81_10, qI_81_11, qI_81_12, qI_81_13, qI_81_18, qI_81_19, qI_81_20, qI_81_21, qI_81_29, qI_81_30, qI_81_31, qI_81_32, qI_81_33, qI_81_34, qI_81_35, qI_81_39, qI_81_40, qI_81_41, qI_81_42, qI_81_43, qI_81_44, qI_81_45, qI_81_46, qI_81_47, qI_81_51, qI_81_53, qR_81_1, qRd_81_1, qR_81_4, qRd_81_4, qR_81_5, qRd_81_5, qR_81_6, qRd_81_6, qR_81_7, qRd_81_7, qR_81_8, qRd_81_8, qR_81_14, qRd_81_14, qR_81_15, qRd_81_15, qR_81_16, qRd_81_16, qR_81_17, qRd_81_17, qR_81_22, qRd_81_22, qR_81_23, qRd_81_23, qR_81_24, qRd_81_24, qR_81_25, qRd_81_25, qR_81_26, qRd_81_26, qR_81_27, qRd_81_27, qR_81_28, qRd_81_28, qR_81_36, qRd_81_36, qR_81_37, qRd_81_37, qR_81_38, qRd_81_38, qR_81_48, qRd_81_48, qR_81_49, qRd_81_49, qR_81_50, qRd_81_50, qR_81_52, qRd_81_52, qR_81_54, qRd_81_54, qR_81_55, qRd_81_55, qR_81_56, qRd_81_56, qR_81_57, qRd_81_57, qR_81_58, qRd_81_58, qO_81, c4, nI_0]
  | succ U =>
    obtain ⟨S, w, hS, p0, p1, p2, p3, hk, kb, ka⟩ := ChOk_kd (hch D (by omega))
    have h1 : ¬ nI D = nI (D + (U + 1)) := fun q => absurd ((nI_eq (by omega) (by omega)).mp q) (by omega)
    have h1' : ¬ nI (U + 1) = 0 := nI_ne0 (by omega) (by omega)
    have hv := Kd_v (by omega) hk
    -- the class
    obtain ⟨L, l1, l2, _⟩ := hs S hS
    obtain ⟨old, m0, e1, C, hst, _⟩ := kd_ch (X := X) (d := d) (la := la) (ro := ro) (et := et) (b := mu 91 D) hn hS hs hk ka l2 l1.2
    have eA := e_stoneAt (X := X) (d := d) (mu := mu) (la := la) (et := et) hr hn h0 hS
    have q0 := e_chP (X := X) (d := d + 1) (m := mu) (la := la) (ro := ro) (et := et) (p := 0) (D := D) (by decide) (by omega)
    have q1 := e_chP (X := X) (d := d + 1) (m := mu) (la := la) (ro := ro) (et := et) (p := 1) (D := D) (by decide) (by omega)
    have q2 := e_chP (X := X) (d := d + 1) (m := mu) (la := la) (ro := ro) (et := et) (p := 3) (D := D) (by decide) (by omega)
    rw [show 4 * D + 0 = 4 * D from rfl, p0] at q0
    rw [p1] at q1
    rw [p3] at q2
    simp only [show nI 0 = (0 : Int32) from rfl] at q0
    simp only [show nI 1 = (1 : Int32) from rfl] at q1
    simp only [show nI 3 = (3 : Int32) from rfl] at q2
    have d1 : m0 14 1 = nI D := (C 14 1 (by omega)).trans c1
    have d2 : m0 14 2 = nI (D + (U + 1)) := (C 14 2 (by omega)).trans c2
    obtain ⟨m1, hm1⟩ : ∃ m1, m1 = up2 m0 14 1 (nI (D + 1)) := ⟨_, rfl⟩
    have o1 : ∀ c i, ¬ c = 14 → m1 c i = m0 c i := fun c i h => by rw [hm1]; exact up2_a h
    have d3 : m1 14 1 = nI (D + 1) := by rw [hm1]; exact up2_s _ _ _ _
    have d4 : m1 14 2 = nI (D + (U + 1)) := by rw [hm1, up2_k (by decide)]; exact d2
    have eU : nI (D + (U + 1)) - nI (D + 1) = nI U := by
      have := pk_sub (a := D + (U + 1)) (b := D + 1) (by omega)
      rw [show D + (U + 1) - (D + 1) = U by omega] at this
      exact this
    have qa := snA_of (show S < 6 by omega)
    have E1 : Rr X (d + 3) MTo_redo 0 [.ref 0] [] (Wd mu la ro et) = some (some (.int (nI U)), Wd m1 la ro et) := by
      simp only [r_MTo_redo_0, r_MTo_redo_1, r_MTo_redo_4, r_MTo_redo_7, r_MTo_redo_8, r_MTo_redo_11, r_MTo_redo_14, r_MTo_redo_17, r_MTo_redo_19, r_MTo_redo_20, r_MTo_redo_21, r_MTo_redo_22, r_MTo_redo_25, r_MTo_redo_26, r_MTo_redo_29, r_MTo_redo_29i, r_MTo_redo_30, r_MTo_redo_33, r_MTo_redo_34, r_MTo_redo_35, r_MTo_redo_38, r_MTo_redo_39, r_MTo_redo_42, r_MTo_redo_45, r_MTo_redo_46, r_MTo_redo_49, r_MTo_redo_52, r_MTo_redo_53, r_MTo_changeTo_0, r_MTo_changeTo_1, r_MTo_changeTo_2, r_MTo_changeTo_5, r_MTo_changeTo_6, r_MTo_changeTo_9, r_MTo_changeTo_12, r_MTo_changeTo_13, r_MTo_changeTo_16, r_MTo_changeTo_19, r_MTo_changeTo_19n, r_MTo_changeTo_20, r_MTo_changeTo_20n, r_MTo_changeTo_21, r_MTo_changeTo_21n, r_MTo_changeTo_24, r_MTo_changeTo_24n, r_MTo_changeTo_25, r_MTo_changeTo_26, r_MTo_changeTo_29, r_MTo_changeTo_30, r_MTo_changeTo_33, r_MTo_changeTo_36, r_MTo_changeTo_37, r_MTo_changeTo_40, r_MTo_changeTo_41, r_MTo_changeTo_44, r_MTo_changeTo_45, r_MTo_changeTo_48, r_MTo_changeTo_51, r_MTo_changeTo_52, r_MTo_changeTo_55, r_MTo_changeTo_58, r_MTo_changeTo_59, sL_0, sL_1, sL_2, mk_i, mk_r, mk_f, mk_n, mk_u, mk_l, List.set_cons_succ, List.set_cons_zero, Nat.reduceAdd, ckS_0, ckS_1, ckS_2, ckS_3, ckS_4, Option.bind_some, Option.isSome_some, psh, if_true, if_false, i10, not_true_eq_false, not_false_eq_true, Bool.false_eq_true, and_self, and_true, true_and, eq_self, qI_0_9, qI_0_10, qI_14_1, qI_14_2, qR_0_0, qRd_0_0, qR_0_1, qRd_0_1, qR_0_2, qRd_0_2, qR_0_3, qRd_0_3, qR_0_4, qRd_0_4, qR_0_5, qRd_0_5, qR_0_6, qRd_0_6, qR_0_7, qRd_0_7, qR_0_8, qRd_0_8, qR_14_0, qRd_14_0, qO_0, qO_14, qa.1.1, c1, c2, h1, q0, eA, q1, q2, e1, d1, nI_1, ← hm1, d3, d4, eU]
    -- the model
    have n12 : m1 81 12 = nI D := (o1 _ _ (by omega)).trans ((C 81 12 (by omega)).trans c3)
    have n13 : m1 81 13 = nI (U + 1) := (o1 _ _ (by omega)).trans ((C 81 13 (by omega)).trans c4)
    have r8 : ∀ c i, 88 ≤ c → m1 c i = mu c i := fun c i h => (o1 _ _ (by omega)).trans (C c i (by omega))
    have cD : (nI D).toNatClampNeg = D := nI_clamp (by omega)
    have iD : ¬ (nI D < 0 ∨ 40 ≤ D) := by have := nI_in (c := D) (N := 40) (by omega) (by decide); rwa [cD] at this
    obtain ⟨M, hM⟩ : ∃ M, M = up2 (up2 (plc m1 (mu 88 D) (mu 89 D) (mu 91 D)) 81 12 (nI (D + 1))) 81 13 (nI U) := ⟨_, rfl⟩
    have E2 : Rr X (d + 3) MRm_redo 0 [.ref 81] [] (Wd m1 la ro et) = some (some (.int (nI U)), Wd M la ro et) := by
      rw [hM]
      simp only [r_MRm_redo_0, r_MRm_redo_1, r_MRm_redo_4, r_MRm_redo_7, r_MRm_redo_9, r_MRm_redo_10, r_MRm_redo_11, r_MRm_redo_12, r_MRm_redo_15, r_MRm_redo_16, r_MRm_redo_19, r_MRm_redo_20, r_MRm_redo_21, r_MRm_redo_24, r_MRm_redo_25, r_MRm_redo_28, r_MRm_redo_29, r_MRm_redo_30, r_MRm_redo_33, r_MRm_redo_34, r_MRm_redo_37, r_MRm_redo_38, r_MRm_redo_41, r_MRm_redo_42, r_MRm_redo_42i, r_MRm_redo_43, r_MRm_redo_46, r_MRm_redo_47, r_MRm_redo_48, r_MRm_redo_51, r_MRm_redo_52, r_MRm_redo_52i, r_MRm_redo_53, r_MRm_redo_56, r_MRm_redo_57, r_MRm_redo_58, r_MRm_redo_61, r_MRm_redo_62, r_MRm_redo_65, sL_0, sL_1, sL_2, mk_i, mk_r, mk_f, mk_n, mk_u, mk_l, List.set_cons_succ, List.set_cons_zero, Nat.reduceAdd, ckS_0, ckS_1, ckS_2, ckS_3, ckS_4, Option.bind_some, Option.isSome_some, psh, if_true, if_false, i10, not_true_eq_false, not_false_eq_true, Bool.false_eq_true, and_self, and_true, true_and, eq_self, qI_81_0, qI_81_2, qI_81_3, qI_81_9, qI_81_10, qI_81_11, qI_81_12, qI_81_13, qI_81_18, qI_81_19, qI_81_20, qI_81_21, qI_81_29, qI_81_30, qI_81_31, qI_81_32, qI_81_33, qI_81_34, qI_81_35, qI_81_39, qI_81_40, qI_81_41, qI_81_42, qI_81_43, qI_81_44, qI_81_45, qI_81_46, qI_81_47, qI_81_51, qI_81_53, qR_81_1, qRd_81_1, qR_81_4, qRd_81_4, qR_81_5, qRd_81_5, qR_81_6, qRd_81_6, qR_81_7, qRd_81_7, qR_81_8, qRd_81_8, qR_81_14, qRd_81_14, qR_81_15, qRd_81_15, qR_81_16, qRd_81_16, qR_81_17, qRd_81_17, qR_81_22, qRd_81_22, qR_81_23, qRd_81_23, qR_81_24, qRd_81_24, qR_81_25, qRd_81_25, qR_81_26, qRd_81_26, qR_81_27, qRd_81_27, qR_81_28, qRd_81_28, qR_81_36, qRd_81_36, qR_81_37, qRd_81_37, qR_81_38, qRd_81_38, qR_81_48, qRd_81_48, qR_81_49, qRd_81_49, qR_81_50, qRd_81_50, qR_81_52, qRd_81_52, qR_81_54, qRd_81_54, qR_81_55, qRd_81_55, qR_81_56, qRd_81_56, qR_81_57, qRd_81_57, qR_81_58, qRd_81_58, qA_88, qAd_88, qA_89, qAd_89, qA_91, qAd_91, qO_81, qL_88, qLd_88, qL_89, qLd_89, qL_91, qLd_91, n12, n13, h1', nI_pred, nI_1, up2_e, Nat.reduceEqDiff, false_and, and_false, if_false, cD, iD, r8 88 D (by omega), r8 89 D (by omega), r8 91 D (by omega), e_place hv, plc_o (show ¬ 81 = 84 by decide) (show ¬ 81 = 87 by decide)]
    have f0 : frm wS1 mu la ro m0 la ro := frm_ChA1 (by omega) C
    have g1 : gOk ivG m1 := gOk_1415 (fun c i h _ => o1 c i h) (gOk_ChA (by omega) C hg)
    have f1 : frm wNt m0 la ro m1 la ro := by rw [hm1]; exact frm_up (k := 1) (.inr (by decide))
    have f2 : frm wCh m1 la ro M la ro := by rw [hM]; exact frm_t (frm_t frm_plc (frm_up (.inr (by decide)))) (frm_up (.inr (by decide)))
    have j1 : JB m1 la ro := JS_B wNt (by decide) _ _ _ _ _ _ f1 (JS_B wS1 (by decide +kernel) _ _ _ _ _ _ f0 hj)
    have Mo : ∀ c i, c < 81 ∨ 88 ≤ c → M c i = m1 c i := fun c i h => by rw [hM, up2_a (by omega), up2_a (by omega), plc_o (by omega) (by omega)]
    have M12 : M 81 12 = nI (D + 1) := by rw [hM, up2_k (by decide), up2_s]
    have M13 : M 81 13 = nI U := by rw [hM, up2_s]
    have hst1 : ∀ S', S' < n → StOk (plc m1 (mu 88 D) (mu 89 D) (mu 91 D)) S' := fun S' hS' => st_t (fun c i h => plc_cg (o1 _ _ (by omega))) (by omega) (hst S' hS')
    refine ⟨m1, M, nI U, E1, E2, by rw [hM]; exact gOk_f (gOk_f (gOk_plc g1) (top_ok _)) (top_ok _), JB_ch j1 f2 ⟨D + 1, U, by omega, M12, M13, fun i hi => ?_⟩, ⟨n, D + 1, U, ⟨hn, by omega⟩, ?_, ?_, ?_, ud_core hn hS hk hst1 (fun c i h => Mo c i (by omega)) (fun c i h => ?_), ⟨?_, ?_, M12, M13⟩, fun i hi => ?_⟩, frm_t (frm_t (frm_s (by decide +kernel) f0) (frm_s (by decide +kernel) f1)) (frm_s (by decide +kernel) f2)⟩
    · rw [Mo _ _ (by omega), Mo _ _ (by omega), r8 88 i (by omega), r8 89 i (by omega)]
      obtain ⟨D', U', q1, q2, q3, q4⟩ := hj.2.1
      have hD' : D' = D := (nI_eq (by omega) (by omega)).mp (q2.symm.trans c3)
      have hU' : U' = U + 1 := (nI_eq (by omega) (by omega)).mp (q3.symm.trans c4)
      exact q4 i (by omega)
    · rw [Mo _ _ (by omega), o1 _ _ (by omega), C _ _ (by omega)]
      exact h0
    · rw [hM, up2_k (by decide), up2_k (by decide), plc_81 (.inl rfl), o1 _ _ (by omega), C _ _ (by omega)]
      exact h3
    · rw [hM, up2_k (by decide), up2_k (by decide), plc_81 (.inl rfl), o1 _ _ (by omega), C _ _ (by omega)]
      exact h9
    · rw [hM, up2_a (by omega), up2_a (by omega)]
    · rw [Mo _ _ (by omega)]
      exact d3
    · rw [Mo _ _ (by omega), d4, show D + 1 + U = D + (U + 1) by omega]
    · exact ch_t (fun c j h => by rw [Mo c j (by omega), o1 c j (by omega), C c j (by omega)]) (hch i (by omega))
-- a new stone
theorem lmsC_lo : ∀ (W : List Lp) (L : Nat) (m : Mu), ∀ r j, r < 3 → j < L → lmsC m a L W (a + (r + 1)) j = m (a + (r + 1)) j
  | [], _, _, _, _, _, _ => rfl
  | x :: W, L, m, r, j, hr, hj => by
    rw [lmsC, lmsC_lo W (L + 1) (lmC m a L x) r j hr (by omega)]
    unfold lmC lmC0
    rw [up2_a (by omega), up2_k (by omega), up2_k (by omega), up2_k (by omega)]
theorem lmC_v {x : Lp} : lmC m a L x (a + 1) L = x.1 ∧ lmC m a L x (a + 2) L = x.2.1 ∧ lmC m a L x (a + 3) L = x.2.2 := by
  unfold lmC lmC0
  refine ⟨?_, ?_, ?_⟩
  · rw [up2_a (by omega), up2_a (by omega), up2_a (by omega), up2_s]
  · rw [up2_a (by omega), up2_a (by omega), up2_s]
  · rw [up2_a (by omega), up2_s]
theorem lmsC_v : ∀ (W : List Lp) (L : Nat) (m : Mu) (j : Nat) (p : Lp), W[j]? = some p → lmsC m a L W (a + 1) (L + j) = p.1 ∧ lmsC m a L W (a + 2) (L + j) = p.2.1 ∧ lmsC m a L W (a + 3) (L + j) = p.2.2
  | [], _, _, _, _, h => by cases h
  | x :: W, L, m, 0, p, h => by
    have : x = p := by simpa using h
    subst this
    rw [lmsC, Nat.add_zero]
    obtain ⟨v1, v2, v3⟩ := lmC_v (m := m) (a := a) (L := L) (x := x)
    exact ⟨(lmsC_lo W (L + 1) _ 0 L (by omega) (by omega)).trans v1, (lmsC_lo W (L + 1) _ 1 L (by omega) (by omega)).trans v2, (lmsC_lo W (L + 1) _ 2 L (by omega) (by omega)).trans v3⟩
  | x :: W, L, m, j + 1, p, h => by
    have e := lmsC_v W (L + 1) (lmC m a L x) j p (by simpa using h)
    rw [lmsC, show L + (j + 1) = L + 1 + j by omega]
    exact e
theorem lmsM_lo : ∀ (W : List Lp) (L : Nat) (m : Mu), ∀ c j, (c < 83 ∨ 86 < c ∨ (84 ≤ c ∧ j < 12 * S + L) ∨ (c = 83 ∧ ¬ j = S)) → lmsM m S L W c j = m c j
  | [], _, _, _, _, _ => rfl
  | x :: W, L, m, c, j, h => by
    rw [lmsM, lmsM_lo W (L + 1) (lmM m S L x) c j (by omega)]
    unfold lmM
    simp only [up2_e]
    rw [if_neg (by omega), if_neg (by omega), if_neg (by omega), if_neg (by omega)]
theorem lmM_v {x : Lp} : lmM m S L x 84 (12 * S + L) = x.1 ∧ lmM m S L x 85 (12 * S + L) = x.2.1 ∧ lmM m S L x 86 (12 * S + L) = x.2.2 := by
  unfold lmM
  refine ⟨?_, ?_, ?_⟩
  · rw [up2_a (by omega), up2_a (by omega), up2_a (by omega), up2_s]
  · rw [up2_a (by omega), up2_a (by omega), up2_s]
  · rw [up2_a (by omega), up2_s]
theorem lmsM_v : ∀ (W : List Lp) (L : Nat) (m : Mu) (j : Nat) (p : Lp), W[j]? = some p → lmsM m S L W 84 (12 * S + (L + j)) = p.1 ∧ lmsM m S L W 85 (12 * S + (L + j)) = p.2.1 ∧ lmsM m S L W 86 (12 * S + (L + j)) = p.2.2
  | [], _, _, _, _, h => by cases h
  | x :: W, L, m, 0, p, h => by
    have : x = p := by simpa using h
    subst this
    rw [lmsM, Nat.add_zero]
    obtain ⟨v1, v2, v3⟩ := lmM_v (m := m) (S := S) (L := L) (x := x)
    exact ⟨(lmsM_lo W (L + 1) _ _ _ (by omega)).trans v1, (lmsM_lo W (L + 1) _ _ _ (by omega)).trans v2, (lmsM_lo W (L + 1) _ _ _ (by omega)).trans v3⟩
  | x :: W, L, m, j + 1, p, h => by
    have e := lmsM_v W (L + 1) (lmM m S L x) j p (by simpa using h)
    rw [lmsM, show L + (j + 1) = L + 1 + j by omega]
    exact e
/-- rows of a memory behind a stone's text, on the model's side -/
theorem snM_o {c i : Nat} (h : ¬ c = 81) (hS : S < 6) : snM m S c i = srM m S c i := by
  unfold snM
  rw [if_neg (by omega)]
  split
  · rw [up2_a h, up2_a h, qm_o h]
  · rw [up2_a h, qm_o h]
theorem srM_lo {c i : Nat} (h : (84 ≤ c ∧ c ≤ 86 ∧ i < 12 * S) ∨ (c = 83 ∧ ¬ i = S) ∨ (c = 87 ∧ i < 4 * S)) : srM m S c i = m c i := by
  unfold srM rtM4
  simp only [up2_e]
  rw [if_neg (by omega), if_neg (by omega), if_neg (by omega), if_neg (by omega), lmsM_lo _ _ _ _ _ (by omega), up2_e, if_neg (by omega)]
theorem rt4 {f : Nat → Int32} {r0 r1 r2 r3 : Int32} (h0 : f 0 = r0) (h1 : f 1 = r1) (h2 : f 2 = r2) (h3 : f 3 = r3) {g : Nat → Int32} (g0 : g 0 = r0) (g1 : g 1 = r1) (g2 : g 2 = r2) (g3 : g 3 = r3) : ∀ k, k < 4 → f k = g k
  | 0, _ => h0.trans g0.symm
  | 1, _ => h1.trans g1.symm
  | 2, _ => h2.trans g2.symm
  | 3, _ => h3.trans g3.symm
  | k + 4, h => absurd h (by omega)
theorem fg_nn : ∀ (r h : Nat) (v : Int32) (n : Nat), 0 ≤ v.toInt → v.toInt + 1 ≤ 10 ^ (7 - r) → r ≤ 4 → 0 ≤ (fgL mu r h v n).2.1.toInt
  | 0, _, _, _, h, _, _ => h
  | r + 1, h, v, n, h0, h1, hr => by
    rw [fgL]
    split
    · rename_i c
      unfold isD at c
      have c := of_decide_eq_true c
      have c1 := c.1
      have c2 := c.2
      rw [Int32.le_iff_toInt_le] at c1 c2
      have e48 : (48 : Int32).toInt = 48 := rfl
      have e57 : (57 : Int32).toInt = 57 := rfl
      have ht : v.toInt ≤ 1000000 := by
        have : r = 0 ∨ r = 1 ∨ r = 2 ∨ r = 3 := by omega
        rcases this with rfl | rfl | rfl | rfl <;> simp at h1 <;> omega
      have e : (10 * v + bt mu h - 48).toInt = 10 * v.toInt + (bt mu h).toInt - 48 := by
        have e1 : (10 * v).toInt = 10 * v.toInt := by
          rw [Int32.toInt_mul, show (10 : Int32).toInt = 10 from rfl, Int.bmod_eq_of_le (by omega) (by omega)]
        have e2 : (10 * v + bt mu h).toInt = 10 * v.toInt + (bt mu h).toInt := by
          rw [Int32.toInt_add, e1, Int.bmod_eq_of_le (by omega) (by omega)]
        rw [Int32.toInt_sub, e2, show (48 : Int32).toInt = 48 from rfl, Int.bmod_eq_of_le (by omega) (by omega)]
      refine fg_nn r _ _ _ (by omega) ?_ (by omega)
      rw [e]
      have : r = 0 ∨ r = 1 ∨ r = 2 ∨ r = 3 := by omega
      rcases this with rfl | rfl | rfl | rfl <;> simp at h1 ⊢ <;> omega
    · exact h0
theorem nm_b {c : Int32} {z : SS} (h : noS (nmS mu c z).2 = true) : noS z = true ∧ 0 ≤ (nmS mu c z).1.toInt ∧ (nmS mu c z).1.toInt ≤ c.toInt := by
  by_cases q : noS z = true
  · refine ⟨q, ?_⟩
    unfold nmS at h ⊢
    rw [if_pos q] at h ⊢
    by_cases q2 : (fgL mu 3 z.1 0 0).1 = z.1 ∨ ¬ (fgL mu 3 z.1 0 0).2.1 ≤ c
    · rw [if_pos q2] at h
      cases h
    · have q3 : (fgL mu 3 z.1 0 0).2.1 ≤ c := Classical.not_not.mp fun q4 => q2 (.inr q4)
      rw [Int32.le_iff_toInt_le] at q3
      exact ⟨fg_nn 3 _ _ _ (by decide) (by decide) (by omega), q3⟩
  · unfold nmS at h
    rw [if_neg q] at h
    exact absurd h q
theorem tk_b {c : Int32} {z : SS} (h : noS (tkS mu c z) = true) : noS z = true := by
  by_cases q : noS z = true
  · exact q
  · unfold tkS hrS at h
    rw [if_neg (fun q2 => q (by simp only [Bool.and_eq_true] at q2; exact q2.1)), flS_f q] at h
    exact h
theorem en_b {z : SS} (h : noS (enT mu z) = true) : noS z = true := by
  by_cases q : noS z = true
  · exact q
  · unfold enT at h
    rw [if_neg q] at h
    exact h
theorem st_rb (h : noS (stEnd mu) = true) : (0 ≤ (rtA mu (stZ mu)).1.toInt ∧ (rtA mu (stZ mu)).1.toInt ≤ 999) ∧ (0 ≤ (rtB mu (stZ mu)).1.toInt ∧ (rtB mu (stZ mu)).1.toInt ≤ 999) ∧ (0 ≤ (rtC mu (stZ mu)).1.toInt ∧ (rtC mu (stZ mu)).1.toInt ≤ 100) ∧ (0 ≤ (rtD mu (stZ mu)).1.toInt ∧ (rtD mu (stZ mu)).1.toInt ≤ 100) := by
  obtain ⟨d1, d2⟩ := nm_b (en_b h)
  obtain ⟨c1, c2⟩ := nm_b (tk_b d1)
  obtain ⟨b1, b2⟩ := nm_b (tk_b c1)
  obtain ⟨a1, a2⟩ := nm_b (tk_b b1)
  exact ⟨a2, b2, c2, d2⟩
theorem st_new (hz : noS (stEnd mu) = true) (hS : S < 6) (eW : stW m1 = stW mu) (eZ : stZ m1 = stZ mu) (eb : bt m1 = bt mu) (hc : ∀ c j, 19 + 5 * S ≤ c → c ≤ 19 + 5 * S + 4 → m1 c j = stC mu (19 + 5 * S) c j) (hM : ∀ c j, c < 81 → M c j = m1 c j) (hM2 : ∀ c j, 83 ≤ c → c ≤ 87 → M c j = srM m1 S c j) : StOk M S := by
  have hk : ∀ c j, 19 + 5 * S ≤ c → c ≤ 19 + 5 * S + 4 → M c j = stC mu (19 + 5 * S) c j := fun c j h1 h2 => (hM c j (by omega)).trans (hc c j h1 h2)
  have len := stW_len (m := mu)
  have pos := stW_pos (m := mu)
  have o1 : ∀ c i, ¬ c = 19 + 5 * S → ¬ c = 19 + 5 * S + 4 → stC mu (19 + 5 * S) c i = lmsC (up2 mu (19 + 5 * S) 4 0) (19 + 5 * S) 0 (stW mu) c i := fun c i h1 h2 => by
    unfold stC rtC4
    rw [wgK_row h1, up2_a h2, up2_a h2, up2_a h2, up2_a h2]
  have o2 : ∀ c i, 83 ≤ c → c ≤ 86 → srM m1 S c i = lmsM (up2 m1 83 S 0) S 0 (stW mu) c i := fun c i h1 h2 => by
    unfold srM rtM4
    rw [up2_a (by omega), up2_a (by omega), up2_a (by omega), up2_a (by omega), eW]
  refine ⟨(stW mu).length, ⟨pos, len⟩, ?_, ?_, fun j hj => ?_, ?_, ?_⟩
  · have e := lmsC_4 (a := 19 + 5 * S) (stW mu) 0 (up2 mu (19 + 5 * S) 4 0) (up2_s _ _ _ _)
    rw [Nat.zero_add] at e
    rw [hk _ _ (by omega) (by omega)]
    unfold stC
    rw [wgK_v.2.2.2.2.2.2]
    unfold rtC4
    rw [up2_a (by omega), up2_a (by omega), up2_a (by omega), up2_a (by omega)]
    exact e
  · obtain ⟨_, _, _, q4⟩ := lmsM_o (S := S) (stW mu) 0 (up2 m1 83 S 0)
    have e := q4 (up2_s _ _ _ _)
    rw [Nat.zero_add] at e
    rw [hM2 _ _ (by omega) (by omega), o2 _ _ (by omega) (by omega)]
    exact e
  · obtain ⟨p, hp⟩ : ∃ p, (stW mu)[j]? = some p := ⟨_, List.getElem?_eq_getElem hj⟩
    obtain ⟨a1, a2, a3⟩ := lmsC_v (a := 19 + 5 * S) (stW mu) 0 (up2 mu (19 + 5 * S) 4 0) j p hp
    obtain ⟨b1, b2, b3⟩ := lmsM_v (S := S) (stW mu) 0 (up2 m1 83 S 0) j p hp
    rw [Nat.zero_add] at a1 a2 a3 b1 b2 b3
    exact ⟨((hk _ _ (by omega) (by omega)).trans ((o1 _ _ (by omega) (by omega)).trans a1)).trans ((hM2 _ _ (by omega) (by omega)).trans ((o2 _ _ (by omega) (by omega)).trans b1)).symm, ((hk _ _ (by omega) (by omega)).trans ((o1 _ _ (by omega) (by omega)).trans a2)).trans ((hM2 _ _ (by omega) (by omega)).trans ((o2 _ _ (by omega) (by omega)).trans b2)).symm, ((hk _ _ (by omega) (by omega)).trans ((o1 _ _ (by omega) (by omega)).trans a3)).trans ((hM2 _ _ (by omega) (by omega)).trans ((o2 _ _ (by omega) (by omega)).trans b3)).symm⟩
  · have w4 : ∀ i, M (19 + 5 * S + 4) i = rtC4 (lmsC (up2 mu (19 + 5 * S) 4 0) (19 + 5 * S) 0 (stW mu)) (19 + 5 * S) (rtA mu (stZ mu)).1 (rtB mu (stZ mu)).1 (rtC mu (stZ mu)).1 (rtD mu (stZ mu)).1 (19 + 5 * S + 4) i := fun i => by
      rw [hk _ _ (by omega) (by omega)]
      unfold stC
      rw [wgK_row (by omega)]
    have w7 : ∀ i, M 87 i = rtM4 (lmsM (up2 m1 83 S 0) S 0 (stW mu)) S (rtA mu (stZ mu)).1 (rtB mu (stZ mu)).1 (rtC mu (stZ mu)).1 (rtD mu (stZ mu)).1 87 i := fun i => by
      rw [hM2 _ _ (by omega) (by omega)]
      unfold srM
      rw [eW, eZ, rtA_c eb, rtB_c eb, rtC_c eb, rtD_c eb]
    have G0 : M 87 (4 * S) = (rtA mu (stZ mu)).1 := by
      rw [w7]
      unfold rtM4
      rw [up2_k (by omega), up2_k (by omega), up2_k (by omega), up2_s]
    have G1 : M 87 (4 * S + 1) = (rtB mu (stZ mu)).1 := by
      rw [w7]
      unfold rtM4
      rw [up2_k (by omega), up2_k (by omega), up2_s]
    have G2 : M 87 (4 * S + 2) = (rtC mu (stZ mu)).1 := by
      rw [w7]
      unfold rtM4
      rw [up2_k (by omega), up2_s]
    have G3 : M 87 (4 * S + 3) = (rtD mu (stZ mu)).1 := by
      rw [w7]
      unfold rtM4
      rw [up2_s]
    obtain ⟨ba, bb, bc, bd⟩ := st_rb hz
    refine fun k hk => ⟨rt4 (f := fun k => M (19 + 5 * S + 4) k) (g := fun k => M 87 (4 * S + k)) (r0 := (rtA mu (stZ mu)).1) (r1 := (rtB mu (stZ mu)).1) (r2 := (rtC mu (stZ mu)).1) (r3 := (rtD mu (stZ mu)).1) ?_ ?_ ?_ ?_ G0 G1 G2 G3 k hk, ?_⟩
    · show M _ _ = _
      rw [w4]
      unfold rtC4
      rw [up2_k (by decide), up2_k (by decide), up2_k (by decide), up2_s]
    · show M _ _ = _
      rw [w4]
      unfold rtC4
      rw [up2_k (by decide), up2_k (by decide), up2_s]
    · show M _ _ = _
      rw [w4]
      unfold rtC4
      rw [up2_k (by decide), up2_s]
    · show M _ _ = _
      rw [w4]
      unfold rtC4
      rw [up2_s]
    · unfold rtI
      rw [show (4 * S + k) % 4 = k by omega]
      have : k = 0 ∨ k = 1 ∨ k = 2 ∨ k = 3 := by omega
      rcases this with rfl | rfl | rfl | rfl
      · rw [show 4 * S + 0 = 4 * S from rfl, G0]
        exact ba
      · rw [G1]
        exact bb
      · rw [G2]
        exact bc
      · rw [G3]
        exact bd
  · obtain ⟨B, hB⟩ : ∃ B, stC mu (19 + 5 * S) = wgK B (19 + 5 * S) (stW mu).length := ⟨_, rfl⟩
    have ok := wgK_ok (m := B) (a := 19 + 5 * S) (L := (stW mu).length)
    rw [← hB] at ok
    have k0 : ∀ j, M (19 + 5 * S) j = stC mu (19 + 5 * S) (19 + 5 * S) j := fun j => hk _ _ (by omega) (by omega)
    have k1 : ∀ j, M (19 + 5 * S + 1) j = stC mu (19 + 5 * S) (19 + 5 * S + 1) j := fun j => hk _ _ (by omega) (by omega)
    have k2 : ∀ j, M (19 + 5 * S + 2) j = stC mu (19 + 5 * S) (19 + 5 * S + 2) j := fun j => hk _ _ (by omega) (by omega)
    have k3 : ∀ j, M (19 + 5 * S + 3) j = stC mu (19 + 5 * S) (19 + 5 * S + 3) j := fun j => hk _ _ (by omega) (by omega)
    unfold sumsOk at ok ⊢
    simp only [k0, k1, k2, k3]
    exact ok
end
