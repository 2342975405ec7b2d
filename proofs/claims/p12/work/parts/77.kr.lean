-- ===== in thought: the model's goings, gone through
noncomputable def lbM (m : Mu) (s t : Int32) : Mu := if sgF s = 0 then m else up2 (if sgF s = -m 81 43 then up2 (if m 81 44 = 0 then up2 m 81 45 t else m) 81 44 (m 81 44 + 1) else m) 81 43 (sgF s)
/-- what the model knows of turning back, after tick i -/
def LbM (m : Mu) (g : Nat → Int32) (i : Nat) : Prop := m 81 43 = sdF g i ∧ m 81 44 = nI (bkN g i) ∧ (¬ fbN g i = 0 → m 81 45 = nI (fbN g i))
section
variable {X : Tok} {d : Nat} {mu m m' mu' : Mu} {la la' : La} {ro ro' : Ro} {et : Nat → Option va_E} {N n S r i j a c nt : Nat} {k x y z s pc ca cb cc cd w t fl : Int32} {T T2 G g : Nat → Int32} {f : Option Nat} {LS : Nat → List Ln} {P : Nat → Nat → Int32}
theorem lb_e (hb : bkN g (i + 1) = bkN g i) : fbN g (i + 1) = fbN g i := by
  rw [fbN]
  by_cases c : fbN g i = 0
  · rw [if_pos c, hb, if_pos ((fb_bk g i).1.mp c), c]
  · rw [if_neg c]
theorem lb_s (hi : i < 400) (h : LbM m g i) : LbM (lbM m (g (i + 1)) (nI (i + 1))) g (i + 1) := by
  obtain ⟨h1, h2, h3⟩ := h
  have hle := bk_le g i
  have hfb := (fb_bk g i).1
  unfold lbM
  by_cases c0 : sgF (g (i + 1)) = 0
  · rw [if_pos c0]
    have b : bkN g (i + 1) = bkN g i := by rw [bkN, if_neg (fun q => q.1 c0)]
    have s : sdF g (i + 1) = sdF g i := by rw [sdF, if_pos c0]
    refine ⟨h1.trans s.symm, by rw [b]; exact h2, fun q => ?_⟩
    rw [lb_e b] at q ⊢
    exact h3 q
  · rw [if_neg c0]
    have s : sdF g (i + 1) = sgF (g (i + 1)) := by rw [sdF, if_neg c0]
    by_cases c1 : sgF (g (i + 1)) = -sdF g i
    · have b : bkN g (i + 1) = bkN g i + 1 := by rw [bkN, if_pos ⟨c0, c1⟩]
      have c1' : sgF (g (i + 1)) = -m 81 43 := by rw [h1]; exact c1
      rw [if_pos c1']
      refine ⟨by rw [up2_s]; exact s.symm, ?_, fun q => ?_⟩
      · rw [up2_k (by decide), up2_s, b, h2, nI_1]
      · rw [up2_k (by decide), up2_k (by decide)]
        by_cases c2 : bkN g i = 0
        · have c3 : m 81 44 = 0 := by rw [h2, c2]; rfl
          have c4 : ¬ bkN g (i + 1) = 0 := by omega
          rw [if_pos c3, up2_s, fbN, if_pos (hfb.mpr c2), if_neg c4]
        · have c3 : ¬ fbN g i = 0 := fun z => c2 (hfb.mp z)
          have c4 : ¬ m 81 44 = 0 := by
            rw [h2]
            exact fun z => c2 ((nI_eq (b := 0) (by omega) (by omega)).mp z)
          rw [if_neg c4, fbN, if_neg c3]
          exact h3 c3
    · have b : bkN g (i + 1) = bkN g i := by rw [bkN, if_neg (fun q => c1 q.2)]
      have c1' : ¬ sgF (g (i + 1)) = -m 81 43 := by rw [h1]; exact c1
      rw [if_neg c1']
      refine ⟨by rw [up2_s]; exact s.symm, ?_, fun q => ?_⟩
      · rw [up2_k (by decide), b]
        exact h2
      · rw [up2_k (by decide)]
        rw [lb_e b] at q ⊢
        exact h3 q
theorem lb_0 (h1 : m 81 43 = 0) (h2 : m 81 44 = 0) : LbM (lbM m (g 0) t) g 0 := by
  unfold lbM
  by_cases c0 : sgF (g 0) = 0
  · rw [if_pos c0]
    exact ⟨h1.trans c0.symm, h2, fun q => absurd rfl q⟩
  · rw [if_neg c0]
    have c1 : ¬ sgF (g 0) = -m 81 43 := by
      rw [h1]
      exact c0
    rw [if_neg c1]
    exact ⟨up2_s _ _ _ _, by rw [up2_k (by decide)]; exact h2, fun q => absurd rfl q⟩
theorem lb_o (h : ¬ c = 81 ∨ j < 43 ∨ 45 < j) : lbM m s t c j = m c j := by
  unfold lbM
  split
  · rfl
  · rw [up2_e, if_neg (by omega)]
    split
    · rw [up2_e, if_neg (by omega)]
      split
      · rw [up2_e, if_neg (by omega)]
      · rfl
    · rfl
set_option maxHeartbeats 1000000 in
theorem e_lookB (hG : G 30 = s) : Rr X d MRm_lookBack 0 [.ref 81, .int t, mkU] [] (Wd (moG m G) la ro et) = some (none, Wd (moG (lbM m s t) G) la ro et) := by
  have v30 : moG m G 81 30 = s := (mg_v (by omega) (by omega)).trans hG
  have v43 : ∀ M : Mu, moG M G 81 43 = M 81 43 := fun M => mg_k (by omega)
  have v44 : ∀ M : Mu, moG M G 81 44 = M 81 44 := fun M => mg_k (by omega)
  have u43 : ∀ (M : Mu) x, up2 (moG M G) 81 43 x = moG (up2 M 81 43 x) G := fun M x => mg_uo (by omega)
  have u44 : ∀ (M : Mu) x, up2 (moG M G) 81 44 x = moG (up2 M 81 44 x) G := fun M x => mg_uo (by omega)
  have u45 : ∀ (M : Mu) x, up2 (moG M G) 81 45 x = moG (up2 M 81 45 x) G := fun M x => mg_uo (by omega)
  have k44 : ∀ (M : Mu) x, up2 M 81 45 x 81 44 = M 81 44 := fun M x => up2_k (by decide)
  unfold lbM
  by_cases c0 : s = 0
  · have e0 : sgF s = 0 := by rw [sg_0]; exact c0
    rw [if_pos e0]
    simp only [r_MRm_lookBack_0, r_MRm_lookBack_1, r_MRm_lookBack_4, r_MRm_lookBack_7, r_MRm_lookBack_8, r_MRm_lookBack_9, r_MRm_lookBack_12, r_MRm_lookBack_15, r_MRm_lookBack_16, r_MRm_lookBack_19, r_MRm_lookBack_20, r_MRm_lookBack_21, r_MRm_lookBack_22, r_MRm_lookBack_23, r_MRm_lookBack_26, r_MRm_lookBack_27, r_MRm_lookBack_30, r_MRm_lookBack_31, r_MRm_lookBack_34, r_MRm_lookBack_37, r_MRm_lookBack_38, r_MRm_lookBack_39, r_MRm_lookBack_42, r_MRm_lookBack_43, r_MRm_lookBack_43i, r_MRm_lookBack_44, r_MRm_lookBack_47, r_MRm_lookBack_48, r_MRm_lookBack_49, r_MRm_lookBack_52, r_MRm_lookBack_53, r_MRm_lookBack_54, r_MRm_lookBack_57, sL_0, sL_1, sL_2, mk_i, mk_r, mk_f, mk_n, mk_u, mk_l, List.set_cons_succ, List.set_cons_zero, Nat.reduceAdd, ckS_0, ckS_1, ckS_2, ckS_3, ckS_4, Option.bind_some, Option.isSome_some, psh, if_true, if_false, i10, not_true_eq_false, not_false_eq_true, Bool.false_eq_true, and_self, and_true, true_and, eq_self, qI_81_0, qI_81_2, qI_81_3, qI_81_9, qI_81_10, qI_81_11, qI_81_12, qI_81_13, qI_81_18, qI_81_19, qI_81_20, qI_81_21, qI_81_29, qI_81_30, qI_81_31, qI_81_32, qI_81_33, qI_81_34, qI_81_35, qI_81_39, qI_81_40, qI_81_41, qI_81_42, qI_81_43, qI_81_44, qI_81_45, qI_81_46, qI_81_47, qI_81_51, qI_81_53, qR_81_1, qRd_81_1, qR_81_4, qRd_81_4, qR_81_5, qRd_81_5, qR_81_6, qRd_81_6, qR_81_7, qRd_81_7, qR_81_8, qRd_81_8, qR_81_14, qRd_81_14, qR_81_15, qRd_81_15, qR_81_16, qRd_81_16, qR_81_17, qRd_81_17, qR_81_22, qRd_81_22, qR_81_23, qRd_81_23, qR_81_24, qRd_81_24, qR_81_25, qRd_81_25, qR_81_26, qRd_81_26, qR_81_27, qRd_81_27, qR_81_28, qRd_81_28, qR_81_36, qRd_81_36, qR_81_37, qRd_81_37, qR_81_38, qRd_81_38, qR_81_48, qRd_81_48, qR_81_49, qRd_81_49, qR_81_50, qRd_81_50, qR_81_52, qRd_81_52, qR_81_54, qRd_81_54, qR_81_55, qRd_81_55, qR_81_56, qRd_81_56, qR_81_57, qRd_81_57, qR_81_58, qRd_81_58, qO_81, v30, c0]
  · have n0 : ¬ sgF s = 0 := by rw [sg_0]; exact c0
    rw [if_neg n0]
    by_cases cp : 0 < s
    · have cp' : ¬ s ≤ 0 := Int32.not_le.mpr cp
      have es : sgF s = 1 := by unfold sgF; rw [if_pos cp]
      rw [es]
      by_cases c1 : (1 : Int32) = -m 81 43
      · have c1' := eq_true c1
        rw [if_pos c1]
        by_cases c2 : m 81 44 = 0
        · have c2' := eq_true c2
          rw [if_pos c2]
          simp only [r_MRm_lookBack_0, r_MRm_lookBack_1, r_MRm_lookBack_4, r_MRm_lookBack_7, r_MRm_lookBack_8, r_MRm_lookBack_9, r_MRm_lookBack_12, r_MRm_lookBack_15, r_MRm_lookBack_16, r_MRm_lookBack_19, r_MRm_lookBack_20, r_MRm_lookBack_21, r_MRm_lookBack_22, r_MRm_lookBack_23, r_MRm_lookBack_26, r_MRm_lookBack_27, r_MRm_lookBack_30, r_MRm_lookBack_31, r_MRm_lookBack_34, r_MRm_lookBack_37, r_MRm_lookBack_38, r_MRm_lookBack_39, r_MRm_lookBack_42, r_MRm_lookBack_43, r_MRm_lookBack_43i, r_MRm_lookBack_44, r_MRm_lookBack_47, r_MRm_lookBack_48, r_MRm_lookBack_49, r_MRm_lookBack_52, r_MRm_lookBack_53, r_MRm_lookBack_54, r_MRm_lookBack_57, sL_0, sL_1, sL_2, mk_i, mk_r, mk_f, mk_n, mk_u, mk_l, List.set_cons_succ, List.set_cons_zero, Nat.reduceAdd, ckS_0, ckS_1, ckS_2, ckS_3, ckS_4, Option.bind_some, Option.isSome_some, psh, if_true, if_false, i10, not_true_eq_false, not_false_eq_true, Bool.false_eq_true, and_self, and_true, true_and, eq_self, qI_81_0, qI_81_2, qI_81_3, qI_81_9, qI_81_10, qI_81_11, qI_81_12, qI_81_13, qI_81_18, qI_81_19, qI_81_20, qI_81_21, qI_81_29, qI_81_30, qI_81_31, qI_81_32, qI_81_33, qI_81_34, qI_81_35, qI_81_39, qI_81_40, qI_81_41, qI_81_42, qI_81_43, qI_81_44, qI_81_45, qI_81_46, qI_81_47, qI_81_51, qI_81_53, qR_81_1, qRd_81_1, qR_81_4, qRd_81_4, qR_81_5, qRd_81_5, qR_81_6, qRd_81_6, qR_81_7, qRd_81_7, qR_81_8, qRd_81_8, qR_81_14, qRd_81_14, qR_81_15, qRd_81_15, qR_81_16, qRd_81_16, qR_81_17, qRd_81_17, qR_81_22, qRd_81_22, qR_81_23, qRd_81_23, qR_81_24, qRd_81_24, qR_81_25, qRd_81_25, qR_81_26, qRd_81_26, qR_81_27, qRd_81_27, qR_81_28, qRd_81_28, qR_81_36, qRd_81_36, qR_81_37, qRd_81_37, qR_81_38, qRd_81_38, qR_81_48, qRd_81_48, qR_81_49, qRd_81_49, qR_81_50, qRd_81_50, qR_81_52, qRd_81_52, qR_81_54, qRd_81_54, qR_81_55, qRd_81_55, qR_81_56, qRd_81_56, qR_81_57, qRd_81_57, qR_81_58, qRd_81_58, qO_81, v30, c0, cp', v43, v44, u43, u44, u45, k44, c1', c2']
        · rw [if_neg c2]
          simp only [r_MRm_lookBack_0, r_MRm_lookBack_1, r_MRm_lookBack_4, r_MRm_lookBack_7, r_MRm_lookBack_8, r_MRm_lookBack_9, r_MRm_lookBack_12, r_MRm_lookBack_15, r_MRm_lookBack_16, r_MRm_lookBack_19, r_MRm_lookBack_20, r_MRm_lookBack_21, r_MRm_lookBack_22, r_MRm_lookBack_23, r_MRm_lookBack_26, r_MRm_lookBack_27, r_MRm_lookBack_30, r_MRm_lookBack_31, r_MRm_lookBack_34, r_MRm_lookBack_37, r_MRm_lookBack_38, r_MRm_lookBack_39, r_MRm_lookBack_42, r_MRm_lookBack_43, r_MRm_lookBack_43i, r_MRm_lookBack_44, r_MRm_lookBack_47, r_MRm_lookBack_48, r_MRm_lookBack_49, r_MRm_lookBack_52, r_MRm_lookBack_53, r_MRm_lookBack_54, r_MRm_lookBack_57, sL_0, sL_1, sL_2, mk_i, mk_r, mk_f, mk_n, mk_u, mk_l, List.set_cons_succ, List.set_cons_zero, Nat.reduceAdd, ckS_0, ckS_1, ckS_2, ckS_3, ckS_4, Option.bind_some, Option.isSome_some, psh, if_true, if_false, i10, not_true_eq_false, not_false_eq_true, Bool.false_eq_true, and_self, and_true, true_and, eq_self, qI_81_0, qI_81_2, qI_81_3, qI_81_9, qI_81_10, qI_81_11, qI_81_12, qI_81_13, qI_81_18, qI_81_19, qI_81_20, qI_81_21, qI_81_29, qI_81_30, qI_81_31, qI_81_32, qI_81_33, qI_81_34, qI_81_35, qI_81_39, qI_81_40, qI_81_41, qI_81_42, qI_81_43, qI_81_44, qI_81_45, qI_81_46, qI_81_47, qI_81_51, qI_81_53, qR_81_1, qRd_81_1, qR_81_4, qRd_81_4, qR_81_5, qRd_81_5, qR_81_6, qRd_81_6, qR_81_7, qRd_81_7, qR_81_8, qRd_81_8, qR_81_14, qRd_81_14, qR_81_15, qRd_81_15, qR_81_16, qRd_81_16, qR_81_17, qRd_81_17, qR_81_22, qRd_81_22, qR_81_23, qRd_81_23, qR_81_24, qRd_81_24, qR_81_25, qRd_81_25, qR_81_26, qRd_81_26, qR_81_27, qRd_81_27, qR_81_28, qRd_81_28, qR_81_36, qRd_81_36, qR_81_37, qRd_81_37, qR_81_38, qRd_81_38, qR_81_48, qRd_81_48, qR_81_49, qRd_81_49, qR_81_50, qRd_81_50, qR_81_52, qRd_81_52, qR_81_54, qRd_81_54, qR_81_55, qRd_81_55, qR_81_56, qRd_81_56, qR_81_57, qRd_81_57, qR_81_58, qRd_81_58, qO_81, v30, c0, cp', v43, v44, u43, u44, u45, k44, c1', c2]
      · rw [if_neg c1]
        simp only [r_MRm_lookBack_0, r_MRm_lookBack_1, r_MRm_lookBack_4, r_MRm_lookBack_7, r_MRm_lookBack_8, r_MRm_lookBack_9, r_MRm_lookBack_12, r_MRm_lookBack_15, r_MRm_lookBack_16, r_MRm_lookBack_19, r_MRm_lookBack_20, r_MRm_lookBack_21, r_MRm_lookBack_22, r_MRm_lookBack_23, r_MRm_lookBack_26, r_MRm_lookBack_27, r_MRm_lookBack_30, r_MRm_lookBack_31, r_MRm_lookBack_34, r_MRm_lookBack_37, r_MRm_lookBack_38, r_MRm_lookBack_39, r_MRm_lookBack_42, r_MRm_lookBack_43, r_MRm_lookBack_43i, r_MRm_lookBack_44, r_MRm_lookBack_47, r_MRm_lookBack_48, r_MRm_lookBack_49, r_MRm_lookBack_52, r_MRm_lookBack_53, r_MRm_lookBack_54, r_MRm_lookBack_57, sL_0, sL_1, sL_2, mk_i, mk_r, mk_f, mk_n, mk_u, mk_l, List.set_cons_succ, List.set_cons_zero, Nat.reduceAdd, ckS_0, ckS_1, ckS_2, ckS_3, ckS_4, Option.bind_some, Option.isSome_some, psh, if_true, if_false, i10, not_true_eq_false, not_false_eq_true, Bool.false_eq_true, and_self, and_true, true_and, eq_self, qI_81_0, qI_81_2, qI_81_3, qI_81_9, qI_81_10, qI_81_11, qI_81_12, qI_81_13, qI_81_18, qI_81_19, qI_81_20, qI_81_21, qI_81_29, qI_81_30, qI_81_31, qI_81_32, qI_81_33, qI_81_34, qI_81_35, qI_81_39, qI_81_40, qI_81_41, qI_81_42, qI_81_43, qI_81_44, qI_81_45, qI_81_46, qI_81_47, qI_81_51, qI_81_53, qR_81_1, qRd_81_1, qR_81_4, qRd_81_4, qR_81_5, qRd_81_5, qR_81_6, qRd_81_6, qR_81_7, qRd_81_7, qR_81_8, qRd_81_8, qR_81_14, qRd_81_14, qR_81_15, qRd_81_15, qR_81_16, qRd_81_16, qR_81_17, qRd_81_17, qR_81_22, qRd_81_22, qR_81_23, qRd_81_23, qR_81_24, qRd_81_24, qR_81_25, qRd_81_25, qR_81_26, qRd_81_26, qR_81_27, qRd_81_27, qR_81_28, qRd_81_28, qR_81_36, qRd_81_36, qR_81_37, qRd_81_37, qR_81_38, qRd_81_38, qR_81_48, qRd_81_48, qR_81_49, qRd_81_49, qR_81_50, qRd_81_50, qR_81_52, qRd_81_52, qR_81_54, qRd_81_54, qR_81_55, qRd_81_55, qR_81_56, qRd_81_56, qR_81_57, qRd_81_57, qR_81_58, qRd_81_58, qO_81, v30, c0, cp', v43, v44, u43, u44, u45, c1]
    · have cp' : s ≤ 0 := Int32.not_lt.mp cp
      have cn : s < 0 := by
        have e0 : (0 : Int32).toInt = 0 := rfl
        rw [Int32.lt_iff_toInt_lt, e0] at cp ⊢
        have : ¬ s.toInt = 0 := fun q => c0 (Int32.toInt_inj.mp (by rw [e0]; exact q))
        omega
      have es : sgF s = -1 := by unfold sgF; rw [if_neg cp, if_pos cn]
      rw [es]
      by_cases c1 : (-1 : Int32) = -m 81 43
      · have c1' := eq_true c1
        rw [if_pos c1]
        by_cases c2 : m 81 44 = 0
        · have c2' := eq_true c2
          rw [if_pos c2]
          simp only [r_MRm_lookBack_0, r_MRm_lookBack_1, r_MRm_lookBack_4, r_MRm_lookBack_7, r_MRm_lookBack_8, r_MRm_lookBack_9, r_MRm_lookBack_12, r_MRm_lookBack_15, r_MRm_lookBack_16, r_MRm_lookBack_19, r_MRm_lookBack_20, r_MRm_lookBack_21, r_MRm_lookBack_22, r_MRm_lookBack_23, r_MRm_lookBack_26, r_MRm_lookBack_27, r_MRm_lookBack_30, r_MRm_lookBack_31, r_MRm_lookBack_34, r_MRm_lookBack_37, r_MRm_lookBack_38, r_MRm_lookBack_39, r_MRm_lookBack_42, r_MRm_lookBack_43, r_MRm_lookBack_43i, r_MRm_lookBack_44, r_MRm_lookBack_47, r_MRm_lookBack_48, r_MRm_lookBack_49, r_MRm_lookBack_52, r_MRm_lookBack_53, r_MRm_lookBack_54, r_MRm_lookBack_57, sL_0, sL_1, sL_2, mk_i, mk_r, mk_f, mk_n, mk_u, mk_l, List.set_cons_succ, List.set_cons_zero, Nat.reduceAdd, ckS_0, ckS_1, ckS_2, ckS_3, ckS_4, Option.bind_some, Option.isSome_some, psh, if_true, if_false, i10, not_true_eq_false, not_false_eq_true, Bool.false_eq_true, and_self, and_true, true_and, eq_self, qI_81_0, qI_81_2, qI_81_3, qI_81_9, qI_81_10, qI_81_11, qI_81_12, qI_81_13, qI_81_18, qI_81_19, qI_81_20, qI_81_21, qI_81_29, qI_81_30, qI_81_31, qI_81_32, qI_81_33, qI_81_34, qI_81_35, qI_81_39, qI_81_40, qI_81_41, qI_81_42, qI_81_43, qI_81_44, qI_81_45, qI_81_46, qI_81_47, qI_81_51, qI_81_53, qR_81_1, qRd_81_1, qR_81_4, qRd_81_4, qR_81_5, qRd_81_5, qR_81_6, qRd_81_6, qR_81_7, qRd_81_7, qR_81_8, qRd_81_8, qR_81_14, qRd_81_14, qR_81_15, qRd_81_15, qR_81_16, qRd_81_16, qR_81_17, qRd_81_17, qR_81_22, qRd_81_22, qR_81_23, qRd_81_23, qR_81_24, qRd_81_24, qR_81_25, qRd_81_25, qR_81_26, qRd_81_26, qR_81_27, qRd_81_27, qR_81_28, qRd_81_28, qR_81_36, qRd_81_36, qR_81_37, qRd_81_37, qR_81_38, qRd_81_38, qR_81_48, qRd_81_48, qR_81_49, qRd_81_49, qR_81_50, qRd_81_50, qR_81_52, qRd_81_52, qR_81_54, qRd_81_54, qR_81_55, qRd_81_55, qR_81_56, qRd_81_56, qR_81_57, qRd_81_57, qR_81_58, qRd_81_58, qO_81, v30, c0, cp', v43, v44, u43, u44, u45, k44, c1', c2']
        · rw [if_neg c2]
          simp only [r_MRm_lookBack_0, r_MRm_lookBack_1, r_MRm_lookBack_4, r_MRm_lookBack_7, r_MRm_lookBack_8, r_MRm_lookBack_9, r_MRm_lookBack_12, r_MRm_lookBack_15, r_MRm_lookBack_16, r_MRm_lookBack_19, r_MRm_lookBack_20, r_MRm_lookBack_21, r_MRm_lookBack_22, r_MRm_lookBack_23, r_MRm_lookBack_26, r_MRm_lookBack_27, r_MRm_lookBack_30, r_MRm_lookBack_31, r_MRm_lookBack_34, r_MRm_lookBack_37, r_MRm_lookBack_38, r_MRm_lookBack_39, r_MRm_lookBack_42, r_MRm_lookBack_43, r_MRm_lookBack_43i, r_MRm_lookBack_44, r_MRm_lookBack_47, r_MRm_lookBack_48, r_MRm_lookBack_49, r_MRm_lookBack_52, r_MRm_lookBack_53, r_MRm_lookBack_54, r_MRm_lookBack_57, sL_0, sL_1, sL_2, mk_i, mk_r, mk_f, mk_n, mk_u, mk_l, List.set_cons_succ, List.set_cons_zero, Nat.reduceAdd, ckS_0, ckS_1, ckS_2, ckS_3, ckS_4, Option.bind_some, Option.isSome_some, psh, if_true, if_false, i10, not_true_eq_false, not_false_eq_true, Bool.false_eq_true, and_self, and_true, true_and, eq_self, qI_81_0, qI_81_2, qI_81_3, qI_81_9, qI_81_10, qI_81_11, qI_81_12, qI_81_13, qI_81_18, qI_81_19, qI_81_20, qI_81_21, qI_81_29, qI_81_30, qI_81_31, qI_81_32, qI_81_33, qI_81_34, qI_81_35, qI_81_39, qI_81_40, qI_81_41, qI_81_42, qI_81_43, qI_81_44, qI_81_45, qI_81_46, qI_81_47, qI_81_51, qI_81_53, qR_81_1, qRd_81_1, qR_81_4, qRd_81_4, qR_81_5, qRd_81_5, qR_81_6, qRd_81_6, qR_81_7, qRd_81_7, qR_81_8, qRd_81_8, qR_81_14, qRd_81_14, qR_81_15, qRd_81_15, qR_81_16, qRd_81_16, qR_81_17, qRd_81_17, qR_81_22, qRd_81_22, qR_81_23, qRd_81_23, qR_81_24, qRd_81_24, qR_81_25, qRd_81_25, qR_81_26, qRd_81_26, qR_81_27, qRd_81_27, qR_81_28, qRd_81_28, qR_81_36, qRd_81_36, qR_81_37, qRd_81_37, qR_81_38, qRd_81_38, qR_81_48, qRd_81_48, qR_81_49, qRd_81_49, qR_81_50, qRd_81_50, qR_81_52, qRd_81_52, qR_81_54, qRd_81_54, qR_81_55, qRd_81_55, qR_81_56, qRd_81_56, qR_81_57, qRd_81_57, qR_81_58, qRd_81_58, qO_81, v30, c0, cp', v43, v44, u43, u44, u45, k44, c1', c2]
      · rw [if_neg c1]
        simp only [r_MRm_lookBack_0, r_MRm_lookBack_1, r_MRm_lookBack_4, r_MRm_lookBack_7, r_MRm_lookBack_8, r_MRm_lookBack_9, r_MRm_lookBack_12, r_MRm_lookBack_15, r_MRm_lookBack_16, r_MRm_lookBack_19, r_MRm_lookBack_20, r_MRm_lookBack_21, r_MRm_lookBack_22, r_MRm_lookBack_23, r_MRm_lookBack_26, r_MRm_lookBack_27, r_MRm_lookBack_30, r_MRm_lookBack_31, r_MRm_lookBack_34, r_MRm_lookBack_37, r_MRm_lookBack_38, r_MRm_lookBack_39, r_MRm_lookBack_42, r_MRm_lookBack_43, r_MRm_lookBack_43i, r_MRm_lookBack_44, r_MRm_lookBack_47, r_MRm_lookBack_48, r_MRm_lookBack_49, r_MRm_lookBack_52, r_MRm_lookBack_53, r_MRm_lookBack_54, r_MRm_lookBack_57, sL_0, sL_1, sL_2, mk_i, mk_r, mk_f, mk_n, mk_u, mk_l, List.set_cons_succ, List.set_cons_zero, Nat.reduceAdd, ckS_0, ckS_1, ckS_2, ckS_3, ckS_4, Option.bind_some, Option.isSome_some, psh, if_true, if_false, i10, not_true_eq_false, not_false_eq_true, Bool.false_eq_true, and_self, and_true, true_and, eq_self, qI_81_0, qI_81_2, qI_81_3, qI_81_9, qI_81_10, qI_81_11, qI_81_12, qI_81_13, qI_81_18, qI_81_19, qI_81_20, qI_81_21, qI_81_29, qI_81_30, qI_81_31, qI_81_32, qI_81_33, qI_81_34, qI_81_35, qI_81_39, qI_81_40, qI_81_41, qI_81_42, qI_81_43, qI_81_44, qI_81_45, qI_81_46, qI_81_47, qI_81_51, qI_81_53, qR_81_1, qRd_81_1, qR_81_4, qRd_81_4, qR_81_5, qRd_81_5, qR_81_6, qRd_81_6, qR_81_7, qRd_81_7, qR_81_8, qRd_81_8, qR_81_14, qRd_81_14, qR_81_15, qRd_81_15, qR_81_16, qRd_81_16, qR_81_17, qRd_81_17, qR_81_22, qRd_81_22, qR_81_23, qRd_81_23, qR_81_24, qRd_81_24, qR_81_25, qRd_81_25, qR_81_26, qRd_81_26, qR_81_27, qRd_81_27, qR_81_28, qRd_81_28, qR_81_36, qRd_81_36, qR_81_37, qRd_81_37, qR_81_38, qRd_81_38, qR_81_48, qRd_81_48, qR_81_49, qRd_81_49, qR_81_50, qRd_81_50, qR_81_52, qRd_81_52, qR_81_54, qRd_81_54, qR_81_55, qRd_81_55, qR_81_56, qRd_81_56, qR_81_57, qRd_81_57, qR_81_58, qRd_81_58, qO_81, v30, c0, cp', v43, v44, u43, u44, u45, c1]
theorem RtM_k (h : ∀ j, m' 87 j = m 87 j) (q : RtM m S ca cb cc cd) : RtM m' S ca cb cc cd := by
  unfold RtM at q ⊢
  rw [h, h, h, h]
  exact q
set_option maxHeartbeats 2000000 in
theorem m_goL (hS : S < 6) (hn : n ≤ 4) (hB : RtB cc cd) (hs : SitM fl n f pc) (hP : ∀ i, P (i + 1) = spT k ca cb cc cd (flO LS f) pc (P i)) (hb : ∀ i, Bd (P i)) (ht : ∀ i, P i 10 = nI i) : ∀ (q i : Nat) (m : Mu), i + q = 400 → RtM m S ca cb cc cd → AllM m LS n → LbM m (fun t => P t 7) i → ∃ m' : Mu, Rr X (d + 6) MRm_goThrough 26 [.ref 81, .int (nI S), .int k, .int fl, .int s, .int w, .int (nI (i + 1))] [] (Wd (moG m (gG (P i))) la ro et) = some (none, Wd (moG m' (gG (P 400))) la ro et) ∧ (∀ c j, ¬ c = 97 → ¬ c = 98 → (¬ c = 81 ∨ j < 43 ∨ 45 < j) → m' c j = m c j) ∧ LbM m' (fun t => P t 7) 400
  | 0, i, m, h, hR, hA, hL => by
    have : i = 400 := by omega
    subst this
    have z : (400 : Int32) < nI (400 + 1) := nI_lt (a := 400) (b := 401) (by omega) (by omega)
    refine ⟨m, ?_, fun _ _ _ _ _ => rfl, hL⟩
    simp only [r_MRm_goThrough_26, r_MRm_goThrough_28, r_MRm_goThrough_31, r_MRm_goThrough_55, sL_0, sL_1, sL_2, mk_i, mk_r, mk_f, mk_n, mk_u, mk_l, List.set_cons_succ, List.set_cons_zero, Nat.reduceAdd, ckS_0, ckS_1, ckS_2, ckS_3, ckS_4, Option.bind_some, Option.isSome_some, psh, if_true, if_false, i10, not_true_eq_false, not_false_eq_true, Bool.false_eq_true, and_self, and_true, true_and, eq_self, z]
  | q + 1, i, m, h, hR, hA, hL => by
    have z : ¬ (400 : Int32) < nI (i + 1) := nI_nlt (a := 400) (b := i + 1) (by omega) (by omega)
    obtain ⟨m1, eg, o1⟩ := e_go (X := X) (d := d) (la := la) (ro := ro) (et := et) (k := k) (T := P i) (t := nI (i + 1)) hS hn hR hB hs hA (hb i) (by rw [ht i, nI_1])
    rw [← hP i] at eg
    have el := e_lookB (X := X) (d := d + 5) (m := m1) (la := la) (ro := ro) (et := et) (G := gG (P (i + 1))) (s := P (i + 1) 7) (t := nI (i + 1)) rfl
    have L1 : LbM m1 (fun t => P t 7) i := by
      obtain ⟨q1, q2, q3⟩ := hL
      exact ⟨(o1 81 43 (by omega) (by omega)).trans q1, (o1 81 44 (by omega) (by omega)).trans q2, fun z => (o1 81 45 (by omega) (by omega)).trans (q3 z)⟩
    have L2 := lb_s (show i < 400 by omega) L1
    have L2 : LbM (lbM m1 (P (i + 1) 7) (nI (i + 1))) (fun t => P t 7) (i + 1) := L2
    obtain ⟨m2, hm2⟩ : ∃ m2, m2 = lbM m1 (P (i + 1) 7) (nI (i + 1)) := ⟨_, rfl⟩
    have o2 : ∀ c j, (¬ c = 81 ∨ j < 43 ∨ 45 < j) → m2 c j = m1 c j := fun c j h => by rw [hm2]; exact lb_o h
    rw [← hm2] at el L2
    obtain ⟨m', E, o', L'⟩ := m_goL hS hn hB hs hP hb ht q (i + 1) m2 (by omega) (RtM_k (fun j => (o2 87 j (by omega)).trans (o1 87 j (by omega) (by omega))) hR) (AllM_k (fun c j h1 h2 => (o2 c j (by omega)).trans (o1 c j (by omega) (by omega))) hA) L2
    refine ⟨m', ?_, fun c j h1 h2 h3 => (o' c j h1 h2 h3).trans ((o2 c j h3).trans (o1 c j h1 h2)), L'⟩
    rw [← E]
    simp only [r_MRm_goThrough_26, r_MRm_goThrough_28, r_MRm_goThrough_31, r_MRm_goThrough_34, r_MRm_goThrough_35, r_MRm_goThrough_36, r_MRm_goThrough_37, r_MRm_goThrough_38, r_MRm_goThrough_40, r_MRm_goThrough_43, r_MRm_goThrough_44, r_MRm_goThrough_46, r_MRm_goThrough_49, r_MRm_goThrough_52, sL_0, sL_1, sL_2, mk_i, mk_r, mk_f, mk_n, mk_u, mk_l, List.set_cons_succ, List.set_cons_zero, Nat.reduceAdd, ckS_0, ckS_1, ckS_2, ckS_3, ckS_4, Option.bind_some, Option.isSome_some, psh, if_true, if_false, i10, not_true_eq_false, not_false_eq_true, Bool.false_eq_true, and_self, and_true, true_and, eq_self, qI_81_0, qI_81_2, qI_81_3, qI_81_9, qI_81_10, qI_81_11, qI_81_12, qI_81_13, qI_81_18, qI_81_19, qI_81_20, qI_81_21, qI_81_29, qI_81_30, qI_81_31, qI_81_32, qI_81_33, qI_81_34, qI_81_35, qI_81_39, qI_81_40, qI_81_41, qI_81_42, qI_81_43, qI_81_44, qI_81_45, qI_81_46, qI_81_47, qI_81_51, qI_81_53, qR_81_1, qRd_81_1, qR_81_4, qRd_81_4, qR_81_5, qRd_81_5, qR_81_6, qRd_81_6, qR_81_7, qRd_81_7, qR_81_8, qRd_81_8, qR_81_14, qRd_81_14, qR_81_15, qRd_81_15, qR_81_16, qRd_81_16, qR_81_17, qRd_81_17, qR_81_22, qRd_81_22, qR_81_23, qRd_81_23, qR_81_24, qRd_81_24, qR_81_25, qRd_81_25, qR_81_26, qRd_81_26, qR_81_27, qRd_81_27, qR_81_28, qRd_81_28, qR_81_36, qRd_81_36, qR_81_37, qRd_81_37, qR_81_38, qRd_81_38, qR_81_48, qRd_81_48, qR_81_49, qRd_81_49, qR_81_50, qRd_81_50, qR_81_52, qRd_81_52, qR_81_54, qRd_81_54, qR_81_55, qRd_81_55, qR_81_56, qRd_81_56, qR_81_57, qRd_81_57, qR_81_58, qRd_81_58, qO_81, z, eg, el, nI_1]
set_option maxHeartbeats 1000000 in
theorem e_goThrough (hS : S < 6) (hn : n ≤ 4) (hR : RtM m S ca cb cc cd) (hB : RtB cc cd) (hs : SitM fl n f pc) (hA : AllM m LS n) (hb : Bd (beT s (w / 1000) (w - w / 1000 * 1000) 0)) : ∃ m' : Mu, Rr X (d + 6) MRm_goThrough 0 [.ref 81, .int (nI S), .int k, .int fl, .int s, .int w, mkU] [] (Wd m la ro et) = some (none, Wd m' la ro et) ∧ (∀ c j, ¬ c = 97 → ¬ c = 98 → (¬ c = 81 ∨ j < 30 ∨ (35 < j ∧ j < 43) ∨ 45 < j) → m' c j = m c j) ∧ m' 81 44 = nI (bkN (goS k ca cb cc cd (flO LS f) pc s w) 400) ∧ (¬ fbN (goS k ca cb cc cd (flO LS f) pc s w) 400 = 0 → m' 81 45 = nI (fbN (goS k ca cb cc cd (flO LS f) pc s w) 400)) := by
  have eT := e_beginM (X := X) (d := d + 5) (m := m) (la := la) (ro := ro) (et := et) (s := s) (w := w)
  have hP0 : beT s (w / 1000) (w - w / 1000 * 1000) 0 = goP k ca cb cc cd (flO LS f) pc s w 0 := rfl
  rw [hP0] at eT hb
  obtain ⟨m1, hm1⟩ : ∃ m1, m1 = up2 (up2 m 81 43 0) 81 44 0 := ⟨_, rfl⟩
  have u1 : up2 (up2 (moG m (gG (goP k ca cb cc cd (flO LS f) pc s w 0))) 81 43 0) 81 44 0 = moG m1 (gG (goP k ca cb cc cd (flO LS f) pc s w 0)) := by
    rw [mg_uo (by omega), mg_uo (by omega), hm1]
  have el := e_lookB (X := X) (d := d + 5) (m := m1) (la := la) (ro := ro) (et := et) (G := gG (goP k ca cb cc cd (flO LS f) pc s w 0)) (s := goP k ca cb cc cd (flO LS f) pc s w 0 7) (t := 0) rfl
  have L2 := lb_0 (m := m1) (g := goS k ca cb cc cd (flO LS f) pc s w) (t := 0) (by rw [hm1, up2_k (by decide), up2_s]) (by rw [hm1, up2_s])
  have L2 : LbM (lbM m1 (goP k ca cb cc cd (flO LS f) pc s w 0 7) 0) (goS k ca cb cc cd (flO LS f) pc s w) 0 := L2
  obtain ⟨m2, hm2⟩ : ∃ m2, m2 = lbM m1 (goP k ca cb cc cd (flO LS f) pc s w 0 7) 0 := ⟨_, rfl⟩
  have o1 : ∀ c j, (¬ c = 81 ∨ j < 43 ∨ 45 < j) → m1 c j = m c j := fun c j h => by
    rw [hm1, up2_e, if_neg (by omega), up2_e, if_neg (by omega)]
  have o2 : ∀ c j, (¬ c = 81 ∨ j < 43 ∨ 45 < j) → m2 c j = m c j := fun c j h => by rw [hm2, lb_o h]; exact o1 c j h
  rw [← hm2] at el L2
  obtain ⟨m', E, o', L'⟩ := m_goL (X := X) (d := d) (la := la) (ro := ro) (et := et) (k := k) (P := goP k ca cb cc cd (flO LS f) pc s w) (s := s) (w := w) hS hn hB hs go_s (fun i => sn_bd hB (SitM_P hs) i hb) go_10 400 0 m2 (by omega) (RtM_k (fun j => o2 87 j (by omega)) hR) (AllM_k (fun c j h1 h2 => o2 c j (by omega)) hA) L2
  have E : Rr X (d + 6) MRm_goThrough 26 [.ref 81, .int (nI S), .int k, .int fl, .int s, .int w, .int 1] [] (Wd (moG m2 (gG (goP k ca cb cc cd (flO LS f) pc s w 0))) la ro et) = _ := E
  obtain ⟨q1, q2, q3⟩ := L'
  refine ⟨moG m' (gG (goP k ca cb cc cd (flO LS f) pc s w 400)), ?_, fun c j h1 h2 h3 => ?_, (mg_k (by omega)).trans q2, fun z => (mg_k (by omega)).trans (q3 z)⟩
  · rw [← E]
    simp only [r_MRm_goThrough_0, r_MRm_goThrough_1, r_MRm_goThrough_3, r_MRm_goThrough_5, r_MRm_goThrough_8, r_MRm_goThrough_9, r_MRm_goThrough_10, r_MRm_goThrough_13, r_MRm_goThrough_14, r_MRm_goThrough_15, r_MRm_goThrough_18, r_MRm_goThrough_19, r_MRm_goThrough_20, r_MRm_goThrough_23, r_MRm_goThrough_24, sL_0, sL_1, sL_2, mk_i, mk_r, mk_f, mk_n, mk_u, mk_l, List.set_cons_succ, List.set_cons_zero, Nat.reduceAdd, ckS_0, ckS_1, ckS_2, ckS_3, ckS_4, Option.bind_some, Option.isSome_some, psh, if_true, if_false, i10, not_true_eq_false, not_false_eq_true, Bool.false_eq_true, and_self, and_true, true_and, eq_self, qI_81_0, qI_81_2, qI_81_3, qI_81_9, qI_81_10, qI_81_11, qI_81_12, qI_81_13, qI_81_18, qI_81_19, qI_81_20, qI_81_21, qI_81_29, qI_81_30, qI_81_31, qI_81_32, qI_81_33, qI_81_34, qI_81_35, qI_81_39, qI_81_40, qI_81_41, qI_81_42, qI_81_43, qI_81_44, qI_81_45, qI_81_46, qI_81_47, qI_81_51, qI_81_53, qR_81_1, qRd_81_1, qR_81_4, qRd_81_4, qR_81_5, qRd_81_5, qR_81_6, qRd_81_6, qR_81_7, qRd_81_7, qR_81_8, qRd_81_8, qR_81_14, qRd_81_14, qR_81_15, qRd_81_15, qR_81_16, qRd_81_16, qR_81_17, qRd_81_17, qR_81_22, qRd_81_22, qR_81_23, qRd_81_23, qR_81_24, qRd_81_24, qR_81_25, qRd_81_25, qR_81_26, qRd_81_26, qR_81_27, qRd_81_27, qR_81_28, qRd_81_28, qR_81_36, qRd_81_36, qR_81_37, qRd_81_37, qR_81_38, qRd_81_38, qR_81_48, qRd_81_48, qR_81_49, qRd_81_49, qR_81_50, qRd_81_50, qR_81_52, qRd_81_52, qR_81_54, qRd_81_54, qR_81_55, qRd_81_55, qR_81_56, qRd_81_56, qR_81_57, qRd_81_57, qR_81_58, qRd_81_58, qO_81, eT, u1, el]
  · have : moG m' (gG (goP k ca cb cc cd (flO LS f) pc s w 400)) c j = m' c j := by
      unfold moG
      rw [if_neg (by omega)]
    rw [this, o' c j h1 h2 (by omega), o2 c j (by omega)]
end
