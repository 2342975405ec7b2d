-- ===== by hand: gives
section
variable {X : Tok} {d : Nat} {mu mu' : Mu} {la la' : La} {ro ro' : Ro} {et : Nat → Option va_E}
/-- n lines from line l of floor p on, the first begins at a: the answer, the memory -/
noncomputable def gv (p : Nat) : Nat → Nat → Nat → Mu → Int32 × Mu
  | 0, _, _, mu => (0, mu)
  | n + 1, l, a, mu =>
    let b := (mu 95 (61 * p + l)).toNatClampNeg
    let c := (mu 96 (61 * p + l)).toNatClampNeg
    if b = a then (wk mu (c - b) (130 * p + b) 0 98 0, wk mu (c - b) (130 * p + b) 0)
    else if wk mu (b - a) (130 * p + a) 0 98 0 = 0 then gv p n (l + 1) c (wk mu (b - a) (130 * p + a) 0)
    else (wk (wk mu (b - a) (130 * p + a) 0) (c - b) (130 * p + b) 0 98 0, wk (wk mu (b - a) (130 * p + a) 0) (c - b) (130 * p + b) 0)
theorem e_61 (P E : Nat) : (61 : Int32) * nI P + nI E = nI (61 * P + E) := by rw [show (61 : Int32) * nI P = nI (61 * P) from (Int32.ofNat_mul 61 P).symm, nI_add]
theorem e_61z (P : Nat) : (61 : Int32) * nI P = nI (61 * P) := (Int32.ofNat_mul 61 P).symm
theorem gives_loop {P n : Nat} (hP : P < 4) (hn : n ≤ 61) : ∀ (m l A : Nat) (mu : Mu), l + m = n → mu 94 P = nI n → lnsOk mu P m l A → A ≤ 130 → Rr X (d + 2) MRm_gives 7 [.ref 81, .int (nI P), .int (nI A), .int (nI (61 * P + l))] [] (Wd mu la ro et) = some (some (.int (gv P m l A mu).1), Wd (gv P m l A mu).2 la ro et) := by
  intro m
  have cP : (nI P).toNatClampNeg = P := nI_clamp (by omega)
  have iP := ix (j := P) (N := 5) (by omega) (by omega)
  induction m with
  | zero =>
    intro l A mu hl hm _ _
    have : l = n := by omega
    subst this
    have h1 : nI (61 * P + l) ≤ nI (61 * P + l) := nI_le (Nat.le_refl _) (by omega)
    rw [r_MRm_gives_7]
    simp only [r_MRm_gives_8, r_MRm_gives_10, r_MRm_gives_11, r_MRm_gives_12, r_MRm_gives_13, r_MRm_gives_16, r_MRm_gives_17, r_MRm_gives_18, r_MRm_gives_19, r_MRm_gives_78, r_MRm_gives_79, sL_0, sL_1, sL_2, mk_i, mk_r, mk_f, mk_n, mk_u, mk_l, List.set_cons_succ, List.set_cons_zero, Nat.reduceAdd, ckS_0, ckS_1, ckS_2, ckS_3, ckS_4, Option.bind_some, Option.isSome_some, psh, if_true, if_false, i10, not_true_eq_false, not_false_eq_true, Bool.false_eq_true, and_self, and_true, true_and, eq_self, qI_81_0, qI_81_2, qI_81_3, qI_81_9, qI_81_10, qI_81_11, qI_81_12, qI_81_13, qI_81_18, qI_81_19, qI_81_20, qI_81_21, qI_81_29, qI_81_30, qI_81_31, qI_81_32, qI_81_33, qI_81_34, qI_81_35, qI_81_39, qI_81_40, qI_81_41, qI_81_42, qI_81_43, qI_81_44, qI_81_45, qI_81_46, qI_81_47, qI_81_51, qI_81_53, qR_81_1, qRd_81_1, qR_81_4, qRd_81_4, qR_81_5, qRd_81_5, qR_81_6, qRd_81_6, qR_81_7, qRd_81_7, qR_81_8, qRd_81_8, qR_81_14, qRd_81_14, qR_81_15, qRd_81_15, qR_81_16, qRd_81_16, qR_81_17, qRd_81_17, qR_81_22, qRd_81_22, qR_81_23, qRd_81_23, qR_81_24, qRd_81_24, qR_81_25, qRd_81_25, qR_81_26, qRd_81_26, qR_81_27, qRd_81_27, qR_81_28, qRd_81_28, qR_81_36, qRd_81_36, qR_81_37, qRd_81_37, qR_81_38, qRd_81_38, qR_81_48, qRd_81_48, qR_81_49, qRd_81_49, qR_81_50, qRd_81_50, qR_81_52, qRd_81_52, qR_81_54, qRd_81_54, qR_81_55, qRd_81_55, qR_81_56, qRd_81_56, qR_81_57, qRd_81_57, qR_81_58, qRd_81_58, qA_94, qAd_94, qO_81, qL_94, qLd_94, e_61z, cP, iP, hm, nI_add, h1, gv]
  | succ m ih =>
    intro l A mu hl hm hk hA
    obtain ⟨b, c, g1, g2, ⟨g3, g4, g5, g6, g7⟩, g8⟩ := hk
    have h1 : ¬ nI (61 * P + n) ≤ nI (61 * P + l) := nI_ge (by omega) (by omega)
    have cL : (nI (61 * P + l)).toNatClampNeg = 61 * P + l := nI_clamp (by omega)
    have iL := ix (j := 61 * P + l) (N := 305) (by omega) (by omega)
    have cb : (nI b).toNatClampNeg = b := nI_clamp (by omega)
    have cc : (nI c).toNatClampNeg = c := nI_clamp (by omega)
    rw [r_MRm_gives_7, gv]
    simp only [g1, g2, cb, cc]
    by_cases c1 : b = A
    · subst c1
      have w2 := e_worked (X := X) (d := d) (mu := mu) (la := la) (ro := ro) (et := et) g4 (P := P) (by omega) g5 g7
      rw [if_pos rfl]
      simp only [r_MRm_gives_8, r_MRm_gives_10, r_MRm_gives_11, r_MRm_gives_12, r_MRm_gives_13, r_MRm_gives_16, r_MRm_gives_17, r_MRm_gives_18, r_MRm_gives_19, r_MRm_gives_22, r_MRm_gives_23, r_MRm_gives_26, r_MRm_gives_27, r_MRm_gives_28, r_MRm_gives_29, r_MRm_gives_32, r_MRm_gives_33, r_MRm_gives_34, r_MRm_gives_35, r_MRm_gives_36, r_MRm_gives_39, r_MRm_gives_40, r_MRm_gives_41, r_MRm_gives_44, r_MRm_gives_47, r_MRm_gives_48, r_MRm_gives_49, r_MRm_gives_50, r_MRm_gives_53, r_MRm_gives_54, r_MRm_gives_55, r_MRm_gives_56, r_MRm_gives_59, r_MRm_gives_60, r_MRm_gives_61, r_MRm_gives_64, sL_0, sL_1, sL_2, mk_i, mk_r, mk_f, mk_n, mk_u, mk_l, List.set_cons_succ, List.set_cons_zero, Nat.reduceAdd, ckS_0, ckS_1, ckS_2, ckS_3, ckS_4, Option.bind_some, Option.isSome_some, psh, if_true, if_false, i10, not_true_eq_false, not_false_eq_true, Bool.false_eq_true, and_self, and_true, true_and, eq_self, qI_81_0, qI_81_2, qI_81_3, qI_81_9, qI_81_10, qI_81_11, qI_81_12, qI_81_13, qI_81_18, qI_81_19, qI_81_20, qI_81_21, qI_81_29, qI_81_30, qI_81_31, qI_81_32, qI_81_33, qI_81_34, qI_81_35, qI_81_39, qI_81_40, qI_81_41, qI_81_42, qI_81_43, qI_81_44, qI_81_45, qI_81_46, qI_81_47, qI_81_51, qI_81_53, qR_81_1, qRd_81_1, qR_81_4, qRd_81_4, qR_81_5, qRd_81_5, qR_81_6, qRd_81_6, qR_81_7, qRd_81_7, qR_81_8, qRd_81_8, qR_81_14, qRd_81_14, qR_81_15, qRd_81_15, qR_81_16, qRd_81_16, qR_81_17, qRd_81_17, qR_81_22, qRd_81_22, qR_81_23, qRd_81_23, qR_81_24, qRd_81_24, qR_81_25, qRd_81_25, qR_81_26, qRd_81_26, qR_81_27, qRd_81_27, qR_81_28, qRd_81_28, qR_81_36, qRd_81_36, qR_81_37, qRd_81_37, qR_81_38, qRd_81_38, qR_81_48, qRd_81_48, qR_81_49, qRd_81_49, qR_81_50, qRd_81_50, qR_81_52, qRd_81_52, qR_81_54, qRd_81_54, qR_81_55, qRd_81_55, qR_81_56, qRd_81_56, qR_81_57, qRd_81_57, qR_81_58, qRd_81_58, qA_94, qAd_94, qA_95, qAd_95, qA_96, qAd_96, qO_81, qL_94, qLd_94, qL_95, qLd_95, qL_96, qLd_96, e_61z, cP, iP, hm, nI_add, h1, cL, iL, g1, g2, w2]
    · have n1 : ¬ nI b = nI A := fun q => c1 ((nI_eq (by omega) (by omega)).mp q)
      have w1 := e_worked (X := X) (d := d) (mu := mu) (la := la) (ro := ro) (et := et) g3 (P := P) (by omega) (by omega) g6
      have k1 : ∀ i, wk mu (b - A) (130 * P + A) 0 94 i = mu 94 i := fun i => wk_o (by decide) _ _ _ _ _
      have k2 : ∀ i, wk mu (b - A) (130 * P + A) 0 92 i = mu 92 i := fun i => wk_o (by decide) _ _ _ _ _
      have k3 : ∀ i, wk mu (b - A) (130 * P + A) 0 93 i = mu 93 i := fun i => wk_o (by decide) _ _ _ _ _
      have k4 : ∀ i, wk mu (b - A) (130 * P + A) 0 95 i = mu 95 i := fun i => wk_o (by decide) _ _ _ _ _
      have k5 : ∀ i, wk mu (b - A) (130 * P + A) 0 96 i = mu 96 i := fun i => wk_o (by decide) _ _ _ _ _
      generalize wk mu (b - A) (130 * P + A) 0 = m1 at *
      rw [if_neg c1]
      by_cases c2 : m1 98 0 = 0
      · rw [if_pos c2]
        have := ih (l + 1) c m1 (by omega) (by rw [k1]; exact hm) (lnsOk_e k2 k3 k4 k5 m (l + 1) c g8) g5
        have s1 : nI (61 * P + l) + 1 = nI (61 * P + (l + 1)) := nI_1 _
        simp only [r_MRm_gives_8, r_MRm_gives_10, r_MRm_gives_11, r_MRm_gives_12, r_MRm_gives_13, r_MRm_gives_16, r_MRm_gives_17, r_MRm_gives_18, r_MRm_gives_19, r_MRm_gives_22, r_MRm_gives_23, r_MRm_gives_26, r_MRm_gives_27, r_MRm_gives_28, r_MRm_gives_29, r_MRm_gives_32, r_MRm_gives_33, r_MRm_gives_34, r_MRm_gives_35, r_MRm_gives_36, r_MRm_gives_39, r_MRm_gives_40, r_MRm_gives_41, r_MRm_gives_44, r_MRm_gives_47, r_MRm_gives_48, r_MRm_gives_49, r_MRm_gives_50, r_MRm_gives_53, r_MRm_gives_54, r_MRm_gives_55, r_MRm_gives_56, r_MRm_gives_59, r_MRm_gives_60, r_MRm_gives_61, r_MRm_gives_64, r_MRm_gives_65, r_MRm_gives_66, r_MRm_gives_69, r_MRm_gives_70, r_MRm_gives_71, r_MRm_gives_72, r_MRm_gives_75, sL_0, sL_1, sL_2, mk_i, mk_r, mk_f, mk_n, mk_u, mk_l, List.set_cons_succ, List.set_cons_zero, Nat.reduceAdd, ckS_0, ckS_1, ckS_2, ckS_3, ckS_4, Option.bind_some, Option.isSome_some, psh, if_true, if_false, i10, not_true_eq_false, not_false_eq_true, Bool.false_eq_true, and_self, and_true, true_and, eq_self, qI_81_0, qI_81_2, qI_81_3, qI_81_9, qI_81_10, qI_81_11, qI_81_12, qI_81_13, qI_81_18, qI_81_19, qI_81_20, qI_81_21, qI_81_29, qI_81_30, qI_81_31, qI_81_32, qI_81_33, qI_81_34, qI_81_35, qI_81_39, qI_81_40, qI_81_41, qI_81_42, qI_81_43, qI_81_44, qI_81_45, qI_81_46, qI_81_47, qI_81_51, qI_81_53, qR_81_1, qRd_81_1, qR_81_4, qRd_81_4, qR_81_5, qRd_81_5, qR_81_6, qRd_81_6, qR_81_7, qRd_81_7, qR_81_8, qRd_81_8, qR_81_14, qRd_81_14, qR_81_15, qRd_81_15, qR_81_16, qRd_81_16, qR_81_17, qRd_81_17, qR_81_22, qRd_81_22, qR_81_23, qRd_81_23, qR_81_24, qRd_81_24, qR_81_25, qRd_81_25, qR_81_26, qRd_81_26, qR_81_27, qRd_81_27, qR_81_28, qRd_81_28, qR_81_36, qRd_81_36, qR_81_37, qRd_81_37, qR_81_38, qRd_81_38, qR_81_48, qRd_81_48, qR_81_49, qRd_81_49, qR_81_50, qRd_81_50, qR_81_52, qRd_81_52, qR_81_54, qRd_81_54, qR_81_55, qRd_81_55, qR_81_56, qRd_81_56, qR_81_57, qRd_81_57, qR_81_58, qRd_81_58, qA_94, qAd_94, qA_95, qAd_95, qA_96, qAd_96, qO_81, qL_94, qLd_94, qL_95, qLd_95, qL_96, qLd_96, e_61z, cP, iP, hm, nI_add, h1, cL, iL, g1, g2, n1, w1, c2, k5, s1]
        exact this
      · rw [if_neg c2]
        have w2 := e_worked (X := X) (d := d) (mu := m1) (la := la) (ro := ro) (et := et) g4 (P := P) (by omega) g5 (by rw [dpt_e k2 k3]; exact g7)
        simp only [r_MRm_gives_8, r_MRm_gives_10, r_MRm_gives_11, r_MRm_gives_12, r_MRm_gives_13, r_MRm_gives_16, r_MRm_gives_17, r_MRm_gives_18, r_MRm_gives_19, r_MRm_gives_22, r_MRm_gives_23, r_MRm_gives_26, r_MRm_gives_27, r_MRm_gives_28, r_MRm_gives_29, r_MRm_gives_32, r_MRm_gives_33, r_MRm_gives_34, r_MRm_gives_35, r_MRm_gives_36, r_MRm_gives_39, r_MRm_gives_40, r_MRm_gives_41, r_MRm_gives_44, r_MRm_gives_47, r_MRm_gives_48, r_MRm_gives_49, r_MRm_gives_50, r_MRm_gives_53, r_MRm_gives_54, r_MRm_gives_55, r_MRm_gives_56, r_MRm_gives_59, r_MRm_gives_60, r_MRm_gives_61, r_MRm_gives_64, sL_0, sL_1, sL_2, mk_i, mk_r, mk_f, mk_n, mk_u, mk_l, List.set_cons_succ, List.set_cons_zero, Nat.reduceAdd, ckS_0, ckS_1, ckS_2, ckS_3, ckS_4, Option.bind_some, Option.isSome_some, psh, if_true, if_false, i10, not_true_eq_false, not_false_eq_true, Bool.false_eq_true, and_self, and_true, true_and, eq_self, qI_81_0, qI_81_2, qI_81_3, qI_81_9, qI_81_10, qI_81_11, qI_81_12, qI_81_13, qI_81_18, qI_81_19, qI_81_20, qI_81_21, qI_81_29, qI_81_30, qI_81_31, qI_81_32, qI_81_33, qI_81_34, qI_81_35, qI_81_39, qI_81_40, qI_81_41, qI_81_42, qI_81_43, qI_81_44, qI_81_45, qI_81_46, qI_81_47, qI_81_51, qI_81_53, qR_81_1, qRd_81_1, qR_81_4, qRd_81_4, qR_81_5, qRd_81_5, qR_81_6, qRd_81_6, qR_81_7, qRd_81_7, qR_81_8, qRd_81_8, qR_81_14, qRd_81_14, qR_81_15, qRd_81_15, qR_81_16, qRd_81_16, qR_81_17, qRd_81_17, qR_81_22, qRd_81_22, qR_81_23, qRd_81_23, qR_81_24, qRd_81_24, qR_81_25, qRd_81_25, qR_81_26, qRd_81_26, qR_81_27, qRd_81_27, qR_81_28, qRd_81_28, qR_81_36, qRd_81_36, qR_81_37, qRd_81_37, qR_81_38, qRd_81_38, qR_81_48, qRd_81_48, qR_81_49, qRd_81_49, qR_81_50, qRd_81_50, qR_81_52, qRd_81_52, qR_81_54, qRd_81_54, qR_81_55, qRd_81_55, qR_81_56, qRd_81_56, qR_81_57, qRd_81_57, qR_81_58, qRd_81_58, qA_94, qAd_94, qA_95, qAd_95, qA_96, qAd_96, qO_81, qL_94, qLd_94, qL_95, qLd_95, qL_96, qLd_96, e_61z, cP, iP, hm, nI_add, h1, cL, iL, g1, g2, n1, w1, c2, k4, k5, w2]
theorem frm_gv {p : Nat} : ∀ (n l a : Nat) (mu : Mu), frm [(98, 0)] mu la ro (gv p n l a mu).2 la ro
  | 0, _, _, _ => frm_r _ _ _ _
  | n + 1, l, a, mu => by
    rw [gv]
    split
    · exact frm_wk _ _ _ _
    · split
      · exact frm_t (frm_wk _ _ _ _) (frm_gv n (l + 1) _ _)
      · exact frm_t (frm_wk _ _ _ _) (frm_wk _ _ _ _)
theorem gOk_gv {p : Nat} : ∀ (n l a : Nat) (mu : Mu), gOk ivG mu → gOk ivG (gv p n l a mu).2
  | 0, _, _, _, hg => hg
  | n + 1, l, a, mu, hg => by
    rw [gv]
    split
    · exact gOk_wk _ _ _ _ hg
    · split
      · exact gOk_gv n (l + 1) _ _ (gOk_wk _ _ _ _ hg)
      · exact gOk_wk _ _ _ _ (gOk_wk _ _ _ _ hg)
theorem e_gives {P n : Nat} (hP : P < 4) (hn : n ≤ 61) (h1 : mu 94 P = nI n) (h2 : lnsOk mu P n 0 0) : Rr X (d + 2) MRm_gives 0 [.ref 81, .int (nI P), mkU, mkU] [] (Wd mu la ro et) = some (some (.int (gv P n 0 0 mu).1), Wd (gv P n 0 0 mu).2 la ro et) := by
  have := gives_loop (X := X) (d := d) (la := la) (ro := ro) (et := et) hP hn n 0 0 mu (by omega) h1 h2 (by omega)
  rw [nI_0] at this
  simp only [r_MRm_gives_0, r_MRm_gives_1, r_MRm_gives_2, r_MRm_gives_4, r_MRm_gives_5, r_MRm_gives_6, sL_0, sL_1, sL_2, mk_i, mk_r, mk_f, mk_n, mk_u, mk_l, List.set_cons_succ, List.set_cons_zero, Nat.reduceAdd, ckS_0, ckS_1, ckS_2, ckS_3, ckS_4, Option.bind_some, Option.isSome_some, psh, if_true, if_false, i10, not_true_eq_false, not_false_eq_true, Bool.false_eq_true, and_self, and_true, true_and, eq_self, qI_81_0, qI_81_2, qI_81_3, qI_81_9, qI_81_10, qI_81_11, qI_81_12, qI_81_13, qI_81_18, qI_81_19, qI_81_20, qI_81_21, qI_81_29, qI_81_30, qI_81_31, qI_81_32, qI_81_33, qI_81_34, qI_81_35, qI_81_39, qI_81_40, qI_81_41, qI_81_42, qI_81_43, qI_81_44, qI_81_45, qI_81_46, qI_81_47, qI_81_51, qI_81_53, qR_81_1, qRd_81_1, qR_81_4, qRd_81_4, qR_81_5, qRd_81_5, qR_81_6, qRd_81_6, qR_81_7, qRd_81_7, qR_81_8, qRd_81_8, qR_81_14, qRd_81_14, qR_81_15, qRd_81_15, qR_81_16, qRd_81_16, qR_81_17, qRd_81_17, qR_81_22, qRd_81_22, qR_81_23, qRd_81_23, qR_81_24, qRd_81_24, qR_81_25, qRd_81_25, qR_81_26, qRd_81_26, qR_81_27, qRd_81_27, qR_81_28, qRd_81_28, qR_81_36, qRd_81_36, qR_81_37, qRd_81_37, qR_81_38, qRd_81_38, qR_81_48, qRd_81_48, qR_81_49, qRd_81_49, qR_81_50, qRd_81_50, qR_81_52, qRd_81_52, qR_81_54, qRd_81_54, qR_81_55, qRd_81_55, qR_81_56, qRd_81_56, qR_81_57, qRd_81_57, qR_81_58, qRd_81_58, qO_81, e_61z]
  exact this
theorem hand_gives : ctrT ivG JB X et h5 := by
  intro d av mu la ro hd ha hg hr hj
  obtain ⟨d, rfl⟩ : ∃ e, d = e + 2 := ⟨d - 2, by have : 4 ≤ d := hd; omega⟩
  match av, ha with
  | [v, w], ⟨hv, ⟨x, hx, x1, x2⟩, _⟩ =>
    have hv' : v = .ref 81 := hv
    subst hv' hx
    have x1' : (0 : Int) ≤ x.toInt := x1
    have x2' : x.toInt ≤ (3 : Int) := x2
    obtain ⟨P, hP, rfl⟩ : ∃ P : Nat, P < 4 ∧ x = nI P := ⟨x.toInt.toNat, by omega, Int32.toInt_inj.mp (by rw [nI_toInt (by omega)]; omega)⟩
    obtain ⟨n, hn, h1, h2⟩ := hj.2.2 P hP
    have f := frm_gv (la := la) (ro := ro) (p := P) n 0 0 mu
    exact ⟨_, _, _, _, e_gives hP hn h1 h2, gOk_gv _ _ _ _ hg, hr, JS_B _ (by decide) _ _ _ _ _ _ f hj, f, resT _⟩
end
