-- ===== shelves, on both sides: what each holds; keep and row exactly
section
variable {X : Tok} {d : Nat} {mu mu' : Mu} {la la' : La} {ro ro' : Ro} {et : Nat → Option va_E}
/-- what shelf S holds, on both sides: nothing, a body, a row -/
def shS (n : Nat) (mu : Mu) (S : Nat) : Prop :=
  (mu 107 S = -1 ∧ mu (69 + 2 * S) 1 = -1 ∧ mu (69 + 2 * S) 2 = -1) ∨
  (∃ b : Nat, b < n ∧ mu 107 S = nI b ∧ mu (69 + 2 * S) 1 = nI b ∧ mu (69 + 2 * S) 2 = -1) ∨
  (∃ T N : Nat, T ≤ 4 ∧ N ≤ 60 ∧ mu 107 S = -2 - nI T ∧ mu (69 + 2 * S) 1 = -1 ∧ mu (69 + 2 * S) 2 = nI T ∧ mu (69 + 2 * S) 3 = nI N ∧ mu 108 S = nI N)
/-- the bodies of both sides, n of them -/
def RBn (n : Nat) (mu : Mu) : Prop := mu 16 2 = nI n ∧ mu 81 51 = nI n ∧ ∀ i, i < n → mu 17 i = mu 105 i
def RShf (mu : Mu) (_ : La) (_ : Ro) : Prop := ∃ n : Nat, n ≤ 50 ∧ RBn n mu ∧ ∀ S, S < 6 → shS n mu S
abbrev dSh0 : WS := [(107, 0), (108, 0), (69, 2), (69, 3), (69, 4), (71, 2), (71, 3), (71, 4), (73, 2), (73, 3), (73, 4), (75, 2), (75, 3), (75, 4), (77, 2), (77, 3), (77, 4), (79, 2), (79, 3), (79, 4)]
abbrev dShf : WS := dBod ++ dSh0
theorem shq {S : Nat} (h : S < 6) : (shp (69 + 2 * S)).1 = 0 ∧ wIn dSh0 (69 + 2 * S) 2 = true ∧ wIn dSh0 (69 + 2 * S) 3 = true ∧ wIn dSh0 (69 + 2 * S) 4 = true := by
  match S, h with
  | 0, _ => decide
  | 1, _ => decide
  | 2, _ => decide
  | 3, _ => decide
  | 4, _ => decide
  | 5, _ => decide
theorem shS_e {n n' S : Nat} (hn : n ≤ n') (h1 : mu' 107 S = mu 107 S) (h2 : mu' 108 S = mu 108 S) (h3 : mu' (69 + 2 * S) 1 = mu (69 + 2 * S) 1) (h4 : mu' (69 + 2 * S) 2 = mu (69 + 2 * S) 2) (h5 : mu' (69 + 2 * S) 3 = mu (69 + 2 * S) 3) (q : shS n mu S) : shS n' mu' S := by
  unfold shS at q ⊢
  rw [h1, h2, h3, h4, h5]
  rcases q with q | ⟨b, q1, q2⟩ | q
  · exact .inl q
  · exact .inr (.inl ⟨b, by omega, q2⟩)
  · exact .inr (.inr q)
theorem shS_f {w : WS} {n n' S : Nat} (hn : n ≤ n') (h : wDis w dSh0 = true) (f : frm w mu la ro mu' la' ro') (hS : S < 6) (q : shS n mu S) : shS n' mu' S := by
  obtain ⟨q1, q2, q3, q4⟩ := shq hS
  exact shS_e hn (dis_r h f (by decide) (by decide)) (dis_r h f (by decide) (by decide)) (dis_f h f q1 q2) (dis_f h f q1 q3) (dis_f h f q1 q4) q
theorem RBn_f {w : WS} {n : Nat} (h : wDis w dBod = true) (f : frm w mu la ro mu' la' ro') (q : RBn n mu) : RBn n mu' := by
  obtain ⟨h2, h3, h4⟩ := q
  exact ⟨(dis_f h f (by decide) (by decide)).trans h2, (dis_f h f (by decide) (by decide)).trans h3, fun i hi => by
    rw [dis_r (a := 17) (k := i) h f (by decide) (by decide), dis_r (a := 105) (k := i) h f (by decide) (by decide)]
    exact h4 i hi⟩
theorem RShf_f {w : WS} (h : wDis w dShf = true) (f : frm w mu la ro mu' la' ro') (q : RShf mu la ro) : RShf mu' la' ro' := by
  obtain ⟨n, h1, h2, h3⟩ := q
  exact ⟨n, h1, RBn_f (wDis_s (by decide) h) f h2, fun S hS => shS_f (Nat.le_refl _) (wDis_s (by decide) h) f hS (h3 S hS)⟩
theorem sh_ini (i1 : ∀ a, a < 111 → ∀ j, j < lnI a → isRf a j = false → mu a j = ini a j) {S : Nat} (hS : S < 6) : shS 0 mu S := by
  match S, hS with
  | 0, _ => exact .inl ⟨i1 107 (by decide) 0 (by decide) rfl, i1 69 (by decide) 1 (by decide) rfl, i1 69 (by decide) 2 (by decide) rfl⟩
  | 1, _ => exact .inl ⟨i1 107 (by decide) 1 (by decide) rfl, i1 71 (by decide) 1 (by decide) rfl, i1 71 (by decide) 2 (by decide) rfl⟩
  | 2, _ => exact .inl ⟨i1 107 (by decide) 2 (by decide) rfl, i1 73 (by decide) 1 (by decide) rfl, i1 73 (by decide) 2 (by decide) rfl⟩
  | 3, _ => exact .inl ⟨i1 107 (by decide) 3 (by decide) rfl, i1 75 (by decide) 1 (by decide) rfl, i1 75 (by decide) 2 (by decide) rfl⟩
  | 4, _ => exact .inl ⟨i1 107 (by decide) 4 (by decide) rfl, i1 77 (by decide) 1 (by decide) rfl, i1 77 (by decide) 2 (by decide) rfl⟩
  | 5, _ => exact .inl ⟨i1 107 (by decide) 5 (by decide) rfl, i1 79 (by decide) 1 (by decide) rfl, i1 79 (by decide) 2 (by decide) rfl⟩
-- body
theorem RShf_b {n : Nat} {k : Int32} (h1 : n ≤ 50) (h2 : RBn n mu) (h3 : ∀ S, S < 6 → shS n mu S) : RShf (bdM (bdC mu k n) k n) la ro := by
  have f1 : frm [(16, 3), (17, 0)] mu la ro (bdC mu k n) la ro := bdC_fr
  have f2 : frm [(81, 52), (105, 0)] (bdC mu k n) la ro (bdM (bdC mu k n) k n) la ro := bdM_fr
  by_cases c : (0 ≤ k ∧ k ≤ 7) ∧ n < 50
  · refine ⟨n + 1, c.2, ⟨?_, ?_, fun i hi => ?_⟩, fun S hS => ?_⟩
    · unfold bdM bdC
      rw [if_pos c, if_pos c]
      rfl
    · unfold bdM bdC
      rw [if_pos c, if_pos c]
      rfl
    · rw [bd_17 c, bd_105 c]
      by_cases q : i = n
      · rw [if_pos q, if_pos q]
      · rw [if_neg q, if_neg q]
        exact h2.2.2 i (by omega)
    · exact shS_f (n := n) (Nat.le_succ n) (by decide) f2 hS (shS_f (Nat.le_refl n) (by decide) f1 hS (h3 S hS))
  · have e : bdM (bdC mu k n) k n = mu := by
      unfold bdM bdC
      rw [if_neg c, if_neg c]
    rw [e]
    exact ⟨n, h1, h2, h3⟩
-- keep
noncomputable def kpC (mu : Mu) (s b : Int32) (n : Nat) : Mu := if (0 ≤ s ∧ s ≤ 5) ∧ (-1 ≤ b ∧ b ≤ nI n - 1) then up2 (up2 (up2 mu (69 + 2 * s.toNatClampNeg) 1 b) (69 + 2 * s.toNatClampNeg) 2 (-1)) (69 + 2 * s.toNatClampNeg) 3 0 else mu
noncomputable def kpM (mu : Mu) (s b : Int32) (n : Nat) : Mu := if (0 ≤ s ∧ s ≤ 5) ∧ (-1 ≤ b ∧ b ≤ nI n - 1) then up2 mu 107 s.toNatClampNeg b else mu
theorem x_keepC {n : Nat} {s b : Int32} (hr : rOk ro) (h : mu 16 2 = nI n) : Rr X (d + 2) MTo_keep 0 [.ref 0, .int s, .int b, mkU] [] (Wd mu la ro et) = some (some (.int (kpR s b n)), Wd (kpC mu s b n) la ro et) := by
  unfold kpR kpC
  by_cases c1 : 0 ≤ s ∧ s ≤ 5
  · obtain ⟨S, hS, rfl⟩ := i_06 c1
    have qS := shA_of hS
    have cS : (nI S).toNatClampNeg = S := nI_clamp (by omega)
    have eS := e_shelfAt (X := X) (d := d) (mu := mu) (la := la) (et := et) hr hS
    by_cases c2 : -1 ≤ b ∧ b ≤ nI n - 1
    · rw [if_pos ⟨c1, c2⟩, if_pos ⟨c1, c2⟩, cS]
      simp only [r_MTo_keep_0, r_MTo_keep_1, r_MTo_keep_2, r_MTo_keep_5, r_MTo_keep_5n, r_MTo_keep_6, r_MTo_keep_6n, r_MTo_keep_7, r_MTo_keep_7n, r_MTo_keep_10, r_MTo_keep_11, r_MTo_keep_12, r_MTo_keep_13, r_MTo_keep_16, r_MTo_keep_19, r_MTo_keep_20, r_MTo_keep_21, r_MTo_keep_24, r_MTo_keep_27, r_MTo_keep_28, r_MTo_keep_29, r_MTo_keep_29n, r_MTo_keep_30, r_MTo_keep_31, r_MTo_keep_34, r_MTo_keep_35, sL_0, sL_1, sL_2, mk_i, mk_r, mk_f, mk_n, mk_u, mk_l, List.set_cons_succ, List.set_cons_zero, Nat.reduceAdd, ckS_0, ckS_1, ckS_2, ckS_3, ckS_4, Option.bind_some, Option.isSome_some, psh, if_true, if_false, i10, not_true_eq_false, not_false_eq_true, Bool.false_eq_true, and_self, and_true, true_and, eq_self, qI_0_9, qI_0_10, qI_16_2, qI_16_3, qI_16_4, qI_16_5, qR_0_0, qRd_0_0, qR_0_1, qRd_0_1, qR_0_2, qRd_0_2, qR_0_3, qRd_0_3, qR_0_4, qRd_0_4, qR_0_5, qRd_0_5, qR_0_6, qRd_0_6, qR_0_7, qRd_0_7, qR_0_8, qRd_0_8, qR_16_0, qRd_16_0, qR_16_1, qRd_16_1, qO_0, qO_16, eS, e_isWithin, h, c2, qS.1.1, e_hold qS]
    · rw [if_neg (fun q => c2 q.2), if_neg (fun q => c2 q.2)]
      simp only [r_MTo_keep_0, r_MTo_keep_1, r_MTo_keep_2, r_MTo_keep_5, r_MTo_keep_5n, r_MTo_keep_6, r_MTo_keep_6n, r_MTo_keep_7, r_MTo_keep_7n, r_MTo_keep_10, r_MTo_keep_11, r_MTo_keep_12, r_MTo_keep_13, r_MTo_keep_16, r_MTo_keep_19, r_MTo_keep_20, r_MTo_keep_21, r_MTo_keep_24, r_MTo_keep_27, r_MTo_keep_28, r_MTo_keep_29, r_MTo_keep_29n, r_MTo_keep_30, r_MTo_keep_31, r_MTo_keep_34, r_MTo_keep_35, sL_0, sL_1, sL_2, mk_i, mk_r, mk_f, mk_n, mk_u, mk_l, List.set_cons_succ, List.set_cons_zero, Nat.reduceAdd, ckS_0, ckS_1, ckS_2, ckS_3, ckS_4, Option.bind_some, Option.isSome_some, psh, if_true, if_false, i10, not_true_eq_false, not_false_eq_true, Bool.false_eq_true, and_self, and_true, true_and, eq_self, qI_0_9, qI_0_10, qI_16_2, qI_16_3, qI_16_4, qI_16_5, qR_0_0, qRd_0_0, qR_0_1, qRd_0_1, qR_0_2, qRd_0_2, qR_0_3, qRd_0_3, qR_0_4, qRd_0_4, qR_0_5, qRd_0_5, qR_0_6, qRd_0_6, qR_0_7, qRd_0_7, qR_0_8, qRd_0_8, qR_16_0, qRd_16_0, qR_16_1, qRd_16_1, qO_0, qO_16, eS, e_isWithin, h, c2]
  · rw [if_neg (fun q => c1 q.1), if_neg (fun q => c1 q.1)]
    simp only [r_MTo_keep_0, r_MTo_keep_1, r_MTo_keep_2, r_MTo_keep_5, r_MTo_keep_5n, r_MTo_keep_6, r_MTo_keep_6n, r_MTo_keep_7, r_MTo_keep_7n, r_MTo_keep_10, r_MTo_keep_11, r_MTo_keep_12, r_MTo_keep_13, r_MTo_keep_16, r_MTo_keep_19, r_MTo_keep_20, r_MTo_keep_21, r_MTo_keep_24, r_MTo_keep_27, r_MTo_keep_28, r_MTo_keep_29, r_MTo_keep_29n, r_MTo_keep_30, r_MTo_keep_31, r_MTo_keep_34, r_MTo_keep_35, sL_0, sL_1, sL_2, mk_i, mk_r, mk_f, mk_n, mk_u, mk_l, List.set_cons_succ, List.set_cons_zero, Nat.reduceAdd, ckS_0, ckS_1, ckS_2, ckS_3, ckS_4, Option.bind_some, Option.isSome_some, psh, if_true, if_false, i10, not_true_eq_false, not_false_eq_true, Bool.false_eq_true, and_self, and_true, true_and, eq_self, qI_0_9, qI_0_10, qR_0_0, qRd_0_0, qR_0_1, qRd_0_1, qR_0_2, qRd_0_2, qR_0_3, qRd_0_3, qR_0_4, qRd_0_4, qR_0_5, qRd_0_5, qR_0_6, qRd_0_6, qR_0_7, qRd_0_7, qR_0_8, qRd_0_8, qO_0, e_shelfNo c1]
theorem x_keepM {n : Nat} {s b : Int32} (hn : n ≤ 50) (h : mu 81 51 = nI n) : Rr X (d + 2) MRm_keep 0 [.ref 81, .int s, .int b] [] (Wd mu la ro et) = some (some (.int (kpR s b n)), Wd (kpM mu s b n) la ro et) := by
  unfold kpR kpM
  by_cases c1 : 0 ≤ s ∧ s ≤ 5
  · obtain ⟨S, hS, rfl⟩ := i_06 c1
    have cS : (nI S).toNatClampNeg = S := nI_clamp (by omega)
    have iS := ix (j := S) (N := 6) hS (by decide)
    have c1' : 0 ≤ nI S ∧ nI S ≤ 5 := c1
    by_cases c2 : b = -1
    · have c4 := (bd_iff hn).mpr (.inl c2)
      rw [if_pos ⟨c1, c4⟩, if_pos ⟨c1, c4⟩]
      subst c2
      simp only [r_MRm_keep_0, r_MRm_keep_1, r_MRm_keep_4, r_MRm_keep_7, r_MRm_keep_8, r_MRm_keep_9, r_MRm_keep_12, r_MRm_keep_13, r_MRm_keep_14, r_MRm_keep_17, r_MRm_keep_20, r_MRm_keep_21, r_MRm_keep_22, r_MRm_keep_23, r_MRm_keep_26, r_MRm_keep_27, r_MRm_keep_28, r_MRm_keep_29, r_MRm_keep_30, sL_0, sL_1, sL_2, mk_i, mk_r, mk_f, mk_n, mk_u, mk_l, List.set_cons_succ, List.set_cons_zero, Nat.reduceAdd, ckS_0, ckS_1, ckS_2, ckS_3, ckS_4, Option.bind_some, Option.isSome_some, psh, if_true, if_false, i10, not_true_eq_false, not_false_eq_true, Bool.false_eq_true, and_self, and_true, true_and, eq_self, qI_81_0, qI_81_2, qI_81_3, qI_81_9, qI_81_10, qI_81_11, qI_81_12, qI_81_13, qI_81_18, qI_81_19, qI_81_20, qI_81_21, qI_81_29, qI_81_30, qI_81_31, qI_81_32, qI_81_33, qI_81_34, qI_81_35, qI_81_39, qI_81_40, qI_81_41, qI_81_42, qI_81_43, qI_81_44, qI_81_45, qI_81_46, qI_81_47, qI_81_51, qI_81_53, qR_81_1, qRd_81_1, qR_81_4, qRd_81_4, qR_81_5, qRd_81_5, qR_81_6, qRd_81_6, qR_81_7, qRd_81_7, qR_81_8, qRd_81_8, qR_81_14, qRd_81_14, qR_81_15, qRd_81_15, qR_81_16, qRd_81_16, qR_81_17, qRd_81_17, qR_81_22, qRd_81_22, qR_81_23, qRd_81_23, qR_81_24, qRd_81_24, qR_81_25, qRd_81_25, qR_81_26, qRd_81_26, qR_81_27, qRd_81_27, qR_81_28, qRd_81_28, qR_81_36, qRd_81_36, qR_81_37, qRd_81_37, qR_81_38, qRd_81_38, qR_81_48, qRd_81_48, qR_81_49, qRd_81_49, qR_81_50, qRd_81_50, qR_81_52, qRd_81_52, qR_81_54, qRd_81_54, qR_81_55, qRd_81_55, qR_81_56, qRd_81_56, qR_81_57, qRd_81_57, qR_81_58, qRd_81_58, qA_107, qAd_107, qO_81, qL_107, qLd_107, e_isShelf, c1', cS, iS]
    · by_cases c3 : 0 ≤ b ∧ b ≤ nI n - 1
      · have c4 := (bd_iff hn).mpr (.inr c3)
        rw [if_pos ⟨c1, c4⟩, if_pos ⟨c1, c4⟩]
        simp only [r_MRm_keep_0, r_MRm_keep_1, r_MRm_keep_4, r_MRm_keep_7, r_MRm_keep_8, r_MRm_keep_9, r_MRm_keep_12, r_MRm_keep_13, r_MRm_keep_14, r_MRm_keep_17, r_MRm_keep_20, r_MRm_keep_21, r_MRm_keep_22, r_MRm_keep_23, r_MRm_keep_26, r_MRm_keep_27, r_MRm_keep_28, r_MRm_keep_29, r_MRm_keep_30, sL_0, sL_1, sL_2, mk_i, mk_r, mk_f, mk_n, mk_u, mk_l, List.set_cons_succ, List.set_cons_zero, Nat.reduceAdd, ckS_0, ckS_1, ckS_2, ckS_3, ckS_4, Option.bind_some, Option.isSome_some, psh, if_true, if_false, i10, not_true_eq_false, not_false_eq_true, Bool.false_eq_true, and_self, and_true, true_and, eq_self, qI_81_0, qI_81_2, qI_81_3, qI_81_9, qI_81_10, qI_81_11, qI_81_12, qI_81_13, qI_81_18, qI_81_19, qI_81_20, qI_81_21, qI_81_29, qI_81_30, qI_81_31, qI_81_32, qI_81_33, qI_81_34, qI_81_35, qI_81_39, qI_81_40, qI_81_41, qI_81_42, qI_81_43, qI_81_44, qI_81_45, qI_81_46, qI_81_47, qI_81_51, qI_81_53, qR_81_1, qRd_81_1, qR_81_4, qRd_81_4, qR_81_5, qRd_81_5, qR_81_6, qRd_81_6, qR_81_7, qRd_81_7, qR_81_8, qRd_81_8, qR_81_14, qRd_81_14, qR_81_15, qRd_81_15, qR_81_16, qRd_81_16, qR_81_17, qRd_81_17, qR_81_22, qRd_81_22, qR_81_23, qRd_81_23, qR_81_24, qRd_81_24, qR_81_25, qRd_81_25, qR_81_26, qRd_81_26, qR_81_27, qRd_81_27, qR_81_28, qRd_81_28, qR_81_36, qRd_81_36, qR_81_37, qRd_81_37, qR_81_38, qRd_81_38, qR_81_48, qRd_81_48, qR_81_49, qRd_81_49, qR_81_50, qRd_81_50, qR_81_52, qRd_81_52, qR_81_54, qRd_81_54, qR_81_55, qRd_81_55, qR_81_56, qRd_81_56, qR_81_57, qRd_81_57, qR_81_58, qRd_81_58, qA_107, qAd_107, qO_81, qL_107, qLd_107, e_isShelf, e_isBody h, c1', c2, c3, cS, iS]
      · have c4 : ¬ ((0 ≤ nI S ∧ nI S ≤ 5) ∧ (-1 ≤ b ∧ b ≤ nI n - 1)) := fun q => ((bd_iff hn).mp q.2).elim c2 c3
        rw [if_neg c4, if_neg c4]
        simp only [r_MRm_keep_0, r_MRm_keep_1, r_MRm_keep_4, r_MRm_keep_7, r_MRm_keep_8, r_MRm_keep_9, r_MRm_keep_12, r_MRm_keep_13, r_MRm_keep_14, r_MRm_keep_17, r_MRm_keep_20, r_MRm_keep_21, r_MRm_keep_22, r_MRm_keep_23, r_MRm_keep_26, r_MRm_keep_27, r_MRm_keep_28, r_MRm_keep_29, r_MRm_keep_30, sL_0, sL_1, sL_2, mk_i, mk_r, mk_f, mk_n, mk_u, mk_l, List.set_cons_succ, List.set_cons_zero, Nat.reduceAdd, ckS_0, ckS_1, ckS_2, ckS_3, ckS_4, Option.bind_some, Option.isSome_some, psh, if_true, if_false, i10, not_true_eq_false, not_false_eq_true, Bool.false_eq_true, and_self, and_true, true_and, eq_self, qI_81_0, qI_81_2, qI_81_3, qI_81_9, qI_81_10, qI_81_11, qI_81_12, qI_81_13, qI_81_18, qI_81_19, qI_81_20, qI_81_21, qI_81_29, qI_81_30, qI_81_31, qI_81_32, qI_81_33, qI_81_34, qI_81_35, qI_81_39, qI_81_40, qI_81_41, qI_81_42, qI_81_43, qI_81_44, qI_81_45, qI_81_46, qI_81_47, qI_81_51, qI_81_53, qR_81_1, qRd_81_1, qR_81_4, qRd_81_4, qR_81_5, qRd_81_5, qR_81_6, qRd_81_6, qR_81_7, qRd_81_7, qR_81_8, qRd_81_8, qR_81_14, qRd_81_14, qR_81_15, qRd_81_15, qR_81_16, qRd_81_16, qR_81_17, qRd_81_17, qR_81_22, qRd_81_22, qR_81_23, qRd_81_23, qR_81_24, qRd_81_24, qR_81_25, qRd_81_25, qR_81_26, qRd_81_26, qR_81_27, qRd_81_27, qR_81_28, qRd_81_28, qR_81_36, qRd_81_36, qR_81_37, qRd_81_37, qR_81_38, qRd_81_38, qR_81_48, qRd_81_48, qR_81_49, qRd_81_49, qR_81_50, qRd_81_50, qR_81_52, qRd_81_52, qR_81_54, qRd_81_54, qR_81_55, qRd_81_55, qR_81_56, qRd_81_56, qR_81_57, qRd_81_57, qR_81_58, qRd_81_58, qA_107, qAd_107, qO_81, qL_107, qLd_107, e_isShelf, e_isBody h, c1', c2, c3]
  · rw [if_neg (fun q => c1 q.1), if_neg (fun q => c1 q.1)]
    simp only [r_MRm_keep_0, r_MRm_keep_1, r_MRm_keep_4, r_MRm_keep_7, r_MRm_keep_8, r_MRm_keep_9, r_MRm_keep_12, r_MRm_keep_13, r_MRm_keep_14, r_MRm_keep_17, r_MRm_keep_20, r_MRm_keep_21, r_MRm_keep_22, r_MRm_keep_23, r_MRm_keep_26, r_MRm_keep_27, r_MRm_keep_28, r_MRm_keep_29, r_MRm_keep_30, sL_0, sL_1, sL_2, mk_i, mk_r, mk_f, mk_n, mk_u, mk_l, List.set_cons_succ, List.set_cons_zero, Nat.reduceAdd, ckS_0, ckS_1, ckS_2, ckS_3, ckS_4, Option.bind_some, Option.isSome_some, psh, if_true, if_false, i10, not_true_eq_false, not_false_eq_true, Bool.false_eq_true, and_self, and_true, true_and, eq_self, qI_81_0, qI_81_2, qI_81_3, qI_81_9, qI_81_10, qI_81_11, qI_81_12, qI_81_13, qI_81_18, qI_81_19, qI_81_20, qI_81_21, qI_81_29, qI_81_30, qI_81_31, qI_81_32, qI_81_33, qI_81_34, qI_81_35, qI_81_39, qI_81_40, qI_81_41, qI_81_42, qI_81_43, qI_81_44, qI_81_45, qI_81_46, qI_81_47, qI_81_51, qI_81_53, qR_81_1, qRd_81_1, qR_81_4, qRd_81_4, qR_81_5, qRd_81_5, qR_81_6, qRd_81_6, qR_81_7, qRd_81_7, qR_81_8, qRd_81_8, qR_81_14, qRd_81_14, qR_81_15, qRd_81_15, qR_81_16, qRd_81_16, qR_81_17, qRd_81_17, qR_81_22, qRd_81_22, qR_81_23, qRd_81_23, qR_81_24, qRd_81_24, qR_81_25, qRd_81_25, qR_81_26, qRd_81_26, qR_81_27, qRd_81_27, qR_81_28, qRd_81_28, qR_81_36, qRd_81_36, qR_81_37, qRd_81_37, qR_81_38, qRd_81_38, qR_81_48, qRd_81_48, qR_81_49, qRd_81_49, qR_81_50, qRd_81_50, qR_81_52, qRd_81_52, qR_81_54, qRd_81_54, qR_81_55, qRd_81_55, qR_81_56, qRd_81_56, qR_81_57, qRd_81_57, qR_81_58, qRd_81_58, qA_107, qAd_107, qO_81, qL_107, qLd_107, e_isShelf, c1]
abbrev wKpC : WS := [(69, 2), (69, 3), (69, 4), (71, 2), (71, 3), (71, 4), (73, 2), (73, 3), (73, 4), (75, 2), (75, 3), (75, 4), (77, 2), (77, 3), (77, 4), (79, 2), (79, 3), (79, 4)]
theorem wk_in {S : Nat} (h : S < 6) : wIn wKpC (69 + 2 * S) (1 + 1) = true ∧ wIn wKpC (69 + 2 * S) (2 + 1) = true ∧ wIn wKpC (69 + 2 * S) (3 + 1) = true := by
  match S, h with
  | 0, _ => decide
  | 1, _ => decide
  | 2, _ => decide
  | 3, _ => decide
  | 4, _ => decide
  | 5, _ => decide
theorem iv_sh {S : Nat} (h : S < 6) : ivL ivG (69 + 2 * S) 0 = (iLo, iHi) ∧ ivL ivG (69 + 2 * S) (1 + 1) = (iLo, iHi) ∧ ivL ivG (69 + 2 * S) (2 + 1) = (iLo, iHi) ∧ ivL ivG (69 + 2 * S) (3 + 1) = (0, 60) := by
  match S, h with
  | 0, _ => decide
  | 1, _ => decide
  | 2, _ => decide
  | 3, _ => decide
  | 4, _ => decide
  | 5, _ => decide
/-- the three fields of a shelf of the class set -/
noncomputable def st3 (mu : Mu) (S : Nat) (x y z : Int32) : Mu := up2 (up2 (up2 mu (69 + 2 * S) 1 x) (69 + 2 * S) 2 y) (69 + 2 * S) 3 z
theorem st3_fr {S : Nat} {x y z : Int32} (h : S < 6) : frm wKpC mu la ro (st3 mu S x y z) la ro := by
  obtain ⟨q1, q2, q3⟩ := wk_in h
  exact frm_t (frm_t (frm_up (k := 1) (.inr q1)) (frm_up (k := 2) (.inr q2))) (frm_up (k := 3) (.inr q3))
theorem st3_g {S : Nat} {x y z : Int32} (h : S < 6) (hg : gOk ivG mu) (hz : 0 ≤ z.toInt ∧ z.toInt ≤ 60) : gOk ivG (st3 mu S x y z) := by
  obtain ⟨q0, q1, q2, q3⟩ := iv_sh h
  unfold st3
  refine gOk_up (gOk_up (gOk_up hg ?_ ?_) ?_ ?_) ?_ ?_
  · rw [q0]; exact top_ok _
  · rw [q1]; exact top_ok _
  · rw [q0]; exact top_ok _
  · rw [q2]; exact top_ok _
  · rw [q0]; exact top_ok _
  · rw [q3]; exact hz
theorem st3_c {S c j : Nat} {x y z : Int32} : st3 mu S x y z c j = if c = 69 + 2 * S ∧ j = 3 then z else if c = 69 + 2 * S ∧ j = 2 then y else if c = 69 + 2 * S ∧ j = 1 then x else mu c j := by
  unfold st3
  rw [up2_e, up2_e, up2_e]
/-- both sides' shelf S set, the other shelves as they were -/
theorem sh_set {n S S' : Nat} {x y z p q : Int32} (hS : S < 6) (hS' : S' < 6) (h : ¬ S' = S) (q0 : shS n mu S') : shS n (up2 (up2 (st3 mu S x y z) 107 S p) 108 S q) S' := by
  have e : ∀ k, up2 (up2 (st3 mu S x y z) 107 S p) 108 S q (69 + 2 * S') k = mu (69 + 2 * S') k := fun k => by
    rw [up2_e, if_neg (by omega), up2_e, if_neg (by omega), st3_c, if_neg (by omega), if_neg (by omega), if_neg (by omega)]
  refine shS_e (Nat.le_refl n) ?_ ?_ (e 1) (e 2) (e 3) q0
  · rw [up2_e, if_neg (by omega), up2_e, if_neg (by omega), st3_c, if_neg (by omega), if_neg (by omega), if_neg (by omega)]
  · rw [up2_e, if_neg (by omega), up2_e, if_neg (by omega), st3_c, if_neg (by omega), if_neg (by omega), if_neg (by omega)]
theorem sh_own {S : Nat} {x y z p q : Int32} (hS : S < 6) : up2 (up2 (st3 mu S x y z) 107 S p) 108 S q 107 S = p ∧ up2 (up2 (st3 mu S x y z) 107 S p) 108 S q 108 S = q ∧ up2 (up2 (st3 mu S x y z) 107 S p) 108 S q (69 + 2 * S) 1 = x ∧ up2 (up2 (st3 mu S x y z) 107 S p) 108 S q (69 + 2 * S) 2 = y ∧ up2 (up2 (st3 mu S x y z) 107 S p) 108 S q (69 + 2 * S) 3 = z := by
  refine ⟨?_, up2_s _ _ _ _, ?_, ?_, ?_⟩
  · rw [up2_e, if_neg (by omega), up2_s]
  · rw [up2_e, if_neg (by omega), up2_e, if_neg (by omega), st3_c, if_neg (by omega), if_neg (by omega), if_pos ⟨rfl, rfl⟩]
  · rw [up2_e, if_neg (by omega), up2_e, if_neg (by omega), st3_c, if_neg (by omega), if_pos ⟨rfl, rfl⟩]
  · rw [up2_e, if_neg (by omega), up2_e, if_neg (by omega), st3_c, if_pos ⟨rfl, rfl⟩]
theorem up2_id {a k : Nat} : up2 mu a k (mu a k) = mu := by
  refine funext fun c => funext fun j => ?_
  rw [up2_e]
  split
  · rename_i q
    rw [q.1, q.2]
  · rfl
theorem sh_iv {S : Nat} {p q : Int32} (hg : gOk ivG mu) (hp : -6 ≤ p.toInt ∧ p.toInt ≤ 49) (hq : 0 ≤ q.toInt ∧ q.toInt ≤ 60) : gOk ivG (up2 (up2 mu 107 S p) 108 S q) := gOk_r (gOk_r hg (by decide) hp) (by decide) hq
theorem sh_fr {S : Nat} {x y z p q : Int32} (h : S < 6) : frm (wKpC ++ [(107, 0), (108, 0)]) mu la ro (up2 (up2 (st3 mu S x y z) 107 S p) 108 S q) la ro :=
  frm_t (frm_t (frm_s (by decide) (st3_fr h)) (frm_up (k := S) (.inl (by decide)))) (frm_up (k := S) (.inl (by decide)))
theorem kp_ok {n : Nat} {s b : Int32} (hn : n ≤ 50) (hb : RBn n mu) (hs : ∀ S, S < 6 → shS n mu S) (hg : gOk ivG mu) (hj : JB mu la ro) : (gOk ivG (kpM (kpC mu s b n) s b n) ∧ JB (kpM (kpC mu s b n) s b n) la ro) ∧ RShf (kpM (kpC mu s b n) s b n) la ro := by
  by_cases c : (0 ≤ s ∧ s ≤ 5) ∧ (-1 ≤ b ∧ b ≤ nI n - 1)
  · obtain ⟨S, hS, rfl⟩ := i_06 c.1
    have cS : (nI S).toNatClampNeg = S := nI_clamp (by omega)
    have e : kpM (kpC mu (nI S) b n) (nI S) b n = up2 (up2 (st3 mu S b (-1) 0) 107 S b) 108 S (mu 108 S) := by
      have e1 : up2 (st3 mu S b (-1) 0) 107 S b 108 S = mu 108 S := by
        rw [up2_e, if_neg (by omega), st3_c, if_neg (by omega), if_neg (by omega), if_neg (by omega)]
      have e2 := up2_id (mu := up2 (st3 mu S b (-1) 0) 107 S b) (a := 108) (k := S)
      rw [e1] at e2
      rw [e2]
      unfold kpM kpC st3
      rw [if_pos c, if_pos c, cS]
    have hz : 0 ≤ (0 : Int32).toInt ∧ (0 : Int32).toInt ≤ 60 := by decide
    have e1 := bd_n1 hn
    have e2 : (-1 : Int32).toInt = -1 := rfl
    have cb := c.2
    rw [Int32.le_iff_toInt_le, Int32.le_iff_toInt_le, e1, e2] at cb
    have f := sh_fr (mu := mu) (la := la) (ro := ro) (x := b) (y := -1) (z := 0) (p := b) (q := mu 108 S) hS
    obtain ⟨o1, o2, o3, o4, o5⟩ := sh_own (mu := mu) (x := b) (y := -1) (z := 0) (p := b) (q := mu 108 S) hS
    rw [e]
    refine ⟨⟨sh_iv (st3_g hS hg hz) (by omega) (hg 108 S).1, JS_B _ (by decide) _ _ _ _ _ _ f hj⟩, n, hn, RBn_f (by decide) f hb, fun S' hS' => ?_⟩
    by_cases q : S' = S
    · subst q
      by_cases q2 : b = -1
      · exact .inl ⟨o1.trans q2, o3.trans q2, o4⟩
      · have q3 : ¬ b < 0 := fun q4 => q2 (by
          rw [Int32.lt_iff_toInt_lt, show (0 : Int32).toInt = 0 from rfl] at q4
          exact Int32.toInt_inj.mp (by rw [e2]; omega))
        obtain ⟨B, hB, rfl⟩ := nI_of q3
        rw [nI_toInt hB] at cb
        exact .inr (.inl ⟨B, by omega, o1, o3, o4⟩)
    · exact sh_set hS hS' q (hs S' hS')
  · have e : kpM (kpC mu s b n) s b n = mu := by
      unfold kpM kpC
      rw [if_neg c, if_neg c]
    rw [e]
    exact ⟨⟨hg, hj⟩, n, hn, hb, hs⟩
theorem kp_51 {n : Nat} {s b : Int32} (h : mu 81 51 = nI n) : kpC mu s b n 81 51 = nI n := by
  unfold kpC
  split
  · rw [up2_e, if_neg (by omega), up2_e, if_neg (by omega), up2_e, if_neg (by omega)]
    exact h
  · exact h
-- row
theorem rw_ok {mu1 mu2 : Mu} {la1 la2 : La} {s t n : Int32} (hq : RShf mu la ro) (hg : gOk ivG mu) (hj : JB mu la ro)
    (h1 : (rwOk s t n = true ∧ 0 ≤ n ∧ ∃ S N, S < 6 ∧ N ≤ 60 ∧ s = nI S ∧ n = nI N ∧ mu1 = rowMu mu (69 + 2 * S) t n ∧ la1 = zrJ la (69 + 2 * S + 1) 0 N) ∨ (¬ (rwOk s t n = true ∧ 0 ≤ n) ∧ mu1 = mu ∧ la1 = la))
    (h2 : (rwOk s t n = true ∧ 0 ≤ n ∧ ∃ S N, S < 6 ∧ N ≤ 60 ∧ s = nI S ∧ n = nI N ∧ mu2 = up2 (up2 mu1 107 S (-2 - t)) 108 S n ∧ la2 = zrJ la1 109 (60 * S) (60 * S + 60)) ∨ (¬ (rwOk s t n = true ∧ 0 ≤ n) ∧ mu2 = mu1 ∧ la2 = la1)) : (gOk ivG mu2 ∧ JB mu2 la2 ro) ∧ RShf mu2 la2 ro := by
  rcases h1 with ⟨a1, a2, S, N, hS, hN, rfl, rfl, rfl, rfl⟩ | ⟨a1, rfl, rfl⟩
  · rcases h2 with ⟨_, _, S', N', hS', hN', e1, e2, rfl, rfl⟩ | ⟨b1, _, _⟩
    · have : S' = S := (nI_eq (by omega) (by omega)).mp e1.symm
      subst this
      have c := (of_decide_eq_true a1).2.1
      obtain ⟨T, hT, rfl⟩ : ∃ T : Nat, T ≤ 4 ∧ t = nI T := nI_of2 (M := 4) (n := 4) rfl (Int32.not_lt.mpr c.1) c.2
      have e : rowMu mu (69 + 2 * S') (nI T) (nI N) = st3 mu S' (-1) (nI T) (nI N) := rfl
      rw [e]
      have eN : (nI N).toInt = (N : Int) := nI_toInt (by omega)
      have eT : (-2 - nI T).toInt = -2 - (T : Int) := by
        rw [Int32.toInt_sub, nI_toInt (by omega), show (-2 : Int32).toInt = -2 from rfl]
        exact Int.bmod_eq_of_le (by omega) (by omega)
      have hz : 0 ≤ (nI N).toInt ∧ (nI N).toInt ≤ 60 := by omega
      have hp : -6 ≤ (-2 - nI T).toInt ∧ (-2 - nI T).toInt ≤ 49 := by omega
      have f := sh_fr (mu := mu) (la := la) (ro := ro) (x := -1) (y := nI T) (z := nI N) (p := -2 - nI T) (q := nI N) hS
      obtain ⟨o1, o2, o3, o4, o5⟩ := sh_own (mu := mu) (x := -1) (y := nI T) (z := nI N) (p := -2 - nI T) (q := nI N) hS
      have j2 : JB (up2 (up2 (st3 mu S' (-1) (nI T) (nI N)) 107 S' (-2 - nI T)) 108 S' (nI N)) la ro := JS_B _ (by decide) _ _ _ _ _ _ f hj
      obtain ⟨n, hn, hb, hs⟩ := hq
      refine ⟨⟨sh_iv (st3_g hS hg hz) hp hz, j2⟩, n, hn, RBn_f (by decide) f hb, fun S2 hS2 => ?_⟩
      by_cases q : S2 = S'
      · subst q
        exact .inr (.inr ⟨T, N, hT, hN, o1, o3, o4, o5, o2⟩)
      · exact sh_set hS hS2 q (hs S2 hS2)
    · exact absurd ⟨a1, a2⟩ b1
  · rcases h2 with ⟨b1, b2, _⟩ | ⟨_, rfl, rfl⟩
    · exact absurd ⟨b1, b2⟩ a1
    · exact ⟨⟨hg, hj⟩, hq⟩
end
