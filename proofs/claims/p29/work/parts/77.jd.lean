-- ===== screws, lightest, on both sides
noncomputable def cI (j : Nat) : Int32 := nI j - 9
noncomputable def scY (K : Nat → Nat → Int32) (v : Int32) (i : Nat) : Nat → Nat → Option Int32
  | 0, _ => none
  | r + 1, j => if K i j < v then scY K v i r (j + 1) else some (100 * (cI i + 9) + cI j + 9)
noncomputable def scX (K : Nat → Nat → Int32) (v : Int32) : Nat → Nat → Option Int32
  | 0, _ => none
  | r + 1, i => match scY K v i 19 0 with
    | some x => some x
    | none => scX K v r (i + 1)
noncomputable def scR (K : Nat → Nat → Int32) (v : Int32) : Int32 := (scX K v 19 0).getD (-2)
noncomputable def lgL (R : Nat → Int32) : Nat → Nat → Int32
  | 0, _ => -2
  | r + 1, k => if R k < 0 then lgL R r (k + 1) else nI k
noncomputable def sM (m : Mu) (k x y : Int32) : Mu := up2 (up2 (up2 m 81 9 k) 81 10 x) 81 11 y
noncomputable def knK (m : Mu) (a : Nat) (k : Int32) (i j : Nat) : Int32 := knW m a k (cI i) (cI j)
section
variable {X : Tok} {d : Nat} {mu m mu' : Mu} {la la' : La} {ro ro' : Ro} {et : Nat → Option va_E} {a S L n : Nat} {s w v k x y : Int32}
theorem cI_0 : cI 0 = -9 := by decide +kernel
theorem cI_s : ∀ j, j < 20 → cI j + 1 = cI (j + 1) := by decide +kernel
theorem cI_9 : ∀ j, j < 19 → ¬ 9 < cI j := by decide +kernel
theorem cI_19 : 9 < cI 19 := by decide +kernel
theorem vI_p : ∀ i, i < 19 → ∀ j, j < 19 → ¬ 100 * (cI i + 9) + cI j + 9 < 0 := by decide +kernel
theorem cI_10 : (9 : Int32) < 10 := by decide
theorem scY_p {K : Nat → Nat → Int32} {i : Nat} (hi : i < 19) : ∀ (r j : Nat) (z : Int32), j + r = 19 → scY K v i r j = some z → ¬ z < 0
  | 0, _, _, _, h => by cases h
  | r + 1, j, z, hj, h => by
    rw [scY] at h
    split at h
    · exact scY_p hi r (j + 1) z (by omega) h
    · cases h
      exact vI_p i hi j (by omega)
-- the class
theorem c_scY (qa : snA a) {i : Nat} (hi : i < 19) : ∀ (r j : Nat), j + r = 19 → Rr X (d + 2) MSt_screwPlace 13 [.ref a, .int k, .int v, .int (cI i), .int (cI j)] [] (Wd m la ro et) = match scY (knK m a k) v i r j with
    | some z => some (some (.int z), Wd m la ro et)
    | none => Rr X (d + 2) MSt_screwPlace 52 [.ref a, .int k, .int v, .int (cI i), .int (cI 19)] [] (Wd m la ro et) := by
  have o1 := qa.1.1
  intro r
  induction r with
  | zero =>
    intro j hj
    have : j = 19 := by omega
    subst this
    have z := cI_19
    rw [scY, r_MSt_screwPlace_13]
    simp only [r_MSt_screwPlace_15, r_MSt_screwPlace_17, sL_0, sL_1, sL_2, mk_i, mk_r, mk_f, mk_n, mk_u, mk_l, List.set_cons_succ, List.set_cons_zero, Nat.reduceAdd, ckS_0, ckS_1, ckS_2, ckS_3, ckS_4, Option.bind_some, Option.isSome_some, psh, if_true, if_false, i10, not_true_eq_false, not_false_eq_true, Bool.false_eq_true, and_self, and_true, true_and, eq_self, z]
  | succ r ih =>
    intro j hj
    have z := cI_9 j (by omega)
    have ek := e_keenWith (X := X) (d := d) (m := m) (la := la) (ro := ro) (et := et) (k := k) (x := cI i) (y := cI j) qa
    have ek' : Rr X (d + 1) MSt_keenWith 0 [.ref a, .int k, .int (cI i), .int (cI j), mkU, mkU, mkU, mkU, mkU] [] (Wd m la ro et) = some (some (.int (knK m a k i j)), Wd m la ro et) := ek
    have nx := ih (j + 1) (by omega)
    have ej := cI_s j (by omega)
    rw [scY, r_MSt_screwPlace_13]
    by_cases c : knK m a k i j < v
    · rw [if_pos c, ← nx]
      simp only [r_MSt_screwPlace_15, r_MSt_screwPlace_17, r_MSt_screwPlace_20, r_MSt_screwPlace_21, r_MSt_screwPlace_22, r_MSt_screwPlace_23, r_MSt_screwPlace_25, r_MSt_screwPlace_28, r_MSt_screwPlace_29, r_MSt_screwPlace_32, r_MSt_screwPlace_34, r_MSt_screwPlace_35, r_MSt_screwPlace_37, r_MSt_screwPlace_38, r_MSt_screwPlace_39, r_MSt_screwPlace_41, r_MSt_screwPlace_42, r_MSt_screwPlace_44, r_MSt_screwPlace_45, r_MSt_screwPlace_46, r_MSt_screwPlace_49, sL_0, sL_1, sL_2, mk_i, mk_r, mk_f, mk_n, mk_u, mk_l, List.set_cons_succ, List.set_cons_zero, Nat.reduceAdd, ckS_0, ckS_1, ckS_2, ckS_3, ckS_4, Option.bind_some, Option.isSome_some, psh, if_true, if_false, i10, not_true_eq_false, not_false_eq_true, Bool.false_eq_true, and_self, and_true, true_and, eq_self, z, o1, ek', c, ej]
    · rw [if_neg c]
      simp only [r_MSt_screwPlace_15, r_MSt_screwPlace_17, r_MSt_screwPlace_20, r_MSt_screwPlace_21, r_MSt_screwPlace_22, r_MSt_screwPlace_23, r_MSt_screwPlace_25, r_MSt_screwPlace_28, r_MSt_screwPlace_29, r_MSt_screwPlace_32, r_MSt_screwPlace_34, r_MSt_screwPlace_35, r_MSt_screwPlace_37, r_MSt_screwPlace_38, r_MSt_screwPlace_39, r_MSt_screwPlace_41, r_MSt_screwPlace_42, r_MSt_screwPlace_44, r_MSt_screwPlace_45, sL_0, sL_1, sL_2, mk_i, mk_r, mk_f, mk_n, mk_u, mk_l, List.set_cons_succ, List.set_cons_zero, Nat.reduceAdd, ckS_0, ckS_1, ckS_2, ckS_3, ckS_4, Option.bind_some, Option.isSome_some, psh, if_true, if_false, i10, not_true_eq_false, not_false_eq_true, Bool.false_eq_true, and_self, and_true, true_and, eq_self, z, o1, ek', c]
theorem c_scX (qa : snA a) : ∀ (r i : Nat) (l4 : Value), i + r = 19 → Rr X (d + 2) MSt_screwPlace 3 [.ref a, .int k, .int v, .int (cI i), l4] [] (Wd m la ro et) = some (some (.int ((scX (knK m a k) v r i).getD (-2))), Wd m la ro et) := by
  intro r
  induction r with
  | zero =>
    intro i l4 hi
    have : i = 19 := by omega
    subst this
    have z := cI_19
    have e : (scX (knK m a k) v 0 19).getD (-2) = -2 := rfl
    rw [e, r_MSt_screwPlace_3]
    simp only [r_MSt_screwPlace_4, r_MSt_screwPlace_6, r_MSt_screwPlace_58, r_MSt_screwPlace_60, sL_0, sL_1, sL_2, mk_i, mk_r, mk_f, mk_n, mk_u, mk_l, List.set_cons_succ, List.set_cons_zero, Nat.reduceAdd, ckS_0, ckS_1, ckS_2, ckS_3, ckS_4, Option.bind_some, Option.isSome_some, psh, if_true, if_false, i10, not_true_eq_false, not_false_eq_true, Bool.false_eq_true, and_self, and_true, true_and, eq_self, z]
  | succ r ih =>
    intro i l4 hi
    have z := cI_9 i (by omega)
    have e := c_scY (X := X) (d := d) (m := m) (la := la) (ro := ro) (et := et) (k := k) (v := v) qa (show i < 19 by omega) 19 0 rfl
    rw [cI_0] at e
    have nx := ih (i + 1) (.int (cI 19)) (by omega)
    have ej := cI_s i (by omega)
    have st : Rr X (d + 2) MSt_screwPlace 3 [.ref a, .int k, .int v, .int (cI i), l4] [] (Wd m la ro et) = Rr X (d + 2) MSt_screwPlace 13 [.ref a, .int k, .int v, .int (cI i), .int (-9)] [] (Wd m la ro et) := by
      rw [r_MSt_screwPlace_3]
      simp only [r_MSt_screwPlace_4, r_MSt_screwPlace_6, r_MSt_screwPlace_9, r_MSt_screwPlace_11, sL_0, sL_1, sL_2, mk_i, mk_r, mk_f, mk_n, mk_u, mk_l, List.set_cons_succ, List.set_cons_zero, Nat.reduceAdd, ckS_0, ckS_1, ckS_2, ckS_3, ckS_4, Option.bind_some, Option.isSome_some, psh, if_true, if_false, i10, not_true_eq_false, not_false_eq_true, Bool.false_eq_true, and_self, and_true, true_and, eq_self, z]
    rw [st, e, scX]
    cases h : scY (knK m a k) v i 19 0 with
    | some z => rfl
    | none =>
      dsimp only
      rw [← nx]
      simp only [r_MSt_screwPlace_52, r_MSt_screwPlace_55, sL_0, sL_1, sL_2, mk_i, mk_r, mk_f, mk_n, mk_u, mk_l, List.set_cons_succ, List.set_cons_zero, Nat.reduceAdd, ckS_0, ckS_1, ckS_2, ckS_3, ckS_4, Option.bind_some, Option.isSome_some, psh, if_true, if_false, i10, not_true_eq_false, not_false_eq_true, Bool.false_eq_true, and_self, and_true, true_and, eq_self, ej]
theorem e_screwP (qa : snA a) : Rr X (d + 2) MSt_screwPlace 0 [.ref a, .int k, .int v, mkU, mkU] [] (Wd m la ro et) = some (some (.int (scR (knK m a k) v)), Wd m la ro et) := by
  have e := c_scX (X := X) (d := d) (m := m) (la := la) (ro := ro) (et := et) (k := k) (v := v) qa 19 0 mkU rfl
  rw [cI_0] at e
  unfold scR
  rw [← e]
  simp only [r_MSt_screwPlace_0, r_MSt_screwPlace_2, sL_0, sL_1, sL_2, mk_i, mk_r, mk_f, mk_n, mk_u, mk_l, List.set_cons_succ, List.set_cons_zero, Nat.reduceAdd, ckS_0, ckS_1, ckS_2, ckS_3, ckS_4, Option.bind_some, Option.isSome_some, psh, if_true, if_false, i10, not_true_eq_false, not_false_eq_true, Bool.false_eq_true, and_self, and_true, true_and, eq_self]
-- the model
theorem sM_e : m = sM m (m 81 9) (m 81 10) (m 81 11) := by
  refine funext fun c => funext fun j => ?_
  unfold sM
  simp only [up2_e]
  by_cases h1 : c = 81 ∧ j = 11
  · rw [if_pos h1, h1.1, h1.2]
  · rw [if_neg h1]
    by_cases h2 : c = 81 ∧ j = 10
    · rw [if_pos h2, h2.1, h2.2]
    · rw [if_neg h2]
      by_cases h3 : c = 81 ∧ j = 9
      · rw [if_pos h3, h3.1, h3.2]
      · rw [if_neg h3]
theorem sM_9 {k2 : Int32} : up2 (sM m k x y) 81 9 k2 = sM m k2 x y := by
  refine funext fun c => funext fun j => ?_
  unfold sM
  simp only [up2_e]
  by_cases h1 : c = 81 ∧ j = 9
  · rw [if_pos h1, if_neg (by omega), if_neg (by omega), if_pos h1]
  · rw [if_neg h1, if_neg h1, if_neg h1]
theorem sM_xy {x2 y2 : Int32} : up2 (up2 (sM m k x y) 81 10 x2) 81 11 y2 = sM m k x2 y2 := by
  refine funext fun c => funext fun j => ?_
  unfold sM
  simp only [up2_e]
  by_cases h1 : c = 81 ∧ j = 11
  · rw [if_pos h1, if_pos h1]
  · rw [if_neg h1, if_neg h1, if_neg h1]
    by_cases h2 : c = 81 ∧ j = 10
    · rw [if_pos h2, if_pos h2]
    · rw [if_neg h2, if_neg h2, if_neg h2]
theorem sM_o {c j : Nat} (h : ¬ c = 81) : sM m k x y c j = m c j := by
  unfold sM
  rw [up2_a h, up2_a h, up2_a h]
theorem sM_v : sM m k x y 81 9 = k ∧ sM m k x y 81 10 = x ∧ sM m k x y 81 11 = y := by
  unfold sM
  refine ⟨?_, ?_, up2_s _ _ _ _⟩
  · rw [up2_k (by decide), up2_k (by decide), up2_s]
  · rw [up2_k (by decide), up2_s]
theorem StOk_c (h1 : ∀ j, mu' (19 + 5 * S) j = mu (19 + 5 * S) j) (h2 : ∀ r j, r < 4 → mu' (19 + 5 * S + (r + 1)) j = mu (19 + 5 * S + (r + 1)) j) (h3 : mu' 83 S = mu 83 S) (h4 : ∀ j, 12 * S ≤ j → j < 12 * S + 12 → mu' 84 j = mu 84 j ∧ mu' 85 j = mu 85 j ∧ mu' 86 j = mu 86 j) (h5 : ∀ k, 4 * S ≤ k → k < 4 * S + 4 → mu' 87 k = mu 87 k) (q : StOk mu S) : StOk mu' S := by
  obtain ⟨L, l1, l2, l3, l4, l5, s5, s6, s7, s8, s9, s10⟩ := q
  have e1 : ∀ j, mu' (19 + 5 * S + 1) j = mu (19 + 5 * S + 1) j := fun j => h2 0 j (by omega)
  have e2 : ∀ j, mu' (19 + 5 * S + 2) j = mu (19 + 5 * S + 2) j := fun j => h2 1 j (by omega)
  have e3 : ∀ j, mu' (19 + 5 * S + 3) j = mu (19 + 5 * S + 3) j := fun j => h2 2 j (by omega)
  have e4 : ∀ j, mu' (19 + 5 * S + 4) j = mu (19 + 5 * S + 4) j := fun j => h2 3 j (by omega)
  refine ⟨L, l1, (h1 4).trans l2, h3.trans l3, fun j hj => ?_, fun k hk => ?_, ?_⟩
  · obtain ⟨x1, x2, x3⟩ := h4 (12 * S + j) (by omega) (by omega)
    rw [e1, e2, e3, x1, x2, x3]
    exact l4 j hj
  · rw [e4, h5 (4 * S + k) (by omega) (by omega)]
    exact l5 k hk
  · unfold sumsOk
    simp only [h1, e1, e2, e3]
    exact ⟨s5, s6, s7, s8, s9, s10⟩
theorem StOk_sM (hS : S < 6) (q : StOk mu S) : StOk (sM mu k x y) S := StOk_c (fun j => sM_o (by omega)) (fun r j hr => sM_o (by omega)) (sM_o (by decide)) (fun j _ _ => ⟨sM_o (by decide), sM_o (by decide), sM_o (by decide)⟩) (fun j _ _ => sM_o (by decide)) q
theorem e_keenS (hS : S < 6) (q : StOk m S) : Rr X (d + 2) MRm_keenOf 0 [.ref 81, .int (nI S)] [] (Wd (sM m k x y) la ro et) = some (some (.int (knW m (19 + 5 * S) k x y)), Wd (sM m k x y) la ro et) := by
  have q2 := StOk_sM (k := k) (x := x) (y := y) hS q
  obtain ⟨L, l1, l2, l3, _⟩ := id q2
  have e := e_keenOf (X := X) (d := d) (m := sM m k x y) (la := la) (ro := ro) (et := et) hS l1.2 l3
  have ek := (kn_eq q2 l3 l1.2).1
  obtain ⟨v9, v10, v11⟩ := sM_v (m := m) (k := k) (x := x) (y := y)
  have ho : ∀ j, sM m k x y (19 + 5 * S) j = m (19 + 5 * S) j := fun j => sM_o (by omega)
  rw [v9, v10, v11, ho, ho, ho, ho, ho, ho] at ek
  rw [ek] at e
  exact e
theorem m_scY (hS : S < 6) (q : StOk m S) {i : Nat} (hi : i < 19) : ∀ (r j : Nat) (x y : Int32), j + r = 19 → ∃ (x' y' : Int32) (l6 : Value), Rr X (d + 3) MRm_screwed 29 [.ref 81, .int (nI S), .int k, .int v, .int (-2), .int (cI i), .int (cI j)] [] (Wd (sM m k x y) la ro et) = Rr X (d + 3) MRm_screwed 84 [.ref 81, .int (nI S), .int k, .int v, .int ((scY (knK m (19 + 5 * S) k) v i r j).getD (-2)), .int (cI i), l6] [] (Wd (sM m k x' y') la ro et) := by
  have z0 : ((0 : Int32) ≤ -2) = False := eq_false (by decide)
  intro r
  induction r with
  | zero =>
    intro j x y hj
    have : j = 19 := by omega
    subst this
    have z := cI_19
    refine ⟨x, y, .int (cI 19), ?_⟩
    have e : (scY (knK m (19 + 5 * S) k) v i 0 19).getD (-2) = -2 := rfl
    rw [e, r_MRm_screwed_29]
    simp only [r_MRm_screwed_31, r_MRm_screwed_33, sL_0, sL_1, sL_2, mk_i, mk_r, mk_f, mk_n, mk_u, mk_l, List.set_cons_succ, List.set_cons_zero, Nat.reduceAdd, ckS_0, ckS_1, ckS_2, ckS_3, ckS_4, Option.bind_some, Option.isSome_some, psh, if_true, if_false, i10, not_true_eq_false, not_false_eq_true, Bool.false_eq_true, and_self, and_true, true_and, eq_self, z]
  | succ r ih =>
    intro j x y hj
    have z := cI_9 j (by omega)
    have ek := e_keenS (X := X) (d := d) (m := m) (la := la) (ro := ro) (et := et) (k := k) (x := cI i) (y := cI j) hS q
    have ek' : Rr X (d + 2) MRm_keenOf 0 [.ref 81, .int (nI S)] [] (Wd (sM m k (cI i) (cI j)) la ro et) = some (some (.int (knK m (19 + 5 * S) k i j)), Wd (sM m k (cI i) (cI j)) la ro et) := ek
    have ej := cI_s j (by omega)
    have st : Rr X (d + 3) MRm_screwed 29 [.ref 81, .int (nI S), .int k, .int v, .int (-2), .int (cI i), .int (cI j)] [] (Wd (sM m k x y) la ro et) = Rr X (d + 3) MRm_screwed 29 [.ref 81, .int (nI S), .int k, .int v, .int (if knK m (19 + 5 * S) k i j < v then -2 else 100 * (cI i + 9) + cI j + 9), .int (cI i), .int (cI (j + 1))] [] (Wd (sM m k (cI i) (cI j)) la ro et) := by
      rw [r_MRm_screwed_29]
      by_cases c : knK m (19 + 5 * S) k i j < v
      · rw [if_pos c]
        simp only [r_MRm_screwed_31, r_MRm_screwed_33, r_MRm_screwed_36, r_MRm_screwed_38, r_MRm_screwed_41, r_MRm_screwed_42, r_MRm_screwed_44, r_MRm_screwed_47, r_MRm_screwed_48, r_MRm_screwed_50, r_MRm_screwed_53, r_MRm_screwed_54, r_MRm_screwed_55, r_MRm_screwed_58, r_MRm_screwed_59, r_MRm_screwed_62, r_MRm_screwed_64, r_MRm_screwed_66, r_MRm_screwed_68, r_MRm_screwed_69, r_MRm_screwed_70, r_MRm_screwed_72, r_MRm_screwed_73, r_MRm_screwed_75, r_MRm_screwed_76, r_MRm_screwed_78, r_MRm_screwed_81, sL_0, sL_1, sL_2, mk_i, mk_r, mk_f, mk_n, mk_u, mk_l, List.set_cons_succ, List.set_cons_zero, Nat.reduceAdd, ckS_0, ckS_1, ckS_2, ckS_3, ckS_4, Option.bind_some, Option.isSome_some, psh, if_true, if_false, i10, not_true_eq_false, not_false_eq_true, Bool.false_eq_true, and_self, and_true, true_and, eq_self, qI_81_0, qI_81_2, qI_81_3, qI_81_9, qI_81_10, qI_81_11, qI_81_12, qI_81_13, qI_81_18, qI_81_19, qI_81_20, qI_81_21, qI_81_29, qI_81_30, qI_81_31, qI_81_32, qI_81_33, qI_81_34, qI_81_35, qI_81_39, qI_81_40, qI_81_41, qI_81_42, qI_81_43, qI_81_44, qI_81_45, qI_81_46, qI_81_47, qI_81_51, qI_81_53, qR_81_1, qRd_81_1, qR_81_4, qRd_81_4, qR_81_5, qRd_81_5, qR_81_6, qRd_81_6, qR_81_7, qRd_81_7, qR_81_8, qRd_81_8, qR_81_14, qRd_81_14, qR_81_15, qRd_81_15, qR_81_16, qRd_81_16, qR_81_17, qRd_81_17, qR_81_22, qRd_81_22, qR_81_23, qRd_81_23, qR_81_24, qRd_81_24, qR_81_25, qRd_81_25, qR_81_26, qRd_81_26, qR_81_27, qRd_81_27, qR_81_28, qRd_81_28, qR_81_36, qRd_81_36, qR_81_37, qRd_81_37, qR_81_38, qRd_81_38, qR_81_48, qRd_81_48, qR_81_49, qRd_81_49, qR_81_50, qRd_81_50, qR_81_52, qRd_81_52, qR_81_54, qRd_81_54, qR_81_55, qRd_81_55, qR_81_56, qRd_81_56, qR_81_57, qRd_81_57, qR_81_58, qRd_81_58, qO_81, z, z0, sM_xy, ek', c, ej]
      · rw [if_neg c]
        simp only [r_MRm_screwed_31, r_MRm_screwed_33, r_MRm_screwed_36, r_MRm_screwed_38, r_MRm_screwed_41, r_MRm_screwed_42, r_MRm_screwed_44, r_MRm_screwed_47, r_MRm_screwed_48, r_MRm_screwed_50, r_MRm_screwed_53, r_MRm_screwed_54, r_MRm_screwed_55, r_MRm_screwed_58, r_MRm_screwed_59, r_MRm_screwed_62, r_MRm_screwed_64, r_MRm_screwed_66, r_MRm_screwed_68, r_MRm_screwed_69, r_MRm_screwed_70, r_MRm_screwed_72, r_MRm_screwed_73, r_MRm_screwed_75, r_MRm_screwed_76, r_MRm_screwed_78, r_MRm_screwed_81, sL_0, sL_1, sL_2, mk_i, mk_r, mk_f, mk_n, mk_u, mk_l, List.set_cons_succ, List.set_cons_zero, Nat.reduceAdd, ckS_0, ckS_1, ckS_2, ckS_3, ckS_4, Option.bind_some, Option.isSome_some, psh, if_true, if_false, i10, not_true_eq_false, not_false_eq_true, Bool.false_eq_true, and_self, and_true, true_and, eq_self, qI_81_0, qI_81_2, qI_81_3, qI_81_9, qI_81_10, qI_81_11, qI_81_12, qI_81_13, qI_81_18, qI_81_19, qI_81_20, qI_81_21, qI_81_29, qI_81_30, qI_81_31, qI_81_32, qI_81_33, qI_81_34, qI_81_35, qI_81_39, qI_81_40, qI_81_41, qI_81_42, qI_81_43, qI_81_44, qI_81_45, qI_81_46, qI_81_47, qI_81_51, qI_81_53, qR_81_1, qRd_81_1, qR_81_4, qRd_81_4, qR_81_5, qRd_81_5, qR_81_6, qRd_81_6, qR_81_7, qRd_81_7, qR_81_8, qRd_81_8, qR_81_14, qRd_81_14, qR_81_15, qRd_81_15, qR_81_16, qRd_81_16, qR_81_17, qRd_81_17, qR_81_22, qRd_81_22, qR_81_23, qRd_81_23, qR_81_24, qRd_81_24, qR_81_25, qRd_81_25, qR_81_26, qRd_81_26, qR_81_27, qRd_81_27, qR_81_28, qRd_81_28, qR_81_36, qRd_81_36, qR_81_37, qRd_81_37, qR_81_38, qRd_81_38, qR_81_48, qRd_81_48, qR_81_49, qRd_81_49, qR_81_50, qRd_81_50, qR_81_52, qRd_81_52, qR_81_54, qRd_81_54, qR_81_55, qRd_81_55, qR_81_56, qRd_81_56, qR_81_57, qRd_81_57, qR_81_58, qRd_81_58, qO_81, z, z0, sM_xy, ek', c, ej]
    rw [st, scY]
    by_cases c : knK m (19 + 5 * S) k i j < v
    · rw [if_pos c, if_pos c]
      exact ih (j + 1) (cI i) (cI j) (by omega)
    · rw [if_neg c, if_neg c]
      refine ⟨cI i, cI j, .int (cI (j + 1)), ?_⟩
      have z3 : (0 ≤ 100 * (cI i + 9) + cI j + 9) = True := eq_true (Int32.not_lt.mp (vI_p i hi j (by omega)))
      have e : (some (100 * (cI i + 9) + cI j + 9)).getD (-2) = 100 * (cI i + 9) + cI j + 9 := rfl
      rw [e, r_MRm_screwed_29]
      simp only [r_MRm_screwed_31, r_MRm_screwed_33, r_MRm_screwed_36, r_MRm_screwed_38, sL_0, sL_1, sL_2, mk_i, mk_r, mk_f, mk_n, mk_u, mk_l, List.set_cons_succ, List.set_cons_zero, Nat.reduceAdd, ckS_0, ckS_1, ckS_2, ckS_3, ckS_4, Option.bind_some, Option.isSome_some, psh, if_true, if_false, i10, not_true_eq_false, not_false_eq_true, Bool.false_eq_true, and_self, and_true, true_and, eq_self, z3, ite_self]
theorem m_scX (hS : S < 6) (q : StOk m S) : ∀ (r i : Nat) (x y : Int32) (l6 : Value), i + r = 19 → ∃ (x' y' : Int32), Rr X (d + 3) MRm_screwed 13 [.ref 81, .int (nI S), .int k, .int v, .int (-2), .int (cI i), l6] [] (Wd (sM m k x y) la ro et) = some (some (.int ((scX (knK m (19 + 5 * S) k) v r i).getD (-2))), Wd (sM m 0 x' y') la ro et) := by
  have z0 : ((0 : Int32) ≤ -2) = False := eq_false (by decide)
  intro r
  induction r with
  | zero =>
    intro i x y l6 hi
    have : i = 19 := by omega
    subst this
    have z := cI_19
    refine ⟨x, y, ?_⟩
    have e : (scX (knK m (19 + 5 * S) k) v 0 19).getD (-2) = -2 := rfl
    rw [e, r_MRm_screwed_13]
    simp only [r_MRm_screwed_15, r_MRm_screwed_17, r_MRm_screwed_90, r_MRm_screwed_91, r_MRm_screwed_92, r_MRm_screwed_95, r_MRm_screwed_97, sL_0, sL_1, sL_2, mk_i, mk_r, mk_f, mk_n, mk_u, mk_l, List.set_cons_succ, List.set_cons_zero, Nat.reduceAdd, ckS_0, ckS_1, ckS_2, ckS_3, ckS_4, Option.bind_some, Option.isSome_some, psh, if_true, if_false, i10, not_true_eq_false, not_false_eq_true, Bool.false_eq_true, and_self, and_true, true_and, eq_self, qI_81_0, qI_81_2, qI_81_3, qI_81_9, qI_81_10, qI_81_11, qI_81_12, qI_81_13, qI_81_18, qI_81_19, qI_81_20, qI_81_21, qI_81_29, qI_81_30, qI_81_31, qI_81_32, qI_81_33, qI_81_34, qI_81_35, qI_81_39, qI_81_40, qI_81_41, qI_81_42, qI_81_43, qI_81_44, qI_81_45, qI_81_46, qI_81_47, qI_81_51, qI_81_53, qR_81_1, qRd_81_1, qR_81_4, qRd_81_4, qR_81_5, qRd_81_5, qR_81_6, qRd_81_6, qR_81_7, qRd_81_7, qR_81_8, qRd_81_8, qR_81_14, qRd_81_14, qR_81_15, qRd_81_15, qR_81_16, qRd_81_16, qR_81_17, qRd_81_17, qR_81_22, qRd_81_22, qR_81_23, qRd_81_23, qR_81_24, qRd_81_24, qR_81_25, qRd_81_25, qR_81_26, qRd_81_26, qR_81_27, qRd_81_27, qR_81_28, qRd_81_28, qR_81_36, qRd_81_36, qR_81_37, qRd_81_37, qR_81_38, qRd_81_38, qR_81_48, qRd_81_48, qR_81_49, qRd_81_49, qR_81_50, qRd_81_50, qR_81_52, qRd_81_52, qR_81_54, qRd_81_54, qR_81_55, qRd_81_55, qR_81_56, qRd_81_56, qR_81_57, qRd_81_57, qR_81_58, qRd_81_58, qO_81, z, sM_9]
  | succ r ih =>
    intro i x y l6 hi
    have z := cI_9 i (by omega)
    have ej := cI_s i (by omega)
    obtain ⟨x1, y1, l7, e⟩ := m_scY (X := X) (d := d) (m := m) (la := la) (ro := ro) (et := et) (k := k) (v := v) hS q (show i < 19 by omega) 19 0 x y rfl
    rw [cI_0] at e
    have st : Rr X (d + 3) MRm_screwed 13 [.ref 81, .int (nI S), .int k, .int v, .int (-2), .int (cI i), l6] [] (Wd (sM m k x y) la ro et) = Rr X (d + 3) MRm_screwed 29 [.ref 81, .int (nI S), .int k, .int v, .int (-2), .int (cI i), .int (-9)] [] (Wd (sM m k x y) la ro et) := by
      rw [r_MRm_screwed_13]
      simp only [r_MRm_screwed_15, r_MRm_screwed_17, r_MRm_screwed_20, r_MRm_screwed_22, r_MRm_screwed_25, r_MRm_screwed_27, sL_0, sL_1, sL_2, mk_i, mk_r, mk_f, mk_n, mk_u, mk_l, List.set_cons_succ, List.set_cons_zero, Nat.reduceAdd, ckS_0, ckS_1, ckS_2, ckS_3, ckS_4, Option.bind_some, Option.isSome_some, psh, if_true, if_false, i10, not_true_eq_false, not_false_eq_true, Bool.false_eq_true, and_self, and_true, true_and, eq_self, z, z0]
    rw [st, e, scX]
    cases h : scY (knK m (19 + 5 * S) k) v i 19 0 with
    | some zz =>
      have zp := scY_p (show i < 19 by omega) 19 0 zz rfl h
      have z3 : (0 ≤ zz) = True := eq_true (Int32.not_lt.mp zp)
      have e2 : (some zz).getD (-2) = zz := rfl
      refine ⟨x1, y1, ?_⟩
      dsimp only
      rw [e2]
      simp only [r_MRm_screwed_84, r_MRm_screwed_87, sL_0, sL_1, sL_2, mk_i, mk_r, mk_f, mk_n, mk_u, mk_l, List.set_cons_succ, List.set_cons_zero, Nat.reduceAdd, ckS_0, ckS_1, ckS_2, ckS_3, ckS_4, Option.bind_some, Option.isSome_some, psh, if_true, if_false, i10, not_true_eq_false, not_false_eq_true, Bool.false_eq_true, and_self, and_true, true_and, eq_self, ej]
      rw [r_MRm_screwed_13]
      simp only [r_MRm_screwed_15, r_MRm_screwed_17, r_MRm_screwed_20, r_MRm_screwed_22, r_MRm_screwed_90, r_MRm_screwed_91, r_MRm_screwed_92, r_MRm_screwed_95, r_MRm_screwed_97, sL_0, sL_1, sL_2, mk_i, mk_r, mk_f, mk_n, mk_u, mk_l, List.set_cons_succ, List.set_cons_zero, Nat.reduceAdd, ckS_0, ckS_1, ckS_2, ckS_3, ckS_4, Option.bind_some, Option.isSome_some, psh, if_true, if_false, i10, not_true_eq_false, not_false_eq_true, Bool.false_eq_true, and_self, and_true, true_and, eq_self, qI_81_0, qI_81_2, qI_81_3, qI_81_9, qI_81_10, qI_81_11, qI_81_12, qI_81_13, qI_81_18, qI_81_19, qI_81_20, qI_81_21, qI_81_29, qI_81_30, qI_81_31, qI_81_32, qI_81_33, qI_81_34, qI_81_35, qI_81_39, qI_81_40, qI_81_41, qI_81_42, qI_81_43, qI_81_44, qI_81_45, qI_81_46, qI_81_47, qI_81_51, qI_81_53, qR_81_1, qRd_81_1, qR_81_4, qRd_81_4, qR_81_5, qRd_81_5, qR_81_6, qRd_81_6, qR_81_7, qRd_81_7, qR_81_8, qRd_81_8, qR_81_14, qRd_81_14, qR_81_15, qRd_81_15, qR_81_16, qRd_81_16, qR_81_17, qRd_81_17, qR_81_22, qRd_81_22, qR_81_23, qRd_81_23, qR_81_24, qRd_81_24, qR_81_25, qRd_81_25, qR_81_26, qRd_81_26, qR_81_27, qRd_81_27, qR_81_28, qRd_81_28, qR_81_36, qRd_81_36, qR_81_37, qRd_81_37, qR_81_38, qRd_81_38, qR_81_48, qRd_81_48, qR_81_49, qRd_81_49, qR_81_50, qRd_81_50, qR_81_52, qRd_81_52, qR_81_54, qRd_81_54, qR_81_55, qRd_81_55, qR_81_56, qRd_81_56, qR_81_57, qRd_81_57, qR_81_58, qRd_81_58, qO_81, z3, ite_self, sM_9]
    | none =>
      obtain ⟨x2, y2, nx⟩ := ih (i + 1) x1 y1 l7 (by omega)
      refine ⟨x2, y2, ?_⟩
      have e2 : (none : Option Int32).getD (-2) = -2 := rfl
      dsimp only
      rw [e2, ← nx]
      simp only [r_MRm_screwed_84, r_MRm_screwed_87, sL_0, sL_1, sL_2, mk_i, mk_r, mk_f, mk_n, mk_u, mk_l, List.set_cons_succ, List.set_cons_zero, Nat.reduceAdd, ckS_0, ckS_1, ckS_2, ckS_3, ckS_4, Option.bind_some, Option.isSome_some, psh, if_true, if_false, i10, not_true_eq_false, not_false_eq_true, Bool.false_eq_true, and_self, and_true, true_and, eq_self, ej]
theorem e_screwed {k0 : Int32} (hS : S < 6) (q : StOk m S) : ∃ (x' y' : Int32), Rr X (d + 3) MRm_screwed 0 [.ref 81, .int (nI S), .int k, .int v, mkU, mkU, mkU] [] (Wd (sM m k0 x y) la ro et) = some (some (.int (scR (knK m (19 + 5 * S) k) v)), Wd (sM m 0 x' y') la ro et) := by
  obtain ⟨x', y', e⟩ := m_scX (X := X) (d := d) (m := m) (la := la) (ro := ro) (et := et) (k := k) (v := v) hS q 19 0 x y mkU rfl
  rw [cI_0] at e
  refine ⟨x', y', ?_⟩
  unfold scR
  rw [← e]
  simp only [r_MRm_screwed_0, r_MRm_screwed_2, r_MRm_screwed_4, r_MRm_screwed_5, r_MRm_screwed_6, r_MRm_screwed_9, r_MRm_screwed_11, sL_0, sL_1, sL_2, mk_i, mk_r, mk_f, mk_n, mk_u, mk_l, List.set_cons_succ, List.set_cons_zero, Nat.reduceAdd, ckS_0, ckS_1, ckS_2, ckS_3, ckS_4, Option.bind_some, Option.isSome_some, psh, if_true, if_false, i10, not_true_eq_false, not_false_eq_true, Bool.false_eq_true, and_self, and_true, true_and, eq_self, qI_81_0, qI_81_2, qI_81_3, qI_81_9, qI_81_10, qI_81_11, qI_81_12, qI_81_13, qI_81_18, qI_81_19, qI_81_20, qI_81_21, qI_81_29, qI_81_30, qI_81_31, qI_81_32, qI_81_33, qI_81_34, qI_81_35, qI_81_39, qI_81_40, qI_81_41, qI_81_42, qI_81_43, qI_81_44, qI_81_45, qI_81_46, qI_81_47, qI_81_51, qI_81_53, qR_81_1, qRd_81_1, qR_81_4, qRd_81_4, qR_81_5, qRd_81_5, qR_81_6, qRd_81_6, qR_81_7, qRd_81_7, qR_81_8, qRd_81_8, qR_81_14, qRd_81_14, qR_81_15, qRd_81_15, qR_81_16, qRd_81_16, qR_81_17, qRd_81_17, qR_81_22, qRd_81_22, qR_81_23, qRd_81_23, qR_81_24, qRd_81_24, qR_81_25, qRd_81_25, qR_81_26, qRd_81_26, qR_81_27, qRd_81_27, qR_81_28, qRd_81_28, qR_81_36, qRd_81_36, qR_81_37, qRd_81_37, qR_81_38, qRd_81_38, qR_81_48, qRd_81_48, qR_81_49, qRd_81_49, qR_81_50, qRd_81_50, qR_81_52, qRd_81_52, qR_81_54, qRd_81_54, qR_81_55, qRd_81_55, qR_81_56, qRd_81_56, qR_81_57, qRd_81_57, qR_81_58, qRd_81_58, qO_81, sM_9]
abbrev wSc : WS := [(81, 10), (81, 11), (81, 12)]
theorem sM_fr : frm wSc m la ro (sM m k x y) la ro := frm_t (frm_t (frm_up (k := 9) (.inr (by decide))) (frm_up (k := 10) (.inr (by decide)))) (frm_up (k := 11) (.inr (by decide)))
theorem sM_g (hg : gOk ivG m) : gOk ivG (sM m k x y) := gOk_f (gOk_f (gOk_f hg (top_ok _)) (top_ok _)) (top_ok _)
theorem RSt_sM (q : RSt mu) : RSt (sM mu 0 x y) := by
  obtain ⟨n, hn, h0, h3, h9, hs⟩ := q
  refine ⟨n, hn, (sM_o (by decide)).trans h0, ?_, sM_v.1, fun S hS => StOk_sM (by omega) (hs S hS)⟩
  unfold sM
  rw [up2_k (by decide), up2_k (by decide), up2_k (by decide)]
  exact h3
theorem e_isKeen : Rr X (d + 1) MTo_isKeen 0 [.int v] [] (Wd m la ro et) = some (some (.int (if -9 ≤ v ∧ v ≤ 9 then 1 else 0)), Wd m la ro et) := by
  by_cases c : -9 ≤ v ∧ v ≤ 9
  · rw [if_pos c]
    simp only [r_MTo_isKeen_0, r_MTo_isKeen_1, r_MTo_isKeen_3, r_MTo_isKeen_5, r_MTo_isKeen_8, sL_0, sL_1, sL_2, mk_i, mk_r, mk_f, mk_n, mk_u, mk_l, List.set_cons_succ, List.set_cons_zero, Nat.reduceAdd, ckS_0, ckS_1, ckS_2, ckS_3, ckS_4, Option.bind_some, Option.isSome_some, psh, if_true, if_false, i10, not_true_eq_false, not_false_eq_true, Bool.false_eq_true, and_self, and_true, true_and, eq_self, e_isWithin, c, true_or, or_true]
  · rw [if_neg c]
    simp only [r_MTo_isKeen_0, r_MTo_isKeen_1, r_MTo_isKeen_3, r_MTo_isKeen_5, r_MTo_isKeen_8, sL_0, sL_1, sL_2, mk_i, mk_r, mk_f, mk_n, mk_u, mk_l, List.set_cons_succ, List.set_cons_zero, Nat.reduceAdd, ckS_0, ckS_1, ckS_2, ckS_3, ckS_4, Option.bind_some, Option.isSome_some, psh, if_true, if_false, i10, not_true_eq_false, not_false_eq_true, Bool.false_eq_true, and_self, and_true, true_and, eq_self, e_isWithin, c, true_or, or_true]
set_option maxHeartbeats 4000000 in
theorem screws_all (hg : gOk ivG mu) (hr : rOk ro) (hj : JB mu la ro) (q : RSt mu) : ∃ (x : Int32) (mu2 : Mu), Rr X (d + 4) MTo_screws 0 [.ref 0, .int s, .int w, .int v, mkU] [] (Wd mu la ro et) = some (some (.int x), Wd mu la ro et) ∧ Rr X (d + 4) MRm_screws 0 [.ref 81, .int s, .int w, .int v] [] (Wd mu la ro et) = some (some (.int x), Wd mu2 la ro et) ∧ gOk ivG mu2 ∧ JB mu2 la ro ∧ RSt mu2 ∧ frm wSc mu la ro mu2 la ro := by
  obtain ⟨n, hn, h0, h3, h9, hs⟩ := id q
  by_cases c : 0 ≤ s ∧ s ≤ nI n - 1
  · obtain ⟨S, hS, rfl⟩ := st_ca hn c
    have qa := snA_of (show S < 6 by omega)
    have o1 := qa.1.1
    have eA := e_stoneAt (X := X) (d := d + 2) (mu := mu) (la := la) (et := et) hr hn h0 hS
    have eA' : Rr X (d + 3) MTo_stoneAt 0 [.ref 0, .int (nI S)] [] (Wd mu la ro et) = _ := eA
    by_cases c1 : 1 ≤ w ∧ w ≤ 9
    · by_cases c2 : -9 ≤ v ∧ v ≤ 9
      · have e1 := e_screwP (X := X) (d := d + 1) (m := mu) (la := la) (ro := ro) (et := et) (k := w) (v := v) qa
        obtain ⟨x', y', e2⟩ := e_screwed (X := X) (d := d) (m := mu) (la := la) (ro := ro) (et := et) (k := w) (v := v) (k0 := mu 81 9) (x := mu 81 10) (y := mu 81 11) (show S < 6 by omega) (hs S hS)
        rw [← sM_e] at e2
        have ik := e_isKeen (X := X) (d := d + 2) (m := mu) (la := la) (ro := ro) (et := et) (v := v)
        have ik' : Rr X (d + 3) MTo_isKeen 0 [.int v] [] (Wd mu la ro et) = _ := ik
        refine ⟨scR (knK mu (19 + 5 * S) w) v, sM mu 0 x' y', ?_, ?_, sM_g hg, JS_B wSc (by decide) _ _ _ _ _ _ sM_fr hj, RSt_sM q, sM_fr⟩
        · simp only [r_MTo_screws_0, r_MTo_screws_1, r_MTo_screws_2, r_MTo_screws_5, r_MTo_screws_5n, r_MTo_screws_7, r_MTo_screws_7n, r_MTo_screws_9, r_MTo_screws_9n, r_MTo_screws_12, r_MTo_screws_13, r_MTo_screws_14, r_MTo_screws_16, r_MTo_screws_19, r_MTo_screws_22, r_MTo_screws_23, r_MTo_screws_26, r_MTo_screws_29, r_MTo_screws_30, r_MTo_screws_31, r_MTo_screws_31n, r_MTo_screws_33, r_MTo_screws_34, r_MTo_screws_35, r_MTo_screws_38, sL_0, sL_1, sL_2, mk_i, mk_r, mk_f, mk_n, mk_u, mk_l, List.set_cons_succ, List.set_cons_zero, Nat.reduceAdd, ckS_0, ckS_1, ckS_2, ckS_3, ckS_4, Option.bind_some, Option.isSome_some, psh, if_true, if_false, i10, not_true_eq_false, not_false_eq_true, Bool.false_eq_true, and_self, and_true, true_and, eq_self, qI_0_9, qI_0_10, qR_0_0, qRd_0_0, qR_0_1, qRd_0_1, qR_0_2, qRd_0_2, qR_0_3, qRd_0_3, qR_0_4, qRd_0_4, qR_0_5, qRd_0_5, qR_0_6, qRd_0_6, qR_0_7, qRd_0_7, qR_0_8, qRd_0_8, qO_0, eA', o1, e_isWithin, c1, ik', c2, e1]
        · simp only [r_MRm_screws_0, r_MRm_screws_1, r_MRm_screws_2, r_MRm_screws_5, r_MRm_screws_8, r_MRm_screws_9, r_MRm_screws_10, r_MRm_screws_12, r_MRm_screws_15, r_MRm_screws_18, r_MRm_screws_19, r_MRm_screws_21, r_MRm_screws_23, r_MRm_screws_26, r_MRm_screws_29, r_MRm_screws_30, r_MRm_screws_31, r_MRm_screws_32, r_MRm_screws_33, r_MRm_screws_36, r_MRm_screws_39, r_MRm_screws_40, sL_0, sL_1, sL_2, mk_i, mk_r, mk_f, mk_n, mk_u, mk_l, List.set_cons_succ, List.set_cons_zero, Nat.reduceAdd, ckS_0, ckS_1, ckS_2, ckS_3, ckS_4, Option.bind_some, Option.isSome_some, psh, if_true, if_false, i10, not_true_eq_false, not_false_eq_true, Bool.false_eq_true, and_self, and_true, true_and, eq_self, qI_81_0, qI_81_2, qI_81_3, qI_81_9, qI_81_10, qI_81_11, qI_81_12, qI_81_13, qI_81_18, qI_81_19, qI_81_20, qI_81_21, qI_81_29, qI_81_30, qI_81_31, qI_81_32, qI_81_33, qI_81_34, qI_81_35, qI_81_39, qI_81_40, qI_81_41, qI_81_42, qI_81_43, qI_81_44, qI_81_45, qI_81_46, qI_81_47, qI_81_51, qI_81_53, qR_81_1, qRd_81_1, qR_81_4, qRd_81_4, qR_81_5, qRd_81_5, qR_81_6, qRd_81_6, qR_81_7, qRd_81_7, qR_81_8, qRd_81_8, qR_81_14, qRd_81_14, qR_81_15, qRd_81_15, qR_81_16, qRd_81_16, qR_81_17, qRd_81_17, qR_81_22, qRd_81_22, qR_81_23, qRd_81_23, qR_81_24, qRd_81_24, qR_81_25, qRd_81_25, qR_81_26, qRd_81_26, qR_81_27, qRd_81_27, qR_81_28, qRd_81_28, qR_81_36, qRd_81_36, qR_81_37, qRd_81_37, qR_81_38, qRd_81_38, qR_81_48, qRd_81_48, qR_81_49, qRd_81_49, qR_81_50, qRd_81_50, qR_81_52, qRd_81_52, qR_81_54, qRd_81_54, qR_81_55, qRd_81_55, qR_81_56, qRd_81_56, qR_81_57, qRd_81_57, qR_81_58, qRd_81_58, qO_81, e_isStone, h3, c, e_in, c1, c2, e2]
      · have ik := e_isKeen (X := X) (d := d + 2) (m := mu) (la := la) (ro := ro) (et := et) (v := v)
        have ik' : Rr X (d + 3) MTo_isKeen 0 [.int v] [] (Wd mu la ro et) = _ := ik
        refine ⟨-1, mu, ?_, ?_, hg, hj, q, frm_r _ _ _ _⟩
        · simp only [r_MTo_screws_0, r_MTo_screws_1, r_MTo_screws_2, r_MTo_screws_5, r_MTo_screws_5n, r_MTo_screws_7, r_MTo_screws_7n, r_MTo_screws_9, r_MTo_screws_9n, r_MTo_screws_12, r_MTo_screws_13, r_MTo_screws_14, r_MTo_screws_16, r_MTo_screws_19, r_MTo_screws_22, r_MTo_screws_23, r_MTo_screws_26, r_MTo_screws_29, r_MTo_screws_30, r_MTo_screws_31, r_MTo_screws_31n, r_MTo_screws_33, r_MTo_screws_34, r_MTo_screws_35, r_MTo_screws_38, sL_0, sL_1, sL_2, mk_i, mk_r, mk_f, mk_n, mk_u, mk_l, List.set_cons_succ, List.set_cons_zero, Nat.reduceAdd, ckS_0, ckS_1, ckS_2, ckS_3, ckS_4, Option.bind_some, Option.isSome_some, psh, if_true, if_false, i10, not_true_eq_false, not_false_eq_true, Bool.false_eq_true, and_self, and_true, true_and, eq_self, qI_0_9, qI_0_10, qR_0_0, qRd_0_0, qR_0_1, qRd_0_1, qR_0_2, qRd_0_2, qR_0_3, qRd_0_3, qR_0_4, qRd_0_4, qR_0_5, qRd_0_5, qR_0_6, qRd_0_6, qR_0_7, qRd_0_7, qR_0_8, qRd_0_8, qO_0, eA', o1, e_isWithin, c1, ik', c2]
        · simp only [r_MRm_screws_0, r_MRm_screws_1, r_MRm_screws_2, r_MRm_screws_5, r_MRm_screws_8, r_MRm_screws_9, r_MRm_screws_10, r_MRm_screws_12, r_MRm_screws_15, r_MRm_screws_18, r_MRm_screws_19, r_MRm_screws_21, r_MRm_screws_23, r_MRm_screws_26, r_MRm_screws_29, r_MRm_screws_30, r_MRm_screws_31, r_MRm_screws_32, r_MRm_screws_33, r_MRm_screws_36, r_MRm_screws_39, r_MRm_screws_40, sL_0, sL_1, sL_2, mk_i, mk_r, mk_f, mk_n, mk_u, mk_l, List.set_cons_succ, List.set_cons_zero, Nat.reduceAdd, ckS_0, ckS_1, ckS_2, ckS_3, ckS_4, Option.bind_some, Option.isSome_some, psh, if_true, if_false, i10, not_true_eq_false, not_false_eq_true, Bool.false_eq_true, and_self, and_true, true_and, eq_self, qI_81_0, qI_81_2, qI_81_3, qI_81_9, qI_81_10, qI_81_11, qI_81_12, qI_81_13, qI_81_18, qI_81_19, qI_81_20, qI_81_21, qI_81_29, qI_81_30, qI_81_31, qI_81_32, qI_81_33, qI_81_34, qI_81_35, qI_81_39, qI_81_40, qI_81_41, qI_81_42, qI_81_43, qI_81_44, qI_81_45, qI_81_46, qI_81_47, qI_81_51, qI_81_53, qR_81_1, qRd_81_1, qR_81_4, qRd_81_4, qR_81_5, qRd_81_5, qR_81_6, qRd_81_6, qR_81_7, qRd_81_7, qR_81_8, qRd_81_8, qR_81_14, qRd_81_14, qR_81_15, qRd_81_15, qR_81_16, qRd_81_16, qR_81_17, qRd_81_17, qR_81_22, qRd_81_22, qR_81_23, qRd_81_23, qR_81_24, qRd_81_24, qR_81_25, qRd_81_25, qR_81_26, qRd_81_26, qR_81_27, qRd_81_27, qR_81_28, qRd_81_28, qR_81_36, qRd_81_36, qR_81_37, qRd_81_37, qR_81_38, qRd_81_38, qR_81_48, qRd_81_48, qR_81_49, qRd_81_49, qR_81_50, qRd_81_50, qR_81_52, qRd_81_52, qR_81_54, qRd_81_54, qR_81_55, qRd_81_55, qR_81_56, qRd_81_56, qR_81_57, qRd_81_57, qR_81_58, qRd_81_58, qO_81, e_isStone, h3, c, e_in, c1, c2]
    · refine ⟨-1, mu, ?_, ?_, hg, hj, q, frm_r _ _ _ _⟩
      · simp only [r_MTo_screws_0, r_MTo_screws_1, r_MTo_screws_2, r_MTo_screws_5, r_MTo_screws_5n, r_MTo_screws_7, r_MTo_screws_7n, r_MTo_screws_9, r_MTo_screws_9n, r_MTo_screws_12, r_MTo_screws_13, r_MTo_screws_14, r_MTo_screws_16, r_MTo_screws_19, r_MTo_screws_22, r_MTo_screws_23, r_MTo_screws_26, r_MTo_screws_29, r_MTo_screws_30, r_MTo_screws_31, r_MTo_screws_31n, r_MTo_screws_33, r_MTo_screws_34, r_MTo_screws_35, r_MTo_screws_38, sL_0, sL_1, sL_2, mk_i, mk_r, mk_f, mk_n, mk_u, mk_l, List.set_cons_succ, List.set_cons_zero, Nat.reduceAdd, ckS_0, ckS_1, ckS_2, ckS_3, ckS_4, Option.bind_some, Option.isSome_some, psh, if_true, if_false, i10, not_true_eq_false, not_false_eq_true, Bool.false_eq_true, and_self, and_true, true_and, eq_self, qI_0_9, qI_0_10, qR_0_0, qRd_0_0, qR_0_1, qRd_0_1, qR_0_2, qRd_0_2, qR_0_3, qRd_0_3, qR_0_4, qRd_0_4, qR_0_5, qRd_0_5, qR_0_6, qRd_0_6, qR_0_7, qRd_0_7, qR_0_8, qRd_0_8, qO_0, eA', o1, e_isWithin, c1]
      · simp only [r_MRm_screws_0, r_MRm_screws_1, r_MRm_screws_2, r_MRm_screws_5, r_MRm_screws_8, r_MRm_screws_9, r_MRm_screws_10, r_MRm_screws_12, r_MRm_screws_15, r_MRm_screws_18, r_MRm_screws_19, r_MRm_screws_21, r_MRm_screws_23, r_MRm_screws_26, r_MRm_screws_29, r_MRm_screws_30, r_MRm_screws_31, r_MRm_screws_32, r_MRm_screws_33, r_MRm_screws_36, r_MRm_screws_39, r_MRm_screws_40, sL_0, sL_1, sL_2, mk_i, mk_r, mk_f, mk_n, mk_u, mk_l, List.set_cons_succ, List.set_cons_zero, Nat.reduceAdd, ckS_0, ckS_1, ckS_2, ckS_3, ckS_4, Option.bind_some, Option.isSome_some, psh, if_true, if_false, i10, not_true_eq_false, not_false_eq_true, Bool.false_eq_true, and_self, and_true, true_and, eq_self, qI_81_0, qI_81_2, qI_81_3, qI_81_9, qI_81_10, qI_81_11, qI_81_12, qI_81_13, qI_81_18, qI_81_19, qI_81_20, qI_81_21, qI_81_29, qI_81_30, qI_81_31, qI_81_32, qI_81_33, qI_81_34, qI_81_35, qI_81_39, qI_81_40, qI_81_41, qI_81_42, qI_81_43, qI_81_44, qI_81_45, qI_81_46, qI_81_47, qI_81_51, qI_81_53, qR_81_1, qRd_81_1, qR_81_4, qRd_81_4, qR_81_5, qRd_81_5, qR_81_6, qRd_81_6, qR_81_7, qRd_81_7, qR_81_8, qRd_81_8, qR_81_14, qRd_81_14, qR_81_15, qRd_81_15, qR_81_16, qRd_81_16, qR_81_17, qRd_81_17, qR_81_22, qRd_81_22, qR_81_23, qRd_81_23, qR_81_24, qRd_81_24, qR_81_25, qRd_81_25, qR_81_26, qRd_81_26, qR_81_27, qRd_81_27, qR_81_28, qRd_81_28, qR_81_36, qRd_81_36, qR_81_37, qRd_81_37, qR_81_38, qRd_81_38, qR_81_48, qRd_81_48, qR_81_49, qRd_81_49, qR_81_50, qRd_81_50, qR_81_52, qRd_81_52, qR_81_54, qRd_81_54, qR_81_55, qRd_81_55, qR_81_56, qRd_81_56, qR_81_57, qRd_81_57, qR_81_58, qRd_81_58, qO_81, e_isStone, h3, c, e_in, c1]
  · have eA := e_stoneNo (X := X) (d := d + 2) (mu := mu) (la := la) (ro := ro) (et := et) h0 c
    have eA' : Rr X (d + 3) MTo_stoneAt 0 [.ref 0, .int s] [] (Wd mu la ro et) = _ := eA
    refine ⟨-1, mu, ?_, ?_, hg, hj, q, frm_r _ _ _ _⟩
    · simp only [r_MTo_screws_0, r_MTo_screws_1, r_MTo_screws_2, r_MTo_screws_5, r_MTo_screws_5n, r_MTo_screws_7, r_MTo_screws_7n, r_MTo_screws_9, r_MTo_screws_9n, r_MTo_screws_12, r_MTo_screws_13, r_MTo_screws_14, r_MTo_screws_16, r_MTo_screws_19, r_MTo_screws_22, r_MTo_screws_23, r_MTo_screws_26, r_MTo_screws_29, r_MTo_screws_30, r_MTo_screws_31, r_MTo_screws_31n, r_MTo_screws_33, r_MTo_screws_34, r_MTo_screws_35, r_MTo_screws_38, sL_0, sL_1, sL_2, mk_i, mk_r, mk_f, mk_n, mk_u, mk_l, List.set_cons_succ, List.set_cons_zero, Nat.reduceAdd, ckS_0, ckS_1, ckS_2, ckS_3, ckS_4, Option.bind_some, Option.isSome_some, psh, if_true, if_false, i10, not_true_eq_false, not_false_eq_true, Bool.false_eq_true, and_self, and_true, true_and, eq_self, qI_0_9, qI_0_10, qR_0_0, qRd_0_0, qR_0_1, qRd_0_1, qR_0_2, qRd_0_2, qR_0_3, qRd_0_3, qR_0_4, qRd_0_4, qR_0_5, qRd_0_5, qR_0_6, qRd_0_6, qR_0_7, qRd_0_7, qR_0_8, qRd_0_8, qO_0, eA']
    · simp only [r_MRm_screws_0, r_MRm_screws_1, r_MRm_screws_2, r_MRm_screws_5, r_MRm_screws_8, r_MRm_screws_9, r_MRm_screws_10, r_MRm_screws_12, r_MRm_screws_15, r_MRm_screws_18, r_MRm_screws_19, r_MRm_screws_21, r_MRm_screws_23, r_MRm_screws_26, r_MRm_screws_29, r_MRm_screws_30, r_MRm_screws_31, r_MRm_screws_32, r_MRm_screws_33, r_MRm_screws_36, r_MRm_screws_39, r_MRm_screws_40, sL_0, sL_1, sL_2, mk_i, mk_r, mk_f, mk_n, mk_u, mk_l, List.set_cons_succ, List.set_cons_zero, Nat.reduceAdd, ckS_0, ckS_1, ckS_2, ckS_3, ckS_4, Option.bind_some, Option.isSome_some, psh, if_true, if_false, i10, not_true_eq_false, not_false_eq_true, Bool.false_eq_true, and_self, and_true, true_and, eq_self, qI_81_0, qI_81_2, qI_81_3, qI_81_9, qI_81_10, qI_81_11, qI_81_12, qI_81_13, qI_81_18, qI_81_19, qI_81_20, qI_81_21, qI_81_29, qI_81_30, qI_81_31, qI_81_32, qI_81_33, qI_81_34, qI_81_35, qI_81_39, qI_81_40, qI_81_41, qI_81_42, qI_81_43, qI_81_44, qI_81_45, qI_81_46, qI_81_47, qI_81_51, qI_81_53, qR_81_1, qRd_81_1, qR_81_4, qRd_81_4, qR_81_5, qRd_81_5, qR_81_6, qRd_81_6, qR_81_7, qRd_81_7, qR_81_8, qRd_81_8, qR_81_14, qRd_81_14, qR_81_15, qRd_81_15, qR_81_16, qRd_81_16, qR_81_17, qRd_81_17, qR_81_22, qRd_81_22, qR_81_23, qRd_81_23, qR_81_24, qRd_81_24, qR_81_25, qRd_81_25, qR_81_26, qRd_81_26, qR_81_27, qRd_81_27, qR_81_28, qRd_81_28, qR_81_36, qRd_81_36, qR_81_37, qRd_81_37, qR_81_38, qRd_81_38, qR_81_48, qRd_81_48, qR_81_49, qRd_81_49, qR_81_50, qRd_81_50, qR_81_52, qRd_81_52, qR_81_54, qRd_81_54, qR_81_55, qRd_81_55, qR_81_56, qRd_81_56, qR_81_57, qRd_81_57, qR_81_58, qRd_81_58, qO_81, e_isStone, h3, c]
theorem c_lg (qa : snA a) {l0 l1 : Value} : ∀ (r j : Nat), j + r = 10 → Rr X (d + 3) MTo_lightest 22 [l0, l1, .int v, .ref a, .int (nI j)] [] (Wd m la ro et) = some (some (.int (lgL (fun k => scR (knK m a (nI k)) v) r j)), Wd m la ro et) := by
  have o1 := qa.1.1
  intro r
  induction r with
  | zero =>
    intro j hj
    have : j = 10 := by omega
    subst this
    have z : (9 : Int32) < nI 10 := by decide
    rw [r_MTo_lightest_22]
    simp only [r_MTo_lightest_24, r_MTo_lightest_26, r_MTo_lightest_48, r_MTo_lightest_50, sL_0, sL_1, sL_2, mk_i, mk_r, mk_f, mk_n, mk_u, mk_l, List.set_cons_succ, List.set_cons_zero, Nat.reduceAdd, ckS_0, ckS_1, ckS_2, ckS_3, ckS_4, Option.bind_some, Option.isSome_some, psh, if_true, if_false, i10, not_true_eq_false, not_false_eq_true, Bool.false_eq_true, and_self, and_true, true_and, eq_self, z, lgL]
  | succ r ih =>
    intro j hj
    have z : ¬ (9 : Int32) < nI j := nI_nlt (a := 9) (b := j) (by omega) (by omega)
    have e := e_screwP (X := X) (d := d) (m := m) (la := la) (ro := ro) (et := et) (k := nI j) (v := v) qa
    have nx := ih (j + 1) (by omega)
    rw [lgL, r_MTo_lightest_22]
    by_cases c : scR (knK m a (nI j)) v < 0
    · rw [if_pos c, ← nx]
      simp only [r_MTo_lightest_24, r_MTo_lightest_26, r_MTo_lightest_29, r_MTo_lightest_29n, r_MTo_lightest_30, r_MTo_lightest_32, r_MTo_lightest_33, r_MTo_lightest_36, r_MTo_lightest_39, r_MTo_lightest_41, r_MTo_lightest_42, r_MTo_lightest_45, sL_0, sL_1, sL_2, mk_i, mk_r, mk_f, mk_n, mk_u, mk_l, List.set_cons_succ, List.set_cons_zero, Nat.reduceAdd, ckS_0, ckS_1, ckS_2, ckS_3, ckS_4, Option.bind_some, Option.isSome_some, psh, if_true, if_false, i10, not_true_eq_false, not_false_eq_true, Bool.false_eq_true, and_self, and_true, true_and, eq_self, z, o1, e, c, nI_1]
    · rw [if_neg c]
      simp only [r_MTo_lightest_24, r_MTo_lightest_26, r_MTo_lightest_29, r_MTo_lightest_29n, r_MTo_lightest_30, r_MTo_lightest_32, r_MTo_lightest_33, r_MTo_lightest_36, r_MTo_lightest_39, r_MTo_lightest_41, sL_0, sL_1, sL_2, mk_i, mk_r, mk_f, mk_n, mk_u, mk_l, List.set_cons_succ, List.set_cons_zero, Nat.reduceAdd, ckS_0, ckS_1, ckS_2, ckS_3, ckS_4, Option.bind_some, Option.isSome_some, psh, if_true, if_false, i10, not_true_eq_false, not_false_eq_true, Bool.false_eq_true, and_self, and_true, true_and, eq_self, z, o1, e, c]
theorem knK_sM {k2 : Int32} (hS : S < 6) : knK (sM m k x y) (19 + 5 * S) k2 = knK m (19 + 5 * S) k2 := by
  have ho : ∀ j, sM m k x y (19 + 5 * S) j = m (19 + 5 * S) j := fun j => sM_o (by omega)
  refine funext fun i => funext fun j => ?_
  unfold knK knW
  simp only [ho]
theorem m_lg (hS : S < 6) (q : StOk m S) : ∀ (r j : Nat) (k0 x y : Int32), j + r = 10 → ∃ (x' y' : Int32), Rr X (d + 4) MRm_lightest 23 [.ref 81, .int (nI S), .int v, .int (nI j)] [] (Wd (sM m 0 x y) la ro et) = some (some (.int (lgL (fun k => scR (knK m (19 + 5 * S) (nI k)) v) r j)), Wd (sM m 0 x' y') la ro et) := by
  intro r
  induction r with
  | zero =>
    intro j k0 x y hj
    have : j = 10 := by omega
    subst this
    have z : (9 : Int32) < nI 10 := by decide
    refine ⟨x, y, ?_⟩
    rw [r_MRm_lightest_23]
    simp only [r_MRm_lightest_24, r_MRm_lightest_26, r_MRm_lightest_47, r_MRm_lightest_49, sL_0, sL_1, sL_2, mk_i, mk_r, mk_f, mk_n, mk_u, mk_l, List.set_cons_succ, List.set_cons_zero, Nat.reduceAdd, ckS_0, ckS_1, ckS_2, ckS_3, ckS_4, Option.bind_some, Option.isSome_some, psh, if_true, if_false, i10, not_true_eq_false, not_false_eq_true, Bool.false_eq_true, and_self, and_true, true_and, eq_self, z, lgL]
  | succ r ih =>
    intro j k0 x y hj
    have z : ¬ (9 : Int32) < nI j := nI_nlt (a := 9) (b := j) (by omega) (by omega)
    obtain ⟨x1, y1, e⟩ := e_screwed (X := X) (d := d) (m := m) (la := la) (ro := ro) (et := et) (k := nI j) (v := v) (k0 := 0) (x := x) (y := y) hS q
    rw [lgL]
    by_cases c : scR (knK m (19 + 5 * S) (nI j)) v < 0
    · obtain ⟨x2, y2, nx⟩ := ih (j + 1) 0 x1 y1 (by omega)
      refine ⟨x2, y2, ?_⟩
      rw [if_pos c, ← nx, r_MRm_lightest_23]
      simp only [r_MRm_lightest_24, r_MRm_lightest_26, r_MRm_lightest_29, r_MRm_lightest_30, r_MRm_lightest_31, r_MRm_lightest_32, r_MRm_lightest_33, r_MRm_lightest_36, r_MRm_lightest_39, r_MRm_lightest_40, r_MRm_lightest_41, r_MRm_lightest_44, sL_0, sL_1, sL_2, mk_i, mk_r, mk_f, mk_n, mk_u, mk_l, List.set_cons_succ, List.set_cons_zero, Nat.reduceAdd, ckS_0, ckS_1, ckS_2, ckS_3, ckS_4, Option.bind_some, Option.isSome_some, psh, if_true, if_false, i10, not_true_eq_false, not_false_eq_true, Bool.false_eq_true, and_self, and_true, true_and, eq_self, qI_81_0, qI_81_2, qI_81_3, qI_81_9, qI_81_10, qI_81_11, qI_81_12, qI_81_13, qI_81_18, qI_81_19, qI_81_20, qI_81_21, qI_81_29, qI_81_30, qI_81_31, qI_81_32, qI_81_33, qI_81_34, qI_81_35, qI_81_39, qI_81_40, qI_81_41, qI_81_42, qI_81_43, qI_81_44, qI_81_45, qI_81_46, qI_81_47, qI_81_51, qI_81_53, qR_81_1, qRd_81_1, qR_81_4, qRd_81_4, qR_81_5, qRd_81_5, qR_81_6, qRd_81_6, qR_81_7, qRd_81_7, qR_81_8, qRd_81_8, qR_81_14, qRd_81_14, qR_81_15, qRd_81_15, qR_81_16, qRd_81_16, qR_81_17, qRd_81_17, qR_81_22, qRd_81_22, qR_81_23, qRd_81_23, qR_81_24, qRd_81_24, qR_81_25, qRd_81_25, qR_81_26, qRd_81_26, qR_81_27, qRd_81_27, qR_81_28, qRd_81_28, qR_81_36, qRd_81_36, qR_81_37, qRd_81_37, qR_81_38, qRd_81_38, qR_81_48, qRd_81_48, qR_81_49, qRd_81_49, qR_81_50, qRd_81_50, qR_81_52, qRd_81_52, qR_81_54, qRd_81_54, qR_81_55, qRd_81_55, qR_81_56, qRd_81_56, qR_81_57, qRd_81_57, qR_81_58, qRd_81_58, qO_81, z, e, c, nI_1]
    · refine ⟨x1, y1, ?_⟩
      rw [if_neg c, r_MRm_lightest_23]
      simp only [r_MRm_lightest_24, r_MRm_lightest_26, r_MRm_lightest_29, r_MRm_lightest_30, r_MRm_lightest_31, r_MRm_lightest_32, r_MRm_lightest_33, r_MRm_lightest_36, r_MRm_lightest_39, r_MRm_lightest_40, sL_0, sL_1, sL_2, mk_i, mk_r, mk_f, mk_n, mk_u, mk_l, List.set_cons_succ, List.set_cons_zero, Nat.reduceAdd, ckS_0, ckS_1, ckS_2, ckS_3, ckS_4, Option.bind_some, Option.isSome_some, psh, if_true, if_false, i10, not_true_eq_false, not_false_eq_true, Bool.false_eq_true, and_self, and_true, true_and, eq_self, qI_81_0, qI_81_2, qI_81_3, qI_81_9, qI_81_10, qI_81_11, qI_81_12, qI_81_13, qI_81_18, qI_81_19, qI_81_20, qI_81_21, qI_81_29, qI_81_30, qI_81_31, qI_81_32, qI_81_33, qI_81_34, qI_81_35, qI_81_39, qI_81_40, qI_81_41, qI_81_42, qI_81_43, qI_81_44, qI_81_45, qI_81_46, qI_81_47, qI_81_51, qI_81_53, qR_81_1, qRd_81_1, qR_81_4, qRd_81_4, qR_81_5, qRd_81_5, qR_81_6, qRd_81_6, qR_81_7, qRd_81_7, qR_81_8, qRd_81_8, qR_81_14, qRd_81_14, qR_81_15, qRd_81_15, qR_81_16, qRd_81_16, qR_81_17, qRd_81_17, qR_81_22, qRd_81_22, qR_81_23, qRd_81_23, qR_81_24, qRd_81_24, qR_81_25, qRd_81_25, qR_81_26, qRd_81_26, qR_81_27, qRd_81_27, qR_81_28, qRd_81_28, qR_81_36, qRd_81_36, qR_81_37, qRd_81_37, qR_81_38, qRd_81_38, qR_81_48, qRd_81_48, qR_81_49, qRd_81_49, qR_81_50, qRd_81_50, qR_81_52, qRd_81_52, qR_81_54, qRd_81_54, qR_81_55, qRd_81_55, qR_81_56, qRd_81_56, qR_81_57, qRd_81_57, qR_81_58, qRd_81_58, qO_81, z, e, c]
set_option maxHeartbeats 4000000 in
theorem lightest_all (hg : gOk ivG mu) (hr : rOk ro) (hj : JB mu la ro) (q : RSt mu) : ∃ (x : Int32) (mu2 : Mu), Rr X (d + 4) MTo_lightest 0 [.ref 0, .int s, .int v, mkU, mkU] [] (Wd mu la ro et) = some (some (.int x), Wd mu la ro et) ∧ Rr X (d + 4) MRm_lightest 0 [.ref 81, .int s, .int v, mkU] [] (Wd mu la ro et) = some (some (.int x), Wd mu2 la ro et) ∧ gOk ivG mu2 ∧ JB mu2 la ro ∧ RSt mu2 ∧ frm wSc mu la ro mu2 la ro := by
  obtain ⟨n, hn, h0, h3, h9, hs⟩ := id q
  by_cases c : 0 ≤ s ∧ s ≤ nI n - 1
  · obtain ⟨S, hS, rfl⟩ := st_ca hn c
    have qa := snA_of (show S < 6 by omega)
    have o1 := qa.1.1
    have eA := e_stoneAt (X := X) (d := d + 2) (mu := mu) (la := la) (et := et) hr hn h0 hS
    have eA' : Rr X (d + 3) MTo_stoneAt 0 [.ref 0, .int (nI S)] [] (Wd mu la ro et) = _ := eA
    have ik := e_isKeen (X := X) (d := d + 2) (m := mu) (la := la) (ro := ro) (et := et) (v := v)
    have ik' : Rr X (d + 3) MTo_isKeen 0 [.int v] [] (Wd mu la ro et) = _ := ik
    by_cases c2 : -9 ≤ v ∧ v ≤ 9
    · have e1 := c_lg (X := X) (d := d + 1) (m := mu) (la := la) (ro := ro) (et := et) (v := v) (l0 := .ref 0) (l1 := .int (nI S)) qa 9 1 rfl
      obtain ⟨x', y', e2⟩ := m_lg (X := X) (d := d) (m := mu) (la := la) (ro := ro) (et := et) (v := v) (show S < 6 by omega) (hs S hS) 9 1 0 (mu 81 10) (mu 81 11) rfl
      have e0 : sM mu 0 (mu 81 10) (mu 81 11) = mu := by
        have e := sM_e (m := mu)
        rw [h9] at e
        exact e.symm
      rw [e0] at e2
      have n1 : nI 1 = 1 := rfl
      rw [n1] at e1 e2
      refine ⟨lgL (fun k => scR (knK mu (19 + 5 * S) (nI k)) v) 9 1, sM mu 0 x' y', ?_, ?_, sM_g hg, JS_B wSc (by decide) _ _ _ _ _ _ sM_fr hj, RSt_sM q, sM_fr⟩
      rotate_left
      · rw [← e2]
        simp only [r_MRm_lightest_0, r_MRm_lightest_1, r_MRm_lightest_2, r_MRm_lightest_5, r_MRm_lightest_8, r_MRm_lightest_9, r_MRm_lightest_11, r_MRm_lightest_13, r_MRm_lightest_16, r_MRm_lightest_19, r_MRm_lightest_20, r_MRm_lightest_21, r_MRm_lightest_22, sL_0, sL_1, sL_2, mk_i, mk_r, mk_f, mk_n, mk_u, mk_l, List.set_cons_succ, List.set_cons_zero, Nat.reduceAdd, ckS_0, ckS_1, ckS_2, ckS_3, ckS_4, Option.bind_some, Option.isSome_some, psh, if_true, if_false, i10, not_true_eq_false, not_false_eq_true, Bool.false_eq_true, and_self, and_true, true_and, eq_self, qI_81_0, qI_81_2, qI_81_3, qI_81_9, qI_81_10, qI_81_11, qI_81_12, qI_81_13, qI_81_18, qI_81_19, qI_81_20, qI_81_21, qI_81_29, qI_81_30, qI_81_31, qI_81_32, qI_81_33, qI_81_34, qI_81_35, qI_81_39, qI_81_40, qI_81_41, qI_81_42, qI_81_43, qI_81_44, qI_81_45, qI_81_46, qI_81_47, qI_81_51, qI_81_53, qR_81_1, qRd_81_1, qR_81_4, qRd_81_4, qR_81_5, qRd_81_5, qR_81_6, qRd_81_6, qR_81_7, qRd_81_7, qR_81_8, qRd_81_8, qR_81_14, qRd_81_14, qR_81_15, qRd_81_15, qR_81_16, qRd_81_16, qR_81_17, qRd_81_17, qR_81_22, qRd_81_22, qR_81_23, qRd_81_23, qR_81_24, qRd_81_24, qR_81_25, qRd_81_25, qR_81_26, qRd_81_26, qR_81_27, qRd_81_27, qR_81_28, qRd_81_28, qR_81_36, qRd_81_36, qR_81_37, qRd_81_37, qR_81_38, qRd_81_38, qR_81_48, qRd_81_48, qR_81_49, qRd_81_49, qR_81_50, qRd_81_50, qR_81_52, qRd_81_52, qR_81_54, qRd_81_54, qR_81_55, qRd_81_55, qR_81_56, qRd_81_56, qR_81_57, qRd_81_57, qR_81_58, qRd_81_58, qO_81, e_isStone, h3, c, e_in, c2]
      · rw [← e1]
        simp only [r_MTo_lightest_0, r_MTo_lightest_1, r_MTo_lightest_2, r_MTo_lightest_5, r_MTo_lightest_5n, r_MTo_lightest_6, r_MTo_lightest_6n, r_MTo_lightest_7, r_MTo_lightest_7n, r_MTo_lightest_10, r_MTo_lightest_11, r_MTo_lightest_14, r_MTo_lightest_17, r_MTo_lightest_18, r_MTo_lightest_19, r_MTo_lightest_20, sL_0, sL_1, sL_2, mk_i, mk_r, mk_f, mk_n, mk_u, mk_l, List.set_cons_succ, List.set_cons_zero, Nat.reduceAdd, ckS_0, ckS_1, ckS_2, ckS_3, ckS_4, Option.bind_some, Option.isSome_some, psh, if_true, if_false, i10, not_true_eq_false, not_false_eq_true, Bool.false_eq_true, and_self, and_true, true_and, eq_self, qI_0_9, qI_0_10, qR_0_0, qRd_0_0, qR_0_1, qRd_0_1, qR_0_2, qRd_0_2, qR_0_3, qRd_0_3, qR_0_4, qRd_0_4, qR_0_5, qRd_0_5, qR_0_6, qRd_0_6, qR_0_7, qRd_0_7, qR_0_8, qRd_0_8, qO_0, eA', o1, ik', c2]
    · refine ⟨-1, mu, ?_, ?_, hg, hj, q, frm_r _ _ _ _⟩
      · simp only [r_MTo_lightest_0, r_MTo_lightest_1, r_MTo_lightest_2, r_MTo_lightest_5, r_MTo_lightest_5n, r_MTo_lightest_6, r_MTo_lightest_6n, r_MTo_lightest_7, r_MTo_lightest_7n, r_MTo_lightest_10, r_MTo_lightest_11, r_MTo_lightest_14, r_MTo_lightest_17, r_MTo_lightest_18, sL_0, sL_1, sL_2, mk_i, mk_r, mk_f, mk_n, mk_u, mk_l, List.set_cons_succ, List.set_cons_zero, Nat.reduceAdd, ckS_0, ckS_1, ckS_2, ckS_3, ckS_4, Option.bind_some, Option.isSome_some, psh, if_true, if_false, i10, not_true_eq_false, not_false_eq_true, Bool.false_eq_true, and_self, and_true, true_and, eq_self, qI_0_9, qI_0_10, qR_0_0, qRd_0_0, qR_0_1, qRd_0_1, qR_0_2, qRd_0_2, qR_0_3, qRd_0_3, qR_0_4, qRd_0_4, qR_0_5, qRd_0_5, qR_0_6, qRd_0_6, qR_0_7, qRd_0_7, qR_0_8, qRd_0_8, qO_0, eA', o1, ik', c2]
      · simp only [r_MRm_lightest_0, r_MRm_lightest_1, r_MRm_lightest_2, r_MRm_lightest_5, r_MRm_lightest_8, r_MRm_lightest_9, r_MRm_lightest_11, r_MRm_lightest_13, r_MRm_lightest_16, r_MRm_lightest_19, r_MRm_lightest_20, sL_0, sL_1, sL_2, mk_i, mk_r, mk_f, mk_n, mk_u, mk_l, List.set_cons_succ, List.set_cons_zero, Nat.reduceAdd, ckS_0, ckS_1, ckS_2, ckS_3, ckS_4, Option.bind_some, Option.isSome_some, psh, if_true, if_false, i10, not_true_eq_false, not_false_eq_true, Bool.false_eq_true, and_self, and_true, true_and, eq_self, qI_81_0, qI_81_2, qI_81_3, qI_81_9, qI_81_10, qI_81_11, qI_81_12, qI_81_13, qI_81_18, qI_81_19, qI_81_20, qI_81_21, qI_81_29, qI_81_30, qI_81_31, qI_81_32, qI_81_33, qI_81_34, qI_81_35, qI_81_39, qI_81_40, qI_81_41, qI_81_42, qI_81_43, qI_81_44, qI_81_45, qI_81_46, qI_81_47, qI_81_51, qI_81_53, qR_81_1, qRd_81_1, qR_81_4, qRd_81_4, qR_81_5, qRd_81_5, qR_81_6, qRd_81_6, qR_81_7, qRd_81_7, qR_81_8, qRd_81_8, qR_81_14, qRd_81_14, qR_81_15, qRd_81_15, qR_81_16, qRd_81_16, qR_81_17, qRd_81_17, qR_81_22, qRd_81_22, qR_81_23, qRd_81_23, qR_81_24, qRd_81_24, qR_81_25, qRd_81_25, qR_81_26, qRd_81_26, qR_81_27, qRd_81_27, qR_81_28, qRd_81_28, qR_81_36, qRd_81_36, qR_81_37, qRd_81_37, qR_81_38, qRd_81_38, qR_81_48, qRd_81_48, qR_81_49, qRd_81_49, qR_81_50, qRd_81_50, qR_81_52, qRd_81_52, qR_81_54, qRd_81_54, qR_81_55, qRd_81_55, qR_81_56, qRd_81_56, qR_81_57, qRd_81_57, qR_81_58, qRd_81_58, qO_81, e_isStone, h3, c, e_in, c2]
  · have eA := e_stoneNo (X := X) (d := d + 2) (mu := mu) (la := la) (ro := ro) (et := et) h0 c
    have eA' : Rr X (d + 3) MTo_stoneAt 0 [.ref 0, .int s] [] (Wd mu la ro et) = _ := eA
    refine ⟨-1, mu, ?_, ?_, hg, hj, q, frm_r _ _ _ _⟩
    · simp only [r_MTo_lightest_0, r_MTo_lightest_1, r_MTo_lightest_2, r_MTo_lightest_5, r_MTo_lightest_5n, r_MTo_lightest_6, r_MTo_lightest_6n, r_MTo_lightest_7, r_MTo_lightest_7n, r_MTo_lightest_10, r_MTo_lightest_11, r_MTo_lightest_14, r_MTo_lightest_17, r_MTo_lightest_18, sL_0, sL_1, sL_2, mk_i, mk_r, mk_f, mk_n, mk_u, mk_l, List.set_cons_succ, List.set_cons_zero, Nat.reduceAdd, ckS_0, ckS_1, ckS_2, ckS_3, ckS_4, Option.bind_some, Option.isSome_some, psh, if_true, if_false, i10, not_true_eq_false, not_false_eq_true, Bool.false_eq_true, and_self, and_true, true_and, eq_self, qI_0_9, qI_0_10, qR_0_0, qRd_0_0, qR_0_1, qRd_0_1, qR_0_2, qRd_0_2, qR_0_3, qRd_0_3, qR_0_4, qRd_0_4, qR_0_5, qRd_0_5, qR_0_6, qRd_0_6, qR_0_7, qRd_0_7, qR_0_8, qRd_0_8, qO_0, eA']
    · simp only [r_MRm_lightest_0, r_MRm_lightest_1, r_MRm_lightest_2, r_MRm_lightest_5, r_MRm_lightest_8, r_MRm_lightest_9, r_MRm_lightest_11, r_MRm_lightest_13, r_MRm_lightest_16, r_MRm_lightest_19, r_MRm_lightest_20, sL_0, sL_1, sL_2, mk_i, mk_r, mk_f, mk_n, mk_u, mk_l, List.set_cons_succ, List.set_cons_zero, Nat.reduceAdd, ckS_0, ckS_1, ckS_2, ckS_3, ckS_4, Option.bind_some, Option.isSome_some, psh, if_true, if_false, i10, not_true_eq_false, not_false_eq_true, Bool.false_eq_true, and_self, and_true, true_and, eq_self, qI_81_0, qI_81_2, qI_81_3, qI_81_9, qI_81_10, qI_81_11, qI_81_12, qI_81_13, qI_81_18, qI_81_19, qI_81_20, qI_81_21, qI_81_29, qI_81_30, qI_81_31, qI_81_32, qI_81_33, qI_81_34, qI_81_35, qI_81_39, qI_81_40, qI_81_41, qI_81_42, qI_81_43, qI_81_44, qI_81_45, qI_81_46, qI_81_47, qI_81_51, qI_81_53, qR_81_1, qRd_81_1, qR_81_4, qRd_81_4, qR_81_5, qRd_81_5, qR_81_6, qRd_81_6, qR_81_7, qRd_81_7, qR_81_8, qRd_81_8, qR_81_14, qRd_81_14, qR_81_15, qRd_81_15, qR_81_16, qRd_81_16, qR_81_17, qRd_81_17, qR_81_22, qRd_81_22, qR_81_23, qRd_81_23, qR_81_24, qRd_81_24, qR_81_25, qRd_81_25, qR_81_26, qRd_81_26, qR_81_27, qRd_81_27, qR_81_28, qRd_81_28, qR_81_36, qRd_81_36, qR_81_37, qRd_81_37, qR_81_38, qRd_81_38, qR_81_48, qRd_81_48, qR_81_49, qRd_81_49, qR_81_50, qRd_81_50, qR_81_52, qRd_81_52, qR_81_54, qRd_81_54, qR_81_55, qRd_81_55, qR_81_56, qRd_81_56, qR_81_57, qRd_81_57, qR_81_58, qRd_81_58, qO_81, e_isStone, h3, c]
end
