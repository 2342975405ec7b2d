-- ===== row, exactly, on both sides
section
variable {X : Tok} {d : Nat} {mu mu' : Mu} {la la' : La} {ro ro' : Ro} {et : Nat → Option va_E}
/-- the places i to N - 1 of a row of longs cleared -/
noncomputable def zrJ (la : La) (e i N : Nat) : La := fun c => if c = e then (fun j => if i ≤ j ∧ j < N then 0 else la e j) else la c
theorem zrJ_n {e N : Nat} : zrJ la e N N = la := by
  refine funext fun c => ?_
  unfold zrJ
  split
  · rename_i q
    subst q
    exact funext fun j => if_neg (by omega)
  · rfl
theorem zrJ_s {e i N : Nat} (h : i < N) : zrJ (upJ la e i 0) e (i + 1) N = zrJ la e i N := by
  refine funext fun c => ?_
  unfold zrJ upJ
  by_cases q : c = e
  · rw [if_pos q, if_pos q, if_pos rfl]
    refine funext fun j => ?_
    unfold vp_updL
    by_cases h2 : j = i
    · rw [if_neg (by omega), if_pos h2, if_pos (by omega)]
    · rw [if_neg h2]
      by_cases h3 : i ≤ j ∧ j < N
      · rw [if_pos (by omega), if_pos h3]
      · rw [if_neg (by omega), if_neg h3]
  · rw [if_neg q, if_neg q, if_neg q]
theorem shA_L {a : Nat} (q : shA a) : (qL (a + 1)).isSome = true ∧ qLd (a + 1) = 60 := by
  obtain ⟨h1, t, z, h2⟩ := qJ_ok q.2.2.2.1
  have h3 := q.2.2.2.2
  have e : qL (a + 1) = some 60 := by
    unfold qL
    have hb : (a + 1).blt 111 = true := Nat.ble_eq.mpr h1
    rw [if_pos hb, h2]
    simp only [h3]
  unfold qLd
  rw [e]
  exact ⟨rfl, rfl⟩
theorem hold_loop {a N : Nat} {s : Int32} (q : shA a) (hN : N ≤ 60) : ∀ (k i : Nat) (la : La), i + k = N → Rr X d MSh_holdRow 17 [.ref a, .int s, .int (nI N), .int (nI i)] [] (Wd mu la ro et) = some (none, Wd mu (zrJ la (a + 1) i N) ro et) := by
  intro k
  induction k with
  | zero =>
    intro i la hi
    have : i = N := by omega
    subst this
    have h1 : nI i ≤ nI i := nI_le (Nat.le_refl _) (by omega)
    rw [r_MSh_holdRow_17, zrJ_n]
    simp only [r_MSh_holdRow_18, r_MSh_holdRow_19, r_MSh_holdRow_44, sL_0, sL_1, sL_2, mk_i, mk_r, mk_f, mk_n, mk_u, mk_l, List.set_cons_succ, List.set_cons_zero, Nat.reduceAdd, ckS_0, ckS_1, ckS_2, ckS_3, ckS_4, Option.bind_some, Option.isSome_some, psh, if_true, if_false, h1]
  | succ k ih =>
    intro i la hi
    have h1 : ¬ nI N ≤ nI i := nI_ge (by omega) (by omega)
    have h2 : ¬ Int32.ofNat 60 ≤ nI i := nI_ge (a := i) (b := 60) (by omega) (by omega)
    have c0 : (nI i).toNatClampNeg = i := nI_clamp (by omega)
    have i0 := ix (j := i) (N := 60) (by omega) (by omega)
    obtain ⟨l1, l2⟩ := shA_L q
    have e := ih (i + 1) (upJ la (a + 1) i 0) (by omega)
    rw [zrJ_s (by omega)] at e
    rw [r_MSh_holdRow_17]
    simp only [r_MSh_holdRow_18, r_MSh_holdRow_19, r_MSh_holdRow_22, r_MSh_holdRow_23, r_MSh_holdRow_24, r_MSh_holdRow_27, r_MSh_holdRow_28, r_MSh_holdRow_31, r_MSh_holdRow_32, r_MSh_holdRow_35, r_MSh_holdRow_36, r_MSh_holdRow_37, r_MSh_holdRow_38, r_MSh_holdRow_41, sL_0, sL_1, sL_2, mk_i, mk_r, mk_f, mk_n, mk_u, mk_l, List.set_cons_succ, List.set_cons_zero, Nat.reduceAdd, ckS_0, ckS_1, ckS_2, ckS_3, ckS_4, Option.bind_some, Option.isSome_some, psh, if_true, if_false, i10, not_true_eq_false, not_false_eq_true, Bool.false_eq_true, and_self, and_true, true_and, eq_self, q.2.1, q.2.2.1, q.2.2.2.1, q.2.2.2.2, l1, l2, h1, h2, c0, i0, nI_1]
    exact e
noncomputable def rowMu (mu : Mu) (a : Nat) (t n : Int32) : Mu := up2 (up2 (up2 mu a 1 (-1)) a 2 t) a 3 n
theorem e_holdRow {a N : Nat} {t : Int32} (q : shA a) (hN : N ≤ 60) : Rr X d MSh_holdRow 0 [.ref a, .int t, .int (nI N), mkU] [] (Wd mu la ro et) = some (none, Wd (rowMu mu a t (nI N)) (zrJ la (a + 1) 0 N) ro et) := by
  have e := hold_loop (X := X) (d := d) (mu := rowMu mu a t (nI N)) (ro := ro) (et := et) (s := t) q hN N 0 la (by omega)
  rw [nI_0] at e
  unfold rowMu at e ⊢
  simp only [r_MSh_holdRow_0, r_MSh_holdRow_1, r_MSh_holdRow_2, r_MSh_holdRow_5, r_MSh_holdRow_6, r_MSh_holdRow_7, r_MSh_holdRow_10, r_MSh_holdRow_11, r_MSh_holdRow_12, r_MSh_holdRow_15, r_MSh_holdRow_16, sL_0, sL_1, sL_2, mk_i, mk_r, mk_f, mk_n, mk_u, mk_l, List.set_cons_succ, List.set_cons_zero, Nat.reduceAdd, ckS_0, ckS_1, ckS_2, ckS_3, ckS_4, Option.bind_some, Option.isSome_some, psh, if_true, if_false, i10, not_true_eq_false, not_false_eq_true, Bool.false_eq_true, and_self, and_true, true_and, eq_self, q.1.2.1, q.1.2.2.1, q.1.2.2.2]
  exact e
noncomputable def rwOk (s t n : Int32) : Bool := decide ((0 ≤ s ∧ s ≤ 5) ∧ (0 ≤ t ∧ t ≤ 4) ∧ n ≤ 60)
noncomputable def rwR (s t n : Int32) : Int32 := if rwOk s t n = true then (if n < 0 then -14 else 1) else -1
theorem e_rowC {s t n : Int32} (hr : rOk ro) : ∃ mu' la', Rr X (d + 2) MTo_row 0 [.ref 0, .int s, .int t, .int n, mkU] [] (Wd mu la ro et) = some (some (.int (rwR s t n)), Wd mu' la' ro et) ∧ ((rwOk s t n = true ∧ 0 ≤ n ∧ ∃ S N, S < 6 ∧ N ≤ 60 ∧ s = nI S ∧ n = nI N ∧ mu' = rowMu mu (69 + 2 * S) t n ∧ la' = zrJ la (69 + 2 * S + 1) 0 N) ∨ (¬ (rwOk s t n = true ∧ 0 ≤ n) ∧ mu' = mu ∧ la' = la)) := by
  unfold rwR rwOk
  by_cases c1 : 0 ≤ s ∧ s ≤ 5
  · obtain ⟨S, hS, rfl⟩ := i_06 c1
    have qS := shA_of hS
    have eS := e_shelfAt (X := X) (d := d) (mu := mu) (la := la) (et := et) hr hS
    by_cases c2 : 0 ≤ t ∧ t ≤ 4
    · by_cases c3 : n ≤ 60
      · rw [if_pos (decide_eq_true ⟨c1, c2, c3⟩)]
        by_cases c4 : n < 0
        · have c5 : ¬ 0 ≤ n := Int32.not_le.mpr c4
          refine ⟨mu, la, ?_, .inr ⟨fun q => c5 q.2, rfl, rfl⟩⟩
          simp only [r_MTo_row_0, r_MTo_row_1, r_MTo_row_2, r_MTo_row_5, r_MTo_row_5n, r_MTo_row_7, r_MTo_row_7n, r_MTo_row_9, r_MTo_row_9n, r_MTo_row_12, r_MTo_row_13, r_MTo_row_14, r_MTo_row_15, r_MTo_row_18, r_MTo_row_21, r_MTo_row_22, r_MTo_row_24, r_MTo_row_27, r_MTo_row_28, r_MTo_row_29, r_MTo_row_30, r_MTo_row_33, r_MTo_row_35, r_MTo_row_36, r_MTo_row_36n, r_MTo_row_38, r_MTo_row_39, r_MTo_row_40, r_MTo_row_43, r_MTo_row_44, sL_0, sL_1, sL_2, mk_i, mk_r, mk_f, mk_n, mk_u, mk_l, List.set_cons_succ, List.set_cons_zero, Nat.reduceAdd, ckS_0, ckS_1, ckS_2, ckS_3, ckS_4, Option.bind_some, Option.isSome_some, psh, if_true, if_false, i10, not_true_eq_false, not_false_eq_true, Bool.false_eq_true, and_self, and_true, true_and, eq_self, qI_0_9, qI_0_10, qR_0_0, qRd_0_0, qR_0_1, qRd_0_1, qR_0_2, qRd_0_2, qR_0_3, qRd_0_3, qR_0_4, qRd_0_4, qR_0_5, qRd_0_5, qR_0_6, qRd_0_6, qR_0_7, qRd_0_7, qR_0_8, qRd_0_8, qO_0, eS, e_isWithin, c2, c3, c4, c5]
        · have c5 : 0 ≤ n := Int32.not_lt.mp c4
          obtain ⟨N, hN, rfl⟩ : ∃ N : Nat, N ≤ 60 ∧ n = nI N := nI_of2 (M := 60) (n := 60) rfl c4 c3
          have e := e_holdRow (X := X) (d := d + 1) (mu := mu) (la := la) (ro := ro) (et := et) (t := t) qS hN
          refine ⟨_, _, ?_, .inl ⟨decide_eq_true ⟨c1, c2, c3⟩, c5, S, N, hS, hN, rfl, rfl, rfl, rfl⟩⟩
          rw [if_neg c4]
          simp only [r_MTo_row_0, r_MTo_row_1, r_MTo_row_2, r_MTo_row_5, r_MTo_row_5n, r_MTo_row_7, r_MTo_row_7n, r_MTo_row_9, r_MTo_row_9n, r_MTo_row_12, r_MTo_row_13, r_MTo_row_14, r_MTo_row_15, r_MTo_row_18, r_MTo_row_21, r_MTo_row_22, r_MTo_row_24, r_MTo_row_27, r_MTo_row_28, r_MTo_row_29, r_MTo_row_30, r_MTo_row_33, r_MTo_row_35, r_MTo_row_36, r_MTo_row_36n, r_MTo_row_38, r_MTo_row_39, r_MTo_row_40, r_MTo_row_43, r_MTo_row_44, sL_0, sL_1, sL_2, mk_i, mk_r, mk_f, mk_n, mk_u, mk_l, List.set_cons_succ, List.set_cons_zero, Nat.reduceAdd, ckS_0, ckS_1, ckS_2, ckS_3, ckS_4, Option.bind_some, Option.isSome_some, psh, if_true, if_false, i10, not_true_eq_false, not_false_eq_true, Bool.false_eq_true, and_self, and_true, true_and, eq_self, qI_0_9, qI_0_10, qR_0_0, qRd_0_0, qR_0_1, qRd_0_1, qR_0_2, qRd_0_2, qR_0_3, qRd_0_3, qR_0_4, qRd_0_4, qR_0_5, qRd_0_5, qR_0_6, qRd_0_6, qR_0_7, qRd_0_7, qR_0_8, qRd_0_8, qO_0, eS, e_isWithin, c2, c3, c5, qS.1.1, e]
      · rw [if_neg (by rw [decide_eq_true_eq]; exact fun q => c3 q.2.2)]
        refine ⟨mu, la, ?_, .inr ⟨fun q => c3 (of_decide_eq_true q.1).2.2, rfl, rfl⟩⟩
        simp only [r_MTo_row_0, r_MTo_row_1, r_MTo_row_2, r_MTo_row_5, r_MTo_row_5n, r_MTo_row_7, r_MTo_row_7n, r_MTo_row_9, r_MTo_row_9n, r_MTo_row_12, r_MTo_row_13, r_MTo_row_14, r_MTo_row_15, r_MTo_row_18, r_MTo_row_21, r_MTo_row_22, r_MTo_row_24, r_MTo_row_27, r_MTo_row_28, r_MTo_row_29, r_MTo_row_30, r_MTo_row_33, r_MTo_row_35, r_MTo_row_36, r_MTo_row_36n, r_MTo_row_38, r_MTo_row_39, r_MTo_row_40, r_MTo_row_43, r_MTo_row_44, sL_0, sL_1, sL_2, mk_i, mk_r, mk_f, mk_n, mk_u, mk_l, List.set_cons_succ, List.set_cons_zero, Nat.reduceAdd, ckS_0, ckS_1, ckS_2, ckS_3, ckS_4, Option.bind_some, Option.isSome_some, psh, if_true, if_false, i10, not_true_eq_false, not_false_eq_true, Bool.false_eq_true, and_self, and_true, true_and, eq_self, qI_0_9, qI_0_10, qR_0_0, qRd_0_0, qR_0_1, qRd_0_1, qR_0_2, qRd_0_2, qR_0_3, qRd_0_3, qR_0_4, qRd_0_4, qR_0_5, qRd_0_5, qR_0_6, qRd_0_6, qR_0_7, qRd_0_7, qR_0_8, qRd_0_8, qO_0, eS, e_isWithin, c2, c3]
    · rw [if_neg (by rw [decide_eq_true_eq]; exact fun q => c2 q.2.1)]
      refine ⟨mu, la, ?_, .inr ⟨fun q => c2 (of_decide_eq_true q.1).2.1, rfl, rfl⟩⟩
      simp only [r_MTo_row_0, r_MTo_row_1, r_MTo_row_2, r_MTo_row_5, r_MTo_row_5n, r_MTo_row_7, r_MTo_row_7n, r_MTo_row_9, r_MTo_row_9n, r_MTo_row_12, r_MTo_row_13, r_MTo_row_14, r_MTo_row_15, r_MTo_row_18, r_MTo_row_21, r_MTo_row_22, r_MTo_row_24, r_MTo_row_27, r_MTo_row_28, r_MTo_row_29, r_MTo_row_30, r_MTo_row_33, r_MTo_row_35, r_MTo_row_36, r_MTo_row_36n, r_MTo_row_38, r_MTo_row_39, r_MTo_row_40, r_MTo_row_43, r_MTo_row_44, sL_0, sL_1, sL_2, mk_i, mk_r, mk_f, mk_n, mk_u, mk_l, List.set_cons_succ, List.set_cons_zero, Nat.reduceAdd, ckS_0, ckS_1, ckS_2, ckS_3, ckS_4, Option.bind_some, Option.isSome_some, psh, if_true, if_false, i10, not_true_eq_false, not_false_eq_true, Bool.false_eq_true, and_self, and_true, true_and, eq_self, qI_0_9, qI_0_10, qR_0_0, qRd_0_0, qR_0_1, qRd_0_1, qR_0_2, qRd_0_2, qR_0_3, qRd_0_3, qR_0_4, qRd_0_4, qR_0_5, qRd_0_5, qR_0_6, qRd_0_6, qR_0_7, qRd_0_7, qR_0_8, qRd_0_8, qO_0, eS, e_isWithin, c2]
  · rw [if_neg (by rw [decide_eq_true_eq]; exact fun q => c1 q.1)]
    refine ⟨mu, la, ?_, .inr ⟨fun q => c1 (of_decide_eq_true q.1).1, rfl, rfl⟩⟩
    simp only [r_MTo_row_0, r_MTo_row_1, r_MTo_row_2, r_MTo_row_5, r_MTo_row_5n, r_MTo_row_7, r_MTo_row_7n, r_MTo_row_9, r_MTo_row_9n, r_MTo_row_12, r_MTo_row_13, r_MTo_row_14, r_MTo_row_15, r_MTo_row_18, r_MTo_row_21, r_MTo_row_22, r_MTo_row_24, r_MTo_row_27, r_MTo_row_28, r_MTo_row_29, r_MTo_row_30, r_MTo_row_33, r_MTo_row_35, r_MTo_row_36, r_MTo_row_36n, r_MTo_row_38, r_MTo_row_39, r_MTo_row_40, r_MTo_row_43, r_MTo_row_44, sL_0, sL_1, sL_2, mk_i, mk_r, mk_f, mk_n, mk_u, mk_l, List.set_cons_succ, List.set_cons_zero, Nat.reduceAdd, ckS_0, ckS_1, ckS_2, ckS_3, ckS_4, Option.bind_some, Option.isSome_some, psh, if_true, if_false, i10, not_true_eq_false, not_false_eq_true, Bool.false_eq_true, and_self, and_true, true_and, eq_self, qI_0_9, qI_0_10, qR_0_0, qRd_0_0, qR_0_1, qRd_0_1, qR_0_2, qRd_0_2, qR_0_3, qRd_0_3, qR_0_4, qRd_0_4, qR_0_5, qRd_0_5, qR_0_6, qRd_0_6, qR_0_7, qRd_0_7, qR_0_8, qRd_0_8, qO_0, e_shelfNo c1]
theorem mrow_loop {S N : Nat} {t : Int32} (hS : S < 6) {n : Int32} : ∀ (k i : Nat) (la : La), i + k = 60 * S + 60 → Rr X d MRm_row 54 [.ref 81, .int (nI S), .int t, .int n, .int (nI i)] [] (Wd mu la ro et) = some (some (.int 1), Wd mu (zrJ la 109 i (60 * S + 60)) ro et) := by
  intro k
  have e60 : (60 : Int32) * nI S + 60 = nI (60 * S + 60) := by rw [show (60 : Int32) * nI S = nI (60 * S) from (Int32.ofNat_mul 60 S).symm]; exact nI_add (60 * S) 60
  induction k with
  | zero =>
    intro i la hi
    have : i = 60 * S + 60 := by omega
    subst this
    have h1 : nI (60 * S + 60) ≤ nI (60 * S + 60) := nI_le (Nat.le_refl _) (by omega)
    rw [r_MRm_row_54, zrJ_n]
    simp only [r_MRm_row_56, r_MRm_row_58, r_MRm_row_59, r_MRm_row_60, r_MRm_row_62, r_MRm_row_63, r_MRm_row_80, r_MRm_row_81, sL_0, sL_1, sL_2, mk_i, mk_r, mk_f, mk_n, mk_u, mk_l, List.set_cons_succ, List.set_cons_zero, Nat.reduceAdd, ckS_0, ckS_1, ckS_2, ckS_3, ckS_4, Option.bind_some, Option.isSome_some, psh, if_true, if_false, e60, h1]
  | succ k ih =>
    intro i la hi
    have h1 : ¬ nI (60 * S + 60) ≤ nI i := nI_ge (by omega) (by omega)
    have c0 : (nI i).toNatClampNeg = i := nI_clamp (by omega)
    have i0 := ix (j := i) (N := 360) (by omega) (by omega)
    have e := ih (i + 1) (upJ la 109 i 0) (by omega)
    rw [zrJ_s (by omega)] at e
    rw [r_MRm_row_54]
    simp only [r_MRm_row_56, r_MRm_row_58, r_MRm_row_59, r_MRm_row_60, r_MRm_row_62, r_MRm_row_63, r_MRm_row_66, r_MRm_row_67, r_MRm_row_70, r_MRm_row_72, r_MRm_row_73, r_MRm_row_74, r_MRm_row_77, sL_0, sL_1, sL_2, mk_i, mk_r, mk_f, mk_n, mk_u, mk_l, List.set_cons_succ, List.set_cons_zero, Nat.reduceAdd, ckS_0, ckS_1, ckS_2, ckS_3, ckS_4, Option.bind_some, Option.isSome_some, psh, if_true, if_false, i10, not_true_eq_false, not_false_eq_true, Bool.false_eq_true, and_self, and_true, true_and, eq_self, qI_81_0, qI_81_2, qI_81_3, qI_81_9, qI_81_10, qI_81_11, qI_81_12, qI_81_13, qI_81_18, qI_81_19, qI_81_20, qI_81_21, qI_81_29, qI_81_30, qI_81_31, qI_81_32, qI_81_33, qI_81_34, qI_81_35, qI_81_39, qI_81_40, qI_81_41, qI_81_42, qI_81_43, qI_81_44, qI_81_45, qI_81_46, qI_81_47, qI_81_51, qI_81_53, qR_81_1, qRd_81_1, qR_81_4, qRd_81_4, qR_81_5, qRd_81_5, qR_81_6, qRd_81_6, qR_81_7, qRd_81_7, qR_81_8, qRd_81_8, qR_81_14, qRd_81_14, qR_81_15, qRd_81_15, qR_81_16, qRd_81_16, qR_81_17, qRd_81_17, qR_81_22, qRd_81_22, qR_81_23, qRd_81_23, qR_81_24, qRd_81_24, qR_81_25, qRd_81_25, qR_81_26, qRd_81_26, qR_81_27, qRd_81_27, qR_81_28, qRd_81_28, qR_81_36, qRd_81_36, qR_81_37, qRd_81_37, qR_81_38, qRd_81_38, qR_81_48, qRd_81_48, qR_81_49, qRd_81_49, qR_81_50, qRd_81_50, qR_81_52, qRd_81_52, qR_81_54, qRd_81_54, qR_81_55, qRd_81_55, qR_81_56, qRd_81_56, qR_81_57, qRd_81_57, qR_81_58, qRd_81_58, qJ_109, qJd_109, qO_81, qL_109, qLd_109, e60, h1, c0, i0, nI_1]
    exact e
theorem e_rowM {s t n : Int32} : ∃ mu' la', Rr X (d + 2) MRm_row 0 [.ref 81, .int s, .int t, .int n, mkU] [] (Wd mu la ro et) = some (some (.int (rwR s t n)), Wd mu' la' ro et) ∧ ((rwOk s t n = true ∧ 0 ≤ n ∧ ∃ S N, S < 6 ∧ N ≤ 60 ∧ s = nI S ∧ n = nI N ∧ mu' = up2 (up2 mu 107 S (-2 - t)) 108 S n ∧ la' = zrJ la 109 (60 * S) (60 * S + 60)) ∨ (¬ (rwOk s t n = true ∧ 0 ≤ n) ∧ mu' = mu ∧ la' = la)) := by
  unfold rwR rwOk
  by_cases c1 : 0 ≤ s ∧ s ≤ 5
  · obtain ⟨S, hS, rfl⟩ := i_06 c1
    by_cases c2 : 0 ≤ t ∧ t ≤ 4
    · by_cases c3 : n ≤ 60
      · rw [if_pos (decide_eq_true ⟨c1, c2, c3⟩)]
        by_cases c4 : n < 0
        · have c5 : ¬ 0 ≤ n := Int32.not_le.mpr c4
          refine ⟨mu, la, ?_, .inr ⟨fun q => c5 q.2, rfl, rfl⟩⟩
          simp only [r_MRm_row_0, r_MRm_row_1, r_MRm_row_4, r_MRm_row_7, r_MRm_row_8, r_MRm_row_9, r_MRm_row_10, r_MRm_row_13, r_MRm_row_16, r_MRm_row_17, r_MRm_row_19, r_MRm_row_22, r_MRm_row_23, r_MRm_row_24, r_MRm_row_25, r_MRm_row_28, r_MRm_row_30, sL_0, sL_1, sL_2, mk_i, mk_r, mk_f, mk_n, mk_u, mk_l, List.set_cons_succ, List.set_cons_zero, Nat.reduceAdd, ckS_0, ckS_1, ckS_2, ckS_3, ckS_4, Option.bind_some, Option.isSome_some, psh, if_true, if_false, i10, not_true_eq_false, not_false_eq_true, Bool.false_eq_true, and_self, and_true, true_and, eq_self, qI_81_0, qI_81_2, qI_81_3, qI_81_9, qI_81_10, qI_81_11, qI_81_12, qI_81_13, qI_81_18, qI_81_19, qI_81_20, qI_81_21, qI_81_29, qI_81_30, qI_81_31, qI_81_32, qI_81_33, qI_81_34, qI_81_35, qI_81_39, qI_81_40, qI_81_41, qI_81_42, qI_81_43, qI_81_44, qI_81_45, qI_81_46, qI_81_47, qI_81_51, qI_81_53, qR_81_1, qRd_81_1, qR_81_4, qRd_81_4, qR_81_5, qRd_81_5, qR_81_6, qRd_81_6, qR_81_7, qRd_81_7, qR_81_8, qRd_81_8, qR_81_14, qRd_81_14, qR_81_15, qRd_81_15, qR_81_16, qRd_81_16, qR_81_17, qRd_81_17, qR_81_22, qRd_81_22, qR_81_23, qRd_81_23, qR_81_24, qRd_81_24, qR_81_25, qRd_81_25, qR_81_26, qRd_81_26, qR_81_27, qRd_81_27, qR_81_28, qRd_81_28, qR_81_36, qRd_81_36, qR_81_37, qRd_81_37, qR_81_38, qRd_81_38, qR_81_48, qRd_81_48, qR_81_49, qRd_81_49, qR_81_50, qRd_81_50, qR_81_52, qRd_81_52, qR_81_54, qRd_81_54, qR_81_55, qRd_81_55, qR_81_56, qRd_81_56, qR_81_57, qRd_81_57, qR_81_58, qRd_81_58, qO_81, e_isShelf, e_in, c1, c2, c3, c4, c5]
        · have c5 : 0 ≤ n := Int32.not_lt.mp c4
          obtain ⟨N, hN, rfl⟩ : ∃ N : Nat, N ≤ 60 ∧ n = nI N := nI_of2 (M := 60) (n := 60) rfl c4 c3
          have cS : (nI S).toNatClampNeg = S := nI_clamp (by omega)
          have iS := ix (j := S) (N := 6) hS (by decide)
          have e60 : (60 : Int32) * nI S = nI (60 * S) := (Int32.ofNat_mul 60 S).symm
          have e := mrow_loop (X := X) (d := d + 2) (mu := up2 (up2 mu 107 S (-2 - t)) 108 S (nI N)) (ro := ro) (et := et) (t := t) (n := nI N) (N := N) hS 60 (60 * S) la (by omega)
          refine ⟨_, _, ?_, .inl ⟨decide_eq_true ⟨c1, c2, c3⟩, c5, S, N, hS, hN, rfl, rfl, rfl, rfl⟩⟩
          rw [if_neg c4]
          have c1' : 0 ≤ nI S ∧ nI S ≤ 5 := c1
          simp only [r_MRm_row_0, r_MRm_row_1, r_MRm_row_4, r_MRm_row_7, r_MRm_row_8, r_MRm_row_9, r_MRm_row_10, r_MRm_row_13, r_MRm_row_16, r_MRm_row_17, r_MRm_row_19, r_MRm_row_22, r_MRm_row_23, r_MRm_row_24, r_MRm_row_25, r_MRm_row_28, r_MRm_row_30, r_MRm_row_31, r_MRm_row_32, r_MRm_row_35, r_MRm_row_36, r_MRm_row_38, r_MRm_row_39, r_MRm_row_40, r_MRm_row_41, r_MRm_row_42, r_MRm_row_45, r_MRm_row_46, r_MRm_row_47, r_MRm_row_48, r_MRm_row_50, r_MRm_row_51, r_MRm_row_52, sL_0, sL_1, sL_2, mk_i, mk_r, mk_f, mk_n, mk_u, mk_l, List.set_cons_succ, List.set_cons_zero, Nat.reduceAdd, ckS_0, ckS_1, ckS_2, ckS_3, ckS_4, Option.bind_some, Option.isSome_some, psh, if_true, if_false, i10, not_true_eq_false, not_false_eq_true, Bool.false_eq_true, and_self, and_true, true_and, eq_self, qI_81_0, qI_81_2, qI_81_3, qI_81_9, qI_81_10, qI_81_11, qI_81_12, qI_81_13, qI_81_18, qI_81_19, qI_81_20, qI_81_21, qI_81_29, qI_81_30, qI_81_31, qI_81_32, qI_81_33, qI_81_34, qI_81_35, qI_81_39, qI_81_40, qI_81_41, qI_81_42, qI_81_43, qI_81_44, qI_81_45, qI_81_46, qI_81_47, qI_81_51, qI_81_53, qR_81_1, qRd_81_1, qR_81_4, qRd_81_4, qR_81_5, qRd_81_5, qR_81_6, qRd_81_6, qR_81_7, qRd_81_7, qR_81_8, qRd_81_8, qR_81_14, qRd_81_14, qR_81_15, qRd_81_15, qR_81_16, qRd_81_16, qR_81_17, qRd_81_17, qR_81_22, qRd_81_22, qR_81_23, qRd_81_23, qR_81_24, qRd_81_24, qR_81_25, qRd_81_25, qR_81_26, qRd_81_26, qR_81_27, qRd_81_27, qR_81_28, qRd_81_28, qR_81_36, qRd_81_36, qR_81_37, qRd_81_37, qR_81_38, qRd_81_38, qR_81_48, qRd_81_48, qR_81_49, qRd_81_49, qR_81_50, qRd_81_50, qR_81_52, qRd_81_52, qR_81_54, qRd_81_54, qR_81_55, qRd_81_55, qR_81_56, qRd_81_56, qR_81_57, qRd_81_57, qR_81_58, qRd_81_58, qA_107, qAd_107, qA_108, qAd_108, qO_81, qL_107, qLd_107, qL_108, qLd_108, e_isShelf, e_in, c1', c2, c3, c5, cS, iS, e60, e]
      · rw [if_neg (by rw [decide_eq_true_eq]; exact fun q => c3 q.2.2)]
        refine ⟨mu, la, ?_, .inr ⟨fun q => c3 (of_decide_eq_true q.1).2.2, rfl, rfl⟩⟩
        simp only [r_MRm_row_0, r_MRm_row_1, r_MRm_row_4, r_MRm_row_7, r_MRm_row_8, r_MRm_row_9, r_MRm_row_10, r_MRm_row_13, r_MRm_row_16, r_MRm_row_17, r_MRm_row_19, r_MRm_row_22, r_MRm_row_23, r_MRm_row_24, r_MRm_row_25, r_MRm_row_28, r_MRm_row_30, sL_0, sL_1, sL_2, mk_i, mk_r, mk_f, mk_n, mk_u, mk_l, List.set_cons_succ, List.set_cons_zero, Nat.reduceAdd, ckS_0, ckS_1, ckS_2, ckS_3, ckS_4, Option.bind_some, Option.isSome_some, psh, if_true, if_false, i10, not_true_eq_false, not_false_eq_true, Bool.false_eq_true, and_self, and_true, true_and, eq_self, qI_81_0, qI_81_2, qI_81_3, qI_81_9, qI_81_10, qI_81_11, qI_81_12, qI_81_13, qI_81_18, qI_81_19, qI_81_20, qI_81_21, qI_81_29, qI_81_30, qI_81_31, qI_81_32, qI_81_33, qI_81_34, qI_81_35, qI_81_39, qI_81_40, qI_81_41, qI_81_42, qI_81_43, qI_81_44, qI_81_45, qI_81_46, qI_81_47, qI_81_51, qI_81_53, qR_81_1, qRd_81_1, qR_81_4, qRd_81_4, qR_81_5, qRd_81_5, qR_81_6, qRd_81_6, qR_81_7, qRd_81_7, qR_81_8, qRd_81_8, qR_81_14, qRd_81_14, qR_81_15, qRd_81_15, qR_81_16, qRd_81_16, qR_81_17, qRd_81_17, qR_81_22, qRd_81_22, qR_81_23, qRd_81_23, qR_81_24, qRd_81_24, qR_81_25, qRd_81_25, qR_81_26, qRd_81_26, qR_81_27, qRd_81_27, qR_81_28, qRd_81_28, qR_81_36, qRd_81_36, qR_81_37, qRd_81_37, qR_81_38, qRd_81_38, qR_81_48, qRd_81_48, qR_81_49, qRd_81_49, qR_81_50, qRd_81_50, qR_81_52, qRd_81_52, qR_81_54, qRd_81_54, qR_81_55, qRd_81_55, qR_81_56, qRd_81_56, qR_81_57, qRd_81_57, qR_81_58, qRd_81_58, qO_81, e_isShelf, e_in, c1, c2, c3]
    · rw [if_neg (by rw [decide_eq_true_eq]; exact fun q => c2 q.2.1)]
      refine ⟨mu, la, ?_, .inr ⟨fun q => c2 (of_decide_eq_true q.1).2.1, rfl, rfl⟩⟩
      simp only [r_MRm_row_0, r_MRm_row_1, r_MRm_row_4, r_MRm_row_7, r_MRm_row_8, r_MRm_row_9, r_MRm_row_10, r_MRm_row_13, r_MRm_row_16, r_MRm_row_17, r_MRm_row_19, r_MRm_row_22, r_MRm_row_23, r_MRm_row_24, r_MRm_row_25, r_MRm_row_28, r_MRm_row_30, sL_0, sL_1, sL_2, mk_i, mk_r, mk_f, mk_n, mk_u, mk_l, List.set_cons_succ, List.set_cons_zero, Nat.reduceAdd, ckS_0, ckS_1, ckS_2, ckS_3, ckS_4, Option.bind_some, Option.isSome_some, psh, if_true, if_false, i10, not_true_eq_false, not_false_eq_true, Bool.false_eq_true, and_self, and_true, true_and, eq_self, qI_81_0, qI_81_2, qI_81_3, qI_81_9, qI_81_10, qI_81_11, qI_81_12, qI_81_13, qI_81_18, qI_81_19, qI_81_20, qI_81_21, qI_81_29, qI_81_30, qI_81_31, qI_81_32, qI_81_33, qI_81_34, qI_81_35, qI_81_39, qI_81_40, qI_81_41, qI_81_42, qI_81_43, qI_81_44, qI_81_45, qI_81_46, qI_81_47, qI_81_51, qI_81_53, qR_81_1, qRd_81_1, qR_81_4, qRd_81_4, qR_81_5, qRd_81_5, qR_81_6, qRd_81_6, qR_81_7, qRd_81_7, qR_81_8, qRd_81_8, qR_81_14, qRd_81_14, qR_81_15, qRd_81_15, qR_81_16, qRd_81_16, qR_81_17, qRd_81_17, qR_81_22, qRd_81_22, qR_81_23, qRd_81_23, qR_81_24, qRd_81_24, qR_81_25, qRd_81_25, qR_81_26, qRd_81_26, qR_81_27, qRd_81_27, qR_81_28, qRd_81_28, qR_81_36, qRd_81_36, qR_81_37, qRd_81_37, qR_81_38, qRd_81_38, qR_81_48, qRd_81_48, qR_81_49, qRd_81_49, qR_81_50, qRd_81_50, qR_81_52, qRd_81_52, qR_81_54, qRd_81_54, qR_81_55, qRd_81_55, qR_81_56, qRd_81_56, qR_81_57, qRd_81_57, qR_81_58, qRd_81_58, qO_81, e_isShelf, e_in, c1, c2]
  · rw [if_neg (by rw [decide_eq_true_eq]; exact fun q => c1 q.1)]
    refine ⟨mu, la, ?_, .inr ⟨fun q => c1 (of_decide_eq_true q.1).1, rfl, rfl⟩⟩
    simp only [r_MRm_row_0, r_MRm_row_1, r_MRm_row_4, r_MRm_row_7, r_MRm_row_8, r_MRm_row_9, r_MRm_row_10, r_MRm_row_13, r_MRm_row_16, r_MRm_row_17, r_MRm_row_19, r_MRm_row_22, r_MRm_row_23, r_MRm_row_24, r_MRm_row_25, r_MRm_row_28, r_MRm_row_30, sL_0, sL_1, sL_2, mk_i, mk_r, mk_f, mk_n, mk_u, mk_l, List.set_cons_succ, List.set_cons_zero, Nat.reduceAdd, ckS_0, ckS_1, ckS_2, ckS_3, ckS_4, Option.bind_some, Option.isSome_some, psh, if_true, if_false, i10, not_true_eq_false, not_false_eq_true, Bool.false_eq_true, and_self, and_true, true_and, eq_self, qI_81_0, qI_81_2, qI_81_3, qI_81_9, qI_81_10, qI_81_11, qI_81_12, qI_81_13, qI_81_18, qI_81_19, qI_81_20, qI_81_21, qI_81_29, qI_81_30, qI_81_31, qI_81_32, qI_81_33, qI_81_34, qI_81_35, qI_81_39, qI_81_40, qI_81_41, qI_81_42, qI_81_43, qI_81_44, qI_81_45, qI_81_46, qI_81_47, qI_81_51, qI_81_53, qR_81_1, qRd_81_1, qR_81_4, qRd_81_4, qR_81_5, qRd_81_5, qR_81_6, qRd_81_6, qR_81_7, qRd_81_7, qR_81_8, qRd_81_8, qR_81_14, qRd_81_14, qR_81_15, qRd_81_15, qR_81_16, qRd_81_16, qR_81_17, qRd_81_17, qR_81_22, qRd_81_22, qR_81_23, qRd_81_23, qR_81_24, qRd_81_24, qR_81_25, qRd_81_25, qR_81_26, qRd_81_26, qR_81_27, qRd_81_27, qR_81_28, qRd_81_28, qR_81_36, qRd_81_36, qR_81_37, qRd_81_37, qR_81_38, qRd_81_38, qR_81_48, qRd_81_48, qR_81_49, qRd_81_49, qR_81_50, qRd_81_50, qR_81_52, qRd_81_52, qR_81_54, qRd_81_54, qR_81_55, qRd_81_55, qR_81_56, qRd_81_56, qR_81_57, qRd_81_57, qR_81_58, qRd_81_58, qO_81, e_isShelf, c1]
end
