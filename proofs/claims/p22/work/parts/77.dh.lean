-- ===== shelves: shift and put, answers alike
section
variable {X : Tok} {d : Nat} {mu mu' : Mu} {la la' : La} {ro ro' : Ro} {et : Nat → Option va_E}
theorem nI_nm {b : Nat} (h : b < 2 ^ 31) : ¬ nI b = -1 := fun q => by
  have e := congrArg Int32.toInt q
  rw [nI_toInt h, show (-1 : Int32).toInt = -1 from rfl] at e
  omega
theorem m2_toInt {T : Nat} (h : T ≤ 4) : (-2 - nI T).toInt = -2 - (T : Int) := by
  rw [Int32.toInt_sub, nI_toInt (by omega), show (-2 : Int32).toInt = -2 from rfl]
  exact Int.bmod_eq_of_le (by omega) (by omega)
theorem m2_nm {T : Nat} (h : T ≤ 4) : ¬ -2 - nI T = -1 := fun q => by
  have e := congrArg Int32.toInt q
  rw [m2_toInt h, show (-1 : Int32).toInt = -1 from rfl] at e
  omega
theorem m2_neg {T : Nat} (h : T ≤ 4) : ¬ 0 ≤ -2 - nI T := fun q => by
  rw [Int32.le_iff_toInt_le, m2_toInt h, show (0 : Int32).toInt = 0 from rfl] at q
  omega
theorem m2_eq {T T' : Nat} (h : T ≤ 4) (h' : T' ≤ 4) (q : -2 - nI T = -2 - nI T') : T = T' := by
  have e := congrArg Int32.toInt q
  rw [m2_toInt h, m2_toInt h'] at e
  omega
theorem emp_iff {n S : Nat} (hn : n ≤ 50) (h : shS n mu S) : empC mu (69 + 2 * S) = true ↔ mu 107 S = -1 := by
  unfold empC
  rw [decide_eq_true_eq]
  rcases h with ⟨p1, p2, p3⟩ | ⟨b, hb, p1, p2, p3⟩ | ⟨T, N, hT, hN, p1, p2, p3, p4, p5⟩
  · exact ⟨fun _ => p1, fun _ => ⟨p3, p2⟩⟩
  · rw [p1, p2]
    exact ⟨fun q => absurd q.2 (nI_nm (by omega)), fun q => absurd q (nI_nm (by omega))⟩
  · rw [p1, p3]
    exact ⟨fun q => absurd q.1 (nI_nm (by omega)), fun q => absurd q (m2_nm hT)⟩
theorem sh_eq {n S O : Nat} {i j x : Int32} (hn : n ≤ 50) (hS : shS n mu S) (hO : shS n mu O) : shR mu (69 + 2 * S) (69 + 2 * O) i j x = smR mu S O i j x := by
  have eS := emp_iff hn hS
  have eO := emp_iff hn hO
  unfold shR smR
  by_cases c1 : mu 107 S = -1
  · rw [if_pos (eS.mpr c1), if_pos c1]
  · rw [if_neg (fun q => c1 (eS.mp q)), if_neg c1]
    by_cases c2 : mu 107 O = -1
    · rw [if_pos (eO.mpr c2), if_pos c2]
    · rw [if_neg (fun q => c2 (eO.mp q)), if_neg c2]
      rcases hS with ⟨p1, p2, p3⟩ | ⟨b, hb, p1, p2, p3⟩ | ⟨T, N, hT, hN, p1, p2, p3, p4, p5⟩
      · exact absurd p1 c1
      · have k1 : ¬ rowC mu (69 + 2 * S) = true := fun q => of_decide_eq_true q p3
        have k2 : 0 ≤ mu 107 S := by rw [p1]; exact nI_pos' (by omega)
        rw [if_neg k1, if_pos k2]
      · have k1 : rowC mu (69 + 2 * S) = true := decide_eq_true (by rw [p3]; exact nI_nm (by omega))
        have k2 : ¬ 0 ≤ mu 107 S := by rw [p1]; exact m2_neg hT
        rw [if_pos k1, if_neg k2]
        rcases hO with ⟨q1, q2, q3⟩ | ⟨b, hb, q1, q2, q3⟩ | ⟨T', N', hT', hN', q1, q2, q3, q4, q5⟩
        · exact absurd q1 c2
        · have k3 : ¬ ofC mu (69 + 2 * O) (mu (69 + 2 * S) 2) = true := fun q => (of_decide_eq_true q).1 q3
          have k4 : ¬ mu 107 S = mu 107 O := by
            rw [p1, q1]
            intro q
            have q6 := m2_neg hT
            rw [q] at q6
            exact q6 (nI_pos' (by omega))
          rw [if_neg k3, if_neg k4]
        · by_cases k : T = T'
          · subst k
            have k3 : ofC mu (69 + 2 * O) (mu (69 + 2 * S) 2) = true := decide_eq_true (by rw [p3, q3]; exact ⟨nI_nm (by omega), rfl⟩)
            have k4 : mu 107 S = mu 107 O := by rw [p1, q1]
            rw [if_pos k3, if_pos k4]
            unfold hasC hasM sgnM
            rw [p4, p5, q4, q5]
            by_cases d1 : 0 ≤ x
            · have d1' := Int32.not_lt.mpr d1
              by_cases d2 : 0 ≤ i
              · have d2' := Int32.not_lt.mpr d2
                by_cases d3 : 0 ≤ j
                · have d3' := Int32.not_lt.mpr d3
                  simp [d1, d2, d3, d1', d2', d3']
                · have d3' := Int32.not_le.mp d3
                  simp [d1, d2, d3, d1', d2', d3']
              · have d2' := Int32.not_le.mp d2
                simp [d1, d2, d1', d2']
            · have d1' := Int32.not_le.mp d1
              simp [d1, d1']
          · have k3 : ¬ ofC mu (69 + 2 * O) (mu (69 + 2 * S) 2) = true := fun q => by
              have q6 := (of_decide_eq_true q).2
              rw [p3, q3] at q6
              exact k ((nI_eq (by omega) (by omega)).mp q6.symm)
            have k4 : ¬ mu 107 S = mu 107 O := by
              rw [p1, q1]
              exact fun q => k (m2_eq hT hT' q)
            rw [if_neg k3, if_neg k4]
noncomputable def fsC (mu : Mu) (s o i j x : Int32) : Int32 := if (0 ≤ s ∧ s ≤ 5) ∧ (0 ≤ o ∧ o ≤ 5) then shR mu (69 + 2 * s.toNatClampNeg) (69 + 2 * o.toNatClampNeg) i j x else -1
noncomputable def fsM (mu : Mu) (s o i j x : Int32) : Int32 := if (0 ≤ s ∧ s ≤ 5) ∧ (0 ≤ o ∧ o ≤ 5) then smR mu s.toNatClampNeg o.toNatClampNeg i j x else -1
theorem fs_eq {s o i j x : Int32} (q : RShf mu la ro) : fsC mu s o i j x = fsM mu s o i j x := by
  obtain ⟨n, hn, _, hs⟩ := q
  unfold fsC fsM
  by_cases c : (0 ≤ s ∧ s ≤ 5) ∧ (0 ≤ o ∧ o ≤ 5)
  · rw [if_pos c, if_pos c]
    obtain ⟨S, hS, rfl⟩ := i_06 c.1
    obtain ⟨O, hO, rfl⟩ := i_06 c.2
    rw [nI_clamp (by omega), nI_clamp (by omega)]
    exact sh_eq hn (hs S hS) (hs O hO)
  · rw [if_neg c, if_neg c]
theorem x_shC {s i o j x : Int32} (hg : gOk ivG mu) (hr : rOk ro) : ∃ la', Rr X (d + 3) MTo_shift 0 [.ref 0, .int s, .int i, .int o, .int j, .int x, mkU, mkU] [] (Wd mu la ro et) = some (some (.int (fsC mu s o i j x)), Wd mu la' ro et) := by
  unfold fsC
  by_cases c1 : 0 ≤ s ∧ s ≤ 5
  · obtain ⟨S, hS, rfl⟩ := i_06 c1
    by_cases c2 : 0 ≤ o ∧ o ≤ 5
    · obtain ⟨O, hO, rfl⟩ := i_06 c2
      rw [if_pos ⟨c1, c2⟩, nI_clamp (n := S) (by omega), nI_clamp (n := O) (by omega)]
      exact ⟨_, e_shiftC hg hr hS hO⟩
    · rw [if_neg (fun q => c2 q.2)]
      exact ⟨la, by simp only [r_MTo_shift_0, r_MTo_shift_1, r_MTo_shift_2, r_MTo_shift_5, r_MTo_shift_5n, r_MTo_shift_7, r_MTo_shift_8, r_MTo_shift_9, r_MTo_shift_12, r_MTo_shift_12n, r_MTo_shift_14, r_MTo_shift_14n, r_MTo_shift_16, r_MTo_shift_16n, r_MTo_shift_19, r_MTo_shift_19n, r_MTo_shift_21, r_MTo_shift_21n, r_MTo_shift_24, r_MTo_shift_25, r_MTo_shift_26, r_MTo_shift_26n, r_MTo_shift_28, r_MTo_shift_31, r_MTo_shift_34, r_MTo_shift_34n, r_MTo_shift_36, r_MTo_shift_39, r_MTo_shift_42, r_MTo_shift_44, r_MTo_shift_45, r_MTo_shift_45n, r_MTo_shift_47, r_MTo_shift_50, r_MTo_shift_53, r_MTo_shift_53n, r_MTo_shift_55, r_MTo_shift_55n, r_MTo_shift_57, r_MTo_shift_60, r_MTo_shift_63, r_MTo_shift_66, r_MTo_shift_68, r_MTo_shift_69, r_MTo_shift_69n, r_MTo_shift_71, r_MTo_shift_72, r_MTo_shift_74, r_MTo_shift_77, r_MTo_shift_80, r_MTo_shift_80n, r_MTo_shift_82, r_MTo_shift_84, r_MTo_shift_86, r_MTo_shift_89, r_MTo_shift_92, r_MTo_shift_94, r_MTo_shift_95, r_MTo_shift_95n, r_MTo_shift_97, r_MTo_shift_100, r_MTo_shift_101, r_MTo_shift_101n, r_MTo_shift_103, r_MTo_shift_106, r_MTo_shift_108, r_MTo_shift_113, r_MTo_shift_115, sL_0, sL_1, sL_2, mk_i, mk_r, mk_f, mk_n, mk_u, mk_l, List.set_cons_succ, List.set_cons_zero, Nat.reduceAdd, ckS_0, ckS_1, ckS_2, ckS_3, ckS_4, Option.bind_some, Option.isSome_some, psh, if_true, if_false, i10, not_true_eq_false, not_false_eq_true, Bool.false_eq_true, and_self, and_true, true_and, eq_self, qI_0_9, qI_0_10, qR_0_0, qRd_0_0, qR_0_1, qRd_0_1, qR_0_2, qRd_0_2, qR_0_3, qRd_0_3, qR_0_4, qRd_0_4, qR_0_5, qRd_0_5, qR_0_6, qRd_0_6, qR_0_7, qRd_0_7, qR_0_8, qRd_0_8, qO_0, e_shelfAt hr hS, e_shelfNo c2]⟩
  · rw [if_neg (fun q => c1 q.1)]
    by_cases c2 : 0 ≤ o ∧ o ≤ 5
    · obtain ⟨O, hO, rfl⟩ := i_06 c2
      exact ⟨la, by simp only [r_MTo_shift_0, r_MTo_shift_1, r_MTo_shift_2, r_MTo_shift_5, r_MTo_shift_5n, r_MTo_shift_7, r_MTo_shift_8, r_MTo_shift_9, r_MTo_shift_12, r_MTo_shift_12n, r_MTo_shift_14, r_MTo_shift_14n, r_MTo_shift_16, r_MTo_shift_16n, r_MTo_shift_19, r_MTo_shift_19n, r_MTo_shift_21, r_MTo_shift_21n, r_MTo_shift_24, r_MTo_shift_25, r_MTo_shift_26, r_MTo_shift_26n, r_MTo_shift_28, r_MTo_shift_31, r_MTo_shift_34, r_MTo_shift_34n, r_MTo_shift_36, r_MTo_shift_39, r_MTo_shift_42, r_MTo_shift_44, r_MTo_shift_45, r_MTo_shift_45n, r_MTo_shift_47, r_MTo_shift_50, r_MTo_shift_53, r_MTo_shift_53n, r_MTo_shift_55, r_MTo_shift_55n, r_MTo_shift_57, r_MTo_shift_60, r_MTo_shift_63, r_MTo_shift_66, r_MTo_shift_68, r_MTo_shift_69, r_MTo_shift_69n, r_MTo_shift_71, r_MTo_shift_72, r_MTo_shift_74, r_MTo_shift_77, r_MTo_shift_80, r_MTo_shift_80n, r_MTo_shift_82, r_MTo_shift_84, r_MTo_shift_86, r_MTo_shift_89, r_MTo_shift_92, r_MTo_shift_94, r_MTo_shift_95, r_MTo_shift_95n, r_MTo_shift_97, r_MTo_shift_100, r_MTo_shift_101, r_MTo_shift_101n, r_MTo_shift_103, r_MTo_shift_106, r_MTo_shift_108, r_MTo_shift_113, r_MTo_shift_115, sL_0, sL_1, sL_2, mk_i, mk_r, mk_f, mk_n, mk_u, mk_l, List.set_cons_succ, List.set_cons_zero, Nat.reduceAdd, ckS_0, ckS_1, ckS_2, ckS_3, ckS_4, Option.bind_some, Option.isSome_some, psh, if_true, if_false, i10, not_true_eq_false, not_false_eq_true, Bool.false_eq_true, and_self, and_true, true_and, eq_self, qI_0_9, qI_0_10, qR_0_0, qRd_0_0, qR_0_1, qRd_0_1, qR_0_2, qRd_0_2, qR_0_3, qRd_0_3, qR_0_4, qRd_0_4, qR_0_5, qRd_0_5, qR_0_6, qRd_0_6, qR_0_7, qRd_0_7, qR_0_8, qRd_0_8, qO_0, e_shelfAt hr hO, e_shelfNo c1]⟩
    · exact ⟨la, by simp only [r_MTo_shift_0, r_MTo_shift_1, r_MTo_shift_2, r_MTo_shift_5, r_MTo_shift_5n, r_MTo_shift_7, r_MTo_shift_8, r_MTo_shift_9, r_MTo_shift_12, r_MTo_shift_12n, r_MTo_shift_14, r_MTo_shift_14n, r_MTo_shift_16, r_MTo_shift_16n, r_MTo_shift_19, r_MTo_shift_19n, r_MTo_shift_21, r_MTo_shift_21n, r_MTo_shift_24, r_MTo_shift_25, r_MTo_shift_26, r_MTo_shift_26n, r_MTo_shift_28, r_MTo_shift_31, r_MTo_shift_34, r_MTo_shift_34n, r_MTo_shift_36, r_MTo_shift_39, r_MTo_shift_42, r_MTo_shift_44, r_MTo_shift_45, r_MTo_shift_45n, r_MTo_shift_47, r_MTo_shift_50, r_MTo_shift_53, r_MTo_shift_53n, r_MTo_shift_55, r_MTo_shift_55n, r_MTo_shift_57, r_MTo_shift_60, r_MTo_shift_63, r_MTo_shift_66, r_MTo_shift_68, r_MTo_shift_69, r_MTo_shift_69n, r_MTo_shift_71, r_MTo_shift_72, r_MTo_shift_74, r_MTo_shift_77, r_MTo_shift_80, r_MTo_shift_80n, r_MTo_shift_82, r_MTo_shift_84, r_MTo_shift_86, r_MTo_shift_89, r_MTo_shift_92, r_MTo_shift_94, r_MTo_shift_95, r_MTo_shift_95n, r_MTo_shift_97, r_MTo_shift_100, r_MTo_shift_101, r_MTo_shift_101n, r_MTo_shift_103, r_MTo_shift_106, r_MTo_shift_108, r_MTo_shift_113, r_MTo_shift_115, sL_0, sL_1, sL_2, mk_i, mk_r, mk_f, mk_n, mk_u, mk_l, List.set_cons_succ, List.set_cons_zero, Nat.reduceAdd, ckS_0, ckS_1, ckS_2, ckS_3, ckS_4, Option.bind_some, Option.isSome_some, psh, if_true, if_false, i10, not_true_eq_false, not_false_eq_true, Bool.false_eq_true, and_self, and_true, true_and, eq_self, qI_0_9, qI_0_10, qR_0_0, qRd_0_0, qR_0_1, qRd_0_1, qR_0_2, qRd_0_2, qR_0_3, qRd_0_3, qR_0_4, qRd_0_4, qR_0_5, qRd_0_5, qR_0_6, qRd_0_6, qR_0_7, qRd_0_7, qR_0_8, qRd_0_8, qO_0, e_shelfNo c1, e_shelfNo c2]⟩
theorem x_shM {s i o j x : Int32} (hg : gOk ivG mu) : ∃ la', Rr X (d + 3) MRm_shift 0 [.ref 81, .int s, .int i, .int o, .int j, .int x, mkU] [] (Wd mu la ro et) = some (some (.int (fsM mu s o i j x)), Wd mu la' ro et) := by
  unfold fsM
  by_cases c1 : 0 ≤ s ∧ s ≤ 5
  · obtain ⟨S, hS, rfl⟩ := i_06 c1
    by_cases c2 : 0 ≤ o ∧ o ≤ 5
    · obtain ⟨O, hO, rfl⟩ := i_06 c2
      rw [if_pos ⟨c1, c2⟩, nI_clamp (n := S) (by omega), nI_clamp (n := O) (by omega)]
      exact ⟨_, e_shiftM hg hS hO⟩
    · rw [if_neg (fun q => c2 q.2)]
      have kS : 0 ≤ nI S ∧ nI S ≤ 5 := c1
      exact ⟨la, by simp only [r_MRm_shift_0, r_MRm_shift_1, r_MRm_shift_4, r_MRm_shift_7, r_MRm_shift_8, r_MRm_shift_11, r_MRm_shift_14, r_MRm_shift_15, sL_0, sL_1, sL_2, mk_i, mk_r, mk_f, mk_n, mk_u, mk_l, List.set_cons_succ, List.set_cons_zero, Nat.reduceAdd, ckS_0, ckS_1, ckS_2, ckS_3, ckS_4, Option.bind_some, Option.isSome_some, psh, if_true, if_false, i10, not_true_eq_false, not_false_eq_true, Bool.false_eq_true, and_self, and_true, true_and, eq_self, qI_81_0, qI_81_2, qI_81_3, qI_81_9, qI_81_10, qI_81_11, qI_81_12, qI_81_13, qI_81_18, qI_81_19, qI_81_20, qI_81_21, qI_81_29, qI_81_30, qI_81_31, qI_81_32, qI_81_33, qI_81_34, qI_81_35, qI_81_39, qI_81_40, qI_81_41, qI_81_42, qI_81_43, qI_81_44, qI_81_45, qI_81_46, qI_81_47, qI_81_51, qI_81_53, qR_81_1, qRd_81_1, qR_81_4, qRd_81_4, qR_81_5, qRd_81_5, qR_81_6, qRd_81_6, qR_81_7, qRd_81_7, qR_81_8, qRd_81_8, qR_81_14, qRd_81_14, qR_81_15, qRd_81_15, qR_81_16, qRd_81_16, qR_81_17, qRd_81_17, qR_81_22, qRd_81_22, qR_81_23, qRd_81_23, qR_81_24, qRd_81_24, qR_81_25, qRd_81_25, qR_81_26, qRd_81_26, qR_81_27, qRd_81_27, qR_81_28, qRd_81_28, qR_81_36, qRd_81_36, qR_81_37, qRd_81_37, qR_81_38, qRd_81_38, qR_81_48, qRd_81_48, qR_81_49, qRd_81_49, qR_81_50, qRd_81_50, qR_81_52, qRd_81_52, qR_81_54, qRd_81_54, qR_81_55, qRd_81_55, qR_81_56, qRd_81_56, qR_81_57, qRd_81_57, qR_81_58, qRd_81_58, qO_81, e_isShelf, kS, c2]⟩
  · rw [if_neg (fun q => c1 q.1)]
    exact ⟨la, by simp only [r_MRm_shift_0, r_MRm_shift_1, r_MRm_shift_4, r_MRm_shift_7, r_MRm_shift_8, r_MRm_shift_11, r_MRm_shift_14, r_MRm_shift_15, sL_0, sL_1, sL_2, mk_i, mk_r, mk_f, mk_n, mk_u, mk_l, List.set_cons_succ, List.set_cons_zero, Nat.reduceAdd, ckS_0, ckS_1, ckS_2, ckS_3, ckS_4, Option.bind_some, Option.isSome_some, psh, if_true, if_false, i10, not_true_eq_false, not_false_eq_true, Bool.false_eq_true, and_self, and_true, true_and, eq_self, qI_81_0, qI_81_2, qI_81_3, qI_81_9, qI_81_10, qI_81_11, qI_81_12, qI_81_13, qI_81_18, qI_81_19, qI_81_20, qI_81_21, qI_81_29, qI_81_30, qI_81_31, qI_81_32, qI_81_33, qI_81_34, qI_81_35, qI_81_39, qI_81_40, qI_81_41, qI_81_42, qI_81_43, qI_81_44, qI_81_45, qI_81_46, qI_81_47, qI_81_51, qI_81_53, qR_81_1, qRd_81_1, qR_81_4, qRd_81_4, qR_81_5, qRd_81_5, qR_81_6, qRd_81_6, qR_81_7, qRd_81_7, qR_81_8, qRd_81_8, qR_81_14, qRd_81_14, qR_81_15, qRd_81_15, qR_81_16, qRd_81_16, qR_81_17, qRd_81_17, qR_81_22, qRd_81_22, qR_81_23, qRd_81_23, qR_81_24, qRd_81_24, qR_81_25, qRd_81_25, qR_81_26, qRd_81_26, qR_81_27, qRd_81_27, qR_81_28, qRd_81_28, qR_81_36, qRd_81_36, qR_81_37, qRd_81_37, qR_81_38, qRd_81_38, qR_81_48, qRd_81_48, qR_81_49, qRd_81_49, qR_81_50, qRd_81_50, qR_81_52, qRd_81_52, qR_81_54, qRd_81_54, qR_81_55, qRd_81_55, qR_81_56, qRd_81_56, qR_81_57, qRd_81_57, qR_81_58, qRd_81_58, qO_81, e_isShelf, c1]⟩
-- why no place: put, element
noncomputable def rfC (mu : Mu) (a : Nat) (i : Int32) : Int32 := if empC mu a = true then -11 else if rowC mu a = true then (if hasC mu a i 1 = true then 0 else -13) else -12
noncomputable def rfM (mu : Mu) (S : Nat) (i : Int32) : Int32 := if mu 107 S = -1 then -11 else if 0 ≤ mu 107 S then -12 else if 0 ≤ i ∧ i ≤ mu 108 S - 1 then 0 else -13
theorem rf_eq {n S : Nat} {i : Int32} (hn : n ≤ 50) (hS : shS n mu S) : rfC mu (69 + 2 * S) i = rfM mu S i := by
  have eS := emp_iff hn hS
  unfold rfC rfM
  by_cases c1 : mu 107 S = -1
  · rw [if_pos (eS.mpr c1), if_pos c1]
  · rw [if_neg (fun q => c1 (eS.mp q)), if_neg c1]
    rcases hS with ⟨p1, p2, p3⟩ | ⟨b, hb, p1, p2, p3⟩ | ⟨T, N, hT, hN, p1, p2, p3, p4, p5⟩
    · exact absurd p1 c1
    · have k1 : ¬ rowC mu (69 + 2 * S) = true := fun q => of_decide_eq_true q p3
      have k2 : 0 ≤ mu 107 S := by rw [p1]; exact nI_pos' (by omega)
      rw [if_neg k1, if_pos k2]
    · have k1 : rowC mu (69 + 2 * S) = true := decide_eq_true (by rw [p3]; exact nI_nm (by omega))
      have k2 : ¬ 0 ≤ mu 107 S := by rw [p1]; exact m2_neg hT
      rw [if_pos k1, if_neg k2]
      unfold hasC
      rw [p4, p5]
      have one : (0 : Int32) ≤ 1 := by decide
      by_cases d2 : 0 ≤ i ∧ i ≤ nI N - 1
      · rw [if_pos (decide_eq_true ⟨⟨d2.1, one⟩, d2.2⟩), if_pos d2]
      · rw [if_neg (fun q => d2 ⟨(of_decide_eq_true q).1.1, (of_decide_eq_true q).2⟩), if_neg d2]
theorem e_refusal {a : Nat} {i : Int32} (q : shA a) : Rr X (d + 2) MSh_refusal 0 [.ref a, .int i] [] (Wd mu la ro et) = some (some (.int (rfC mu a i)), Wd mu la ro et) := by
  unfold rfC
  by_cases c1 : empC mu a = true
  · simp only [r_MSh_refusal_0, r_MSh_refusal_1, r_MSh_refusal_4, r_MSh_refusal_7, r_MSh_refusal_9, r_MSh_refusal_10, r_MSh_refusal_11, r_MSh_refusal_14, r_MSh_refusal_17, r_MSh_refusal_19, r_MSh_refusal_20, r_MSh_refusal_21, r_MSh_refusal_22, r_MSh_refusal_23, r_MSh_refusal_26, r_MSh_refusal_29, r_MSh_refusal_30, r_MSh_refusal_33, r_MSh_refusal_35, sL_0, sL_1, sL_2, mk_i, mk_r, mk_f, mk_n, mk_u, mk_l, List.set_cons_succ, List.set_cons_zero, Nat.reduceAdd, ckS_0, ckS_1, ckS_2, ckS_3, ckS_4, Option.bind_some, Option.isSome_some, psh, if_true, if_false, i10, not_true_eq_false, not_false_eq_true, Bool.false_eq_true, and_self, and_true, true_and, eq_self, e_isEmpty q, q.1.1, c1]
  · by_cases c2 : rowC mu a = true
    · by_cases c3 : hasC mu a i 1 = true
      · simp only [r_MSh_refusal_0, r_MSh_refusal_1, r_MSh_refusal_4, r_MSh_refusal_7, r_MSh_refusal_9, r_MSh_refusal_10, r_MSh_refusal_11, r_MSh_refusal_14, r_MSh_refusal_17, r_MSh_refusal_19, r_MSh_refusal_20, r_MSh_refusal_21, r_MSh_refusal_22, r_MSh_refusal_23, r_MSh_refusal_26, r_MSh_refusal_29, r_MSh_refusal_30, r_MSh_refusal_33, r_MSh_refusal_35, sL_0, sL_1, sL_2, mk_i, mk_r, mk_f, mk_n, mk_u, mk_l, List.set_cons_succ, List.set_cons_zero, Nat.reduceAdd, ckS_0, ckS_1, ckS_2, ckS_3, ckS_4, Option.bind_some, Option.isSome_some, psh, if_true, if_false, i10, not_true_eq_false, not_false_eq_true, Bool.false_eq_true, and_self, and_true, true_and, eq_self, e_isEmpty q, e_isRow q, e_hasPlaces q, q.1.1, c1, c2, c3]
      · simp only [r_MSh_refusal_0, r_MSh_refusal_1, r_MSh_refusal_4, r_MSh_refusal_7, r_MSh_refusal_9, r_MSh_refusal_10, r_MSh_refusal_11, r_MSh_refusal_14, r_MSh_refusal_17, r_MSh_refusal_19, r_MSh_refusal_20, r_MSh_refusal_21, r_MSh_refusal_22, r_MSh_refusal_23, r_MSh_refusal_26, r_MSh_refusal_29, r_MSh_refusal_30, r_MSh_refusal_33, r_MSh_refusal_35, sL_0, sL_1, sL_2, mk_i, mk_r, mk_f, mk_n, mk_u, mk_l, List.set_cons_succ, List.set_cons_zero, Nat.reduceAdd, ckS_0, ckS_1, ckS_2, ckS_3, ckS_4, Option.bind_some, Option.isSome_some, psh, if_true, if_false, i10, not_true_eq_false, not_false_eq_true, Bool.false_eq_true, and_self, and_true, true_and, eq_self, e_isEmpty q, e_isRow q, e_hasPlaces q, q.1.1, c1, c2, c3]
    · simp only [r_MSh_refusal_0, r_MSh_refusal_1, r_MSh_refusal_4, r_MSh_refusal_7, r_MSh_refusal_9, r_MSh_refusal_10, r_MSh_refusal_11, r_MSh_refusal_14, r_MSh_refusal_17, r_MSh_refusal_19, r_MSh_refusal_20, r_MSh_refusal_21, r_MSh_refusal_22, r_MSh_refusal_23, r_MSh_refusal_26, r_MSh_refusal_29, r_MSh_refusal_30, r_MSh_refusal_33, r_MSh_refusal_35, sL_0, sL_1, sL_2, mk_i, mk_r, mk_f, mk_n, mk_u, mk_l, List.set_cons_succ, List.set_cons_zero, Nat.reduceAdd, ckS_0, ckS_1, ckS_2, ckS_3, ckS_4, Option.bind_some, Option.isSome_some, psh, if_true, if_false, i10, not_true_eq_false, not_false_eq_true, Bool.false_eq_true, and_self, and_true, true_and, eq_self, e_isEmpty q, e_isRow q, q.1.1, c1, c2]
theorem e_why {s i : Int32} : Rr X (d + 2) MRm_whyNoPlace 0 [.ref 81, .int s, .int i] [] (Wd mu la ro et) = some (some (.int (if 0 ≤ s ∧ s ≤ 5 then rfM mu s.toNatClampNeg i else -1)), Wd mu la ro et) := by
  unfold rfM
  by_cases c1 : 0 ≤ s ∧ s ≤ 5
  · obtain ⟨S, hS, rfl⟩ := i_06 c1
    have cS : (nI S).toNatClampNeg = S := nI_clamp (by omega)
    have iS := ix (j := S) (N := 6) hS (by decide)
    have c1' : 0 ≤ nI S ∧ nI S ≤ 5 := c1
    rw [if_pos c1, cS]
    by_cases c2 : mu 107 S = -1
    · simp only [r_MRm_whyNoPlace_0, r_MRm_whyNoPlace_1, r_MRm_whyNoPlace_4, r_MRm_whyNoPlace_7, r_MRm_whyNoPlace_8, r_MRm_whyNoPlace_9, r_MRm_whyNoPlace_10, r_MRm_whyNoPlace_13, r_MRm_whyNoPlace_14, r_MRm_whyNoPlace_15, r_MRm_whyNoPlace_16, r_MRm_whyNoPlace_19, r_MRm_whyNoPlace_21, r_MRm_whyNoPlace_22, r_MRm_whyNoPlace_23, r_MRm_whyNoPlace_26, r_MRm_whyNoPlace_27, r_MRm_whyNoPlace_28, r_MRm_whyNoPlace_31, r_MRm_whyNoPlace_33, r_MRm_whyNoPlace_34, r_MRm_whyNoPlace_35, r_MRm_whyNoPlace_36, r_MRm_whyNoPlace_37, r_MRm_whyNoPlace_40, r_MRm_whyNoPlace_41, r_MRm_whyNoPlace_42, r_MRm_whyNoPlace_43, r_MRm_whyNoPlace_44, r_MRm_whyNoPlace_47, r_MRm_whyNoPlace_50, r_MRm_whyNoPlace_51, r_MRm_whyNoPlace_54, r_MRm_whyNoPlace_56, sL_0, sL_1, sL_2, mk_i, mk_r, mk_f, mk_n, mk_u, mk_l, List.set_cons_succ, List.set_cons_zero, Nat.reduceAdd, ckS_0, ckS_1, ckS_2, ckS_3, ckS_4, Option.bind_some, Option.isSome_some, psh, if_true, if_false, i10, not_true_eq_false, not_false_eq_true, Bool.false_eq_true, and_self, and_true, true_and, eq_self, qI_81_0, qI_81_2, qI_81_3, qI_81_9, qI_81_10, qI_81_11, qI_81_12, qI_81_13, qI_81_18, qI_81_19, qI_81_20, qI_81_21, qI_81_29, qI_81_30, qI_81_31, qI_81_32, qI_81_33, qI_81_34, qI_81_35, qI_81_39, qI_81_40, qI_81_41, qI_81_42, qI_81_43, qI_81_44, qI_81_45, qI_81_46, qI_81_47, qI_81_51, qI_81_53, qR_81_1, qRd_81_1, qR_81_4, qRd_81_4, qR_81_5, qRd_81_5, qR_81_6, qRd_81_6, qR_81_7, qRd_81_7, qR_81_8, qRd_81_8, qR_81_14, qRd_81_14, qR_81_15, qRd_81_15, qR_81_16, qRd_81_16, qR_81_17, qRd_81_17, qR_81_22, qRd_81_22, qR_81_23, qRd_81_23, qR_81_24, qRd_81_24, qR_81_25, qRd_81_25, qR_81_26, qRd_81_26, qR_81_27, qRd_81_27, qR_81_28, qRd_81_28, qR_81_36, qRd_81_36, qR_81_37, qRd_81_37, qR_81_38, qRd_81_38, qR_81_48, qRd_81_48, qR_81_49, qRd_81_49, qR_81_50, qRd_81_50, qR_81_52, qRd_81_52, qR_81_54, qRd_81_54, qR_81_55, qRd_81_55, qR_81_56, qRd_81_56, qR_81_57, qRd_81_57, qR_81_58, qRd_81_58, qA_107, qAd_107, qA_108, qAd_108, qO_81, qL_107, qLd_107, qL_108, qLd_108, e_isShelf, e_in, c1', c2, cS, iS]
    · by_cases c3 : 0 ≤ mu 107 S
      · have c3' := Int32.not_lt.mpr c3
        simp only [r_MRm_whyNoPlace_0, r_MRm_whyNoPlace_1, r_MRm_whyNoPlace_4, r_MRm_whyNoPlace_7, r_MRm_whyNoPlace_8, r_MRm_whyNoPlace_9, r_MRm_whyNoPlace_10, r_MRm_whyNoPlace_13, r_MRm_whyNoPlace_14, r_MRm_whyNoPlace_15, r_MRm_whyNoPlace_16, r_MRm_whyNoPlace_19, r_MRm_whyNoPlace_21, r_MRm_whyNoPlace_22, r_MRm_whyNoPlace_23, r_MRm_whyNoPlace_26, r_MRm_whyNoPlace_27, r_MRm_whyNoPlace_28, r_MRm_whyNoPlace_31, r_MRm_whyNoPlace_33, r_MRm_whyNoPlace_34, r_MRm_whyNoPlace_35, r_MRm_whyNoPlace_36, r_MRm_whyNoPlace_37, r_MRm_whyNoPlace_40, r_MRm_whyNoPlace_41, r_MRm_whyNoPlace_42, r_MRm_whyNoPlace_43, r_MRm_whyNoPlace_44, r_MRm_whyNoPlace_47, r_MRm_whyNoPlace_50, r_MRm_whyNoPlace_51, r_MRm_whyNoPlace_54, r_MRm_whyNoPlace_56, sL_0, sL_1, sL_2, mk_i, mk_r, mk_f, mk_n, mk_u, mk_l, List.set_cons_succ, List.set_cons_zero, Nat.reduceAdd, ckS_0, ckS_1, ckS_2, ckS_3, ckS_4, Option.bind_some, Option.isSome_some, psh, if_true, if_false, i10, not_true_eq_false, not_false_eq_true, Bool.false_eq_true, and_self, and_true, true_and, eq_self, qI_81_0, qI_81_2, qI_81_3, qI_81_9, qI_81_10, qI_81_11, qI_81_12, qI_81_13, qI_81_18, qI_81_19, qI_81_20, qI_81_21, qI_81_29, qI_81_30, qI_81_31, qI_81_32, qI_81_33, qI_81_34, qI_81_35, qI_81_39, qI_81_40, qI_81_41, qI_81_42, qI_81_43, qI_81_44, qI_81_45, qI_81_46, qI_81_47, qI_81_51, qI_81_53, qR_81_1, qRd_81_1, qR_81_4, qRd_81_4, qR_81_5, qRd_81_5, qR_81_6, qRd_81_6, qR_81_7, qRd_81_7, qR_81_8, qRd_81_8, qR_81_14, qRd_81_14, qR_81_15, qRd_81_15, qR_81_16, qRd_81_16, qR_81_17, qRd_81_17, qR_81_22, qRd_81_22, qR_81_23, qRd_81_23, qR_81_24, qRd_81_24, qR_81_25, qRd_81_25, qR_81_26, qRd_81_26, qR_81_27, qRd_81_27, qR_81_28, qRd_81_28, qR_81_36, qRd_81_36, qR_81_37, qRd_81_37, qR_81_38, qRd_81_38, qR_81_48, qRd_81_48, qR_81_49, qRd_81_49, qR_81_50, qRd_81_50, qR_81_52, qRd_81_52, qR_81_54, qRd_81_54, qR_81_55, qRd_81_55, qR_81_56, qRd_81_56, qR_81_57, qRd_81_57, qR_81_58, qRd_81_58, qA_107, qAd_107, qA_108, qAd_108, qO_81, qL_107, qLd_107, qL_108, qLd_108, e_isShelf, e_in, c1', c2, c3, c3', cS, iS]
      · have c3' := Int32.not_le.mp c3
        by_cases c4 : 0 ≤ i ∧ i ≤ mu 108 S - 1
        · simp only [r_MRm_whyNoPlace_0, r_MRm_whyNoPlace_1, r_MRm_whyNoPlace_4, r_MRm_whyNoPlace_7, r_MRm_whyNoPlace_8, r_MRm_whyNoPlace_9, r_MRm_whyNoPlace_10, r_MRm_whyNoPlace_13, r_MRm_whyNoPlace_14, r_MRm_whyNoPlace_15, r_MRm_whyNoPlace_16, r_MRm_whyNoPlace_19, r_MRm_whyNoPlace_21, r_MRm_whyNoPlace_22, r_MRm_whyNoPlace_23, r_MRm_whyNoPlace_26, r_MRm_whyNoPlace_27, r_MRm_whyNoPlace_28, r_MRm_whyNoPlace_31, r_MRm_whyNoPlace_33, r_MRm_whyNoPlace_34, r_MRm_whyNoPlace_35, r_MRm_whyNoPlace_36, r_MRm_whyNoPlace_37, r_MRm_whyNoPlace_40, r_MRm_whyNoPlace_41, r_MRm_whyNoPlace_42, r_MRm_whyNoPlace_43, r_MRm_whyNoPlace_44, r_MRm_whyNoPlace_47, r_MRm_whyNoPlace_50, r_MRm_whyNoPlace_51, r_MRm_whyNoPlace_54, r_MRm_whyNoPlace_56, sL_0, sL_1, sL_2, mk_i, mk_r, mk_f, mk_n, mk_u, mk_l, List.set_cons_succ, List.set_cons_zero, Nat.reduceAdd, ckS_0, ckS_1, ckS_2, ckS_3, ckS_4, Option.bind_some, Option.isSome_some, psh, if_true, if_false, i10, not_true_eq_false, not_false_eq_true, Bool.false_eq_true, and_self, and_true, true_and, eq_self, qI_81_0, qI_81_2, qI_81_3, qI_81_9, qI_81_10, qI_81_11, qI_81_12, qI_81_13, qI_81_18, qI_81_19, qI_81_20, qI_81_21, qI_81_29, qI_81_30, qI_81_31, qI_81_32, qI_81_33, qI_81_34, qI_81_35, qI_81_39, qI_81_40, qI_81_41, qI_81_42, qI_81_43, qI_81_44, qI_81_45, qI_81_46, qI_81_47, qI_81_51, qI_81_53, qR_81_1, qRd_81_1, qR_81_4, qRd_81_4, qR_81_5, qRd_81_5, qR_81_6, qRd_81_6, qR_81_7, qRd_81_7, qR_81_8, qRd_81_8, qR_81_14, qRd_81_14, qR_81_15, qRd_81_15, qR_81_16, qRd_81_16, qR_81_17, qRd_81_17, qR_81_22, qRd_81_22, qR_81_23, qRd_81_23, qR_81_24, qRd_81_24, qR_81_25, qRd_81_25, qR_81_26, qRd_81_26, qR_81_27, qRd_81_27, qR_81_28, qRd_81_28, qR_81_36, qRd_81_36, qR_81_37, qRd_81_37, qR_81_38, qRd_81_38, qR_81_48, qRd_81_48, qR_81_49, qRd_81_49, qR_81_50, qRd_81_50, qR_81_52, qRd_81_52, qR_81_54, qRd_81_54, qR_81_55, qRd_81_55, qR_81_56, qRd_81_56, qR_81_57, qRd_81_57, qR_81_58, qRd_81_58, qA_107, qAd_107, qA_108, qAd_108, qO_81, qL_107, qLd_107, qL_108, qLd_108, e_isShelf, e_in, c1', c2, c3, c3', c4, cS, iS]
        · simp only [r_MRm_whyNoPlace_0, r_MRm_whyNoPlace_1, r_MRm_whyNoPlace_4, r_MRm_whyNoPlace_7, r_MRm_whyNoPlace_8, r_MRm_whyNoPlace_9, r_MRm_whyNoPlace_10, r_MRm_whyNoPlace_13, r_MRm_whyNoPlace_14, r_MRm_whyNoPlace_15, r_MRm_whyNoPlace_16, r_MRm_whyNoPlace_19, r_MRm_whyNoPlace_21, r_MRm_whyNoPlace_22, r_MRm_whyNoPlace_23, r_MRm_whyNoPlace_26, r_MRm_whyNoPlace_27, r_MRm_whyNoPlace_28, r_MRm_whyNoPlace_31, r_MRm_whyNoPlace_33, r_MRm_whyNoPlace_34, r_MRm_whyNoPlace_35, r_MRm_whyNoPlace_36, r_MRm_whyNoPlace_37, r_MRm_whyNoPlace_40, r_MRm_whyNoPlace_41, r_MRm_whyNoPlace_42, r_MRm_whyNoPlace_43, r_MRm_whyNoPlace_44, r_MRm_whyNoPlace_47, r_MRm_whyNoPlace_50, r_MRm_whyNoPlace_51, r_MRm_whyNoPlace_54, r_MRm_whyNoPlace_56, sL_0, sL_1, sL_2, mk_i, mk_r, mk_f, mk_n, mk_u, mk_l, List.set_cons_succ, List.set_cons_zero, Nat.reduceAdd, ckS_0, ckS_1, ckS_2, ckS_3, ckS_4, Option.bind_some, Option.isSome_some, psh, if_true, if_false, i10, not_true_eq_false, not_false_eq_true, Bool.false_eq_true, and_self, and_true, true_and, eq_self, qI_81_0, qI_81_2, qI_81_3, qI_81_9, qI_81_10, qI_81_11, qI_81_12, qI_81_13, qI_81_18, qI_81_19, qI_81_20, qI_81_21, qI_81_29, qI_81_30, qI_81_31, qI_81_32, qI_81_33, qI_81_34, qI_81_35, qI_81_39, qI_81_40, qI_81_41, qI_81_42, qI_81_43, qI_81_44, qI_81_45, qI_81_46, qI_81_47, qI_81_51, qI_81_53, qR_81_1, qRd_81_1, qR_81_4, qRd_81_4, qR_81_5, qRd_81_5, qR_81_6, qRd_81_6, qR_81_7, qRd_81_7, qR_81_8, qRd_81_8, qR_81_14, qRd_81_14, qR_81_15, qRd_81_15, qR_81_16, qRd_81_16, qR_81_17, qRd_81_17, qR_81_22, qRd_81_22, qR_81_23, qRd_81_23, qR_81_24, qRd_81_24, qR_81_25, qRd_81_25, qR_81_26, qRd_81_26, qR_81_27, qRd_81_27, qR_81_28, qRd_81_28, qR_81_36, qRd_81_36, qR_81_37, qRd_81_37, qR_81_38, qRd_81_38, qR_81_48, qRd_81_48, qR_81_49, qRd_81_49, qR_81_50, qRd_81_50, qR_81_52, qRd_81_52, qR_81_54, qRd_81_54, qR_81_55, qRd_81_55, qR_81_56, qRd_81_56, qR_81_57, qRd_81_57, qR_81_58, qRd_81_58, qA_107, qAd_107, qA_108, qAd_108, qO_81, qL_107, qLd_107, qL_108, qLd_108, e_isShelf, e_in, c1', c2, c3, c3', c4, cS, iS]
  · rw [if_neg c1]
    simp only [r_MRm_whyNoPlace_0, r_MRm_whyNoPlace_1, r_MRm_whyNoPlace_4, r_MRm_whyNoPlace_7, r_MRm_whyNoPlace_8, sL_0, sL_1, sL_2, mk_i, mk_r, mk_f, mk_n, mk_u, mk_l, List.set_cons_succ, List.set_cons_zero, Nat.reduceAdd, ckS_0, ckS_1, ckS_2, ckS_3, ckS_4, Option.bind_some, Option.isSome_some, psh, if_true, if_false, i10, not_true_eq_false, not_false_eq_true, Bool.false_eq_true, and_self, and_true, true_and, eq_self, qI_81_0, qI_81_2, qI_81_3, qI_81_9, qI_81_10, qI_81_11, qI_81_12, qI_81_13, qI_81_18, qI_81_19, qI_81_20, qI_81_21, qI_81_29, qI_81_30, qI_81_31, qI_81_32, qI_81_33, qI_81_34, qI_81_35, qI_81_39, qI_81_40, qI_81_41, qI_81_42, qI_81_43, qI_81_44, qI_81_45, qI_81_46, qI_81_47, qI_81_51, qI_81_53, qR_81_1, qRd_81_1, qR_81_4, qRd_81_4, qR_81_5, qRd_81_5, qR_81_6, qRd_81_6, qR_81_7, qRd_81_7, qR_81_8, qRd_81_8, qR_81_14, qRd_81_14, qR_81_15, qRd_81_15, qR_81_16, qRd_81_16, qR_81_17, qRd_81_17, qR_81_22, qRd_81_22, qR_81_23, qRd_81_23, qR_81_24, qRd_81_24, qR_81_25, qRd_81_25, qR_81_26, qRd_81_26, qR_81_27, qRd_81_27, qR_81_28, qRd_81_28, qR_81_36, qRd_81_36, qR_81_37, qRd_81_37, qR_81_38, qRd_81_38, qR_81_48, qRd_81_48, qR_81_49, qRd_81_49, qR_81_50, qRd_81_50, qR_81_52, qRd_81_52, qR_81_54, qRd_81_54, qR_81_55, qRd_81_55, qR_81_56, qRd_81_56, qR_81_57, qRd_81_57, qR_81_58, qRd_81_58, qO_81, e_isShelf, c1]
noncomputable def ptC (mu : Mu) (s i : Int32) : Int32 := if 0 ≤ s ∧ s ≤ 5 then (if rfC mu (69 + 2 * s.toNatClampNeg) i = 0 then 1 else rfC mu (69 + 2 * s.toNatClampNeg) i) else -1
noncomputable def ptM (mu : Mu) (s i : Int32) : Int32 := if 0 ≤ s ∧ s ≤ 5 then (if rfM mu s.toNatClampNeg i = 0 then 1 else rfM mu s.toNatClampNeg i) else -1
theorem pt_eq {s i : Int32} (q : RShf mu la ro) : ptC mu s i = ptM mu s i := by
  obtain ⟨n, hn, _, hs⟩ := q
  unfold ptC ptM
  by_cases c : 0 ≤ s ∧ s ≤ 5
  · rw [if_pos c, if_pos c]
    obtain ⟨S, hS, rfl⟩ := i_06 c
    rw [nI_clamp (by omega), rf_eq hn (hs S hS)]
  · rw [if_neg c, if_neg c]
theorem rfM_neg {S : Nat} {i : Int32} (h : ¬ rfM mu S i = 0) : rfM mu S i < 0 := by
  unfold rfM at h ⊢
  by_cases c1 : mu 107 S = -1
  · rw [if_pos c1]; decide
  · rw [if_neg c1] at h ⊢
    by_cases c2 : 0 ≤ mu 107 S
    · rw [if_pos c2]; decide
    · rw [if_neg c2] at h ⊢
      by_cases c3 : 0 ≤ i ∧ i ≤ mu 108 S - 1
      · rw [if_pos c3] at h
        exact absurd rfl h
      · rw [if_neg c3]; decide
theorem ptM_f {w : WS} {s i : Int32} (h : wDis w [(107, 0), (108, 0)] = true) (f : frm w mu la ro mu' la' ro') : ptM mu' s i = ptM mu s i := by
  unfold ptM rfM
  rw [dis_r (a := 107) (k := s.toNatClampNeg) h f (by decide) (by decide), dis_r (a := 108) (k := s.toNatClampNeg) h f (by decide) (by decide)]
end
