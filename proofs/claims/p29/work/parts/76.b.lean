-- ===== by hand: offBy of the model
section
variable {X : Tok} {d : Nat} {mu mu' : Mu} {la la' : La} {ro ro' : Ro} {et : Nat → Option va_E}
theorem e_sizeOf {v : Int32} {h : Hp} : Rr X d MRm_sizeOf 0 [.int v] [] h = some (some (.int (if v < 0 then -v else v)), h) := by
  by_cases c : v < 0
  · simp only [r_MRm_sizeOf_0, r_MRm_sizeOf_1, r_MRm_sizeOf_4, r_MRm_sizeOf_5, r_MRm_sizeOf_6, r_MRm_sizeOf_9, r_MRm_sizeOf_10, c, Int32.not_le.mpr c, if_true, if_false]
  · simp only [r_MRm_sizeOf_0, r_MRm_sizeOf_1, r_MRm_sizeOf_4, r_MRm_sizeOf_5, r_MRm_sizeOf_6, r_MRm_sizeOf_9, r_MRm_sizeOf_10, c, Int32.not_lt.mp c, if_true, if_false]
noncomputable def bgM (mu : Mu) (s pq : Int32) : Mu := up2 (up2 (up2 (up2 (up2 (up2 mu 81 30 s) 81 31 (pq / 1000)) 81 32 (pq - pq / 1000 * 1000)) 81 33 0) 81 34 0) 81 35 0
theorem e_begin {s pq : Int32} : Rr X d MRm_begin 0 [.ref 81, .int s, .int pq] [] (Wd mu la ro et) = some (none, Wd (bgM mu s pq) la ro et) := by
  unfold bgM
  simp only [r_MRm_begin_0, r_MRm_begin_1, r_MRm_begin_2, r_MRm_begin_5, r_MRm_begin_6, r_MRm_begin_7, r_MRm_begin_10, r_MRm_begin_11, r_MRm_begin_14, r_MRm_begin_15, r_MRm_begin_16, r_MRm_begin_19, r_MRm_begin_20, r_MRm_begin_23, r_MRm_begin_24, r_MRm_begin_25, r_MRm_begin_28, r_MRm_begin_29, r_MRm_begin_30, r_MRm_begin_33, r_MRm_begin_34, r_MRm_begin_35, r_MRm_begin_38, sL_0, sL_1, sL_2, mk_i, mk_r, mk_f, mk_n, mk_u, mk_l, List.set_cons_succ, List.set_cons_zero, Nat.reduceAdd, ckS_0, ckS_1, ckS_2, ckS_3, ckS_4, Option.bind_some, Option.isSome_some, psh, if_true, if_false, i10, not_true_eq_false, not_false_eq_true, Bool.false_eq_true, and_self, and_true, true_and, eq_self, qI_81_0, qI_81_2, qI_81_3, qI_81_9, qI_81_10, qI_81_11, qI_81_12, qI_81_13, qI_81_18, qI_81_19, qI_81_20, qI_81_21, qI_81_29, qI_81_30, qI_81_31, qI_81_32, qI_81_33, qI_81_34, qI_81_35, qI_81_39, qI_81_40, qI_81_41, qI_81_42, qI_81_43, qI_81_44, qI_81_45, qI_81_46, qI_81_47, qI_81_51, qI_81_53, qR_81_1, qRd_81_1, qR_81_4, qRd_81_4, qR_81_5, qRd_81_5, qR_81_6, qRd_81_6, qR_81_7, qRd_81_7, qR_81_8, qRd_81_8, qR_81_14, qRd_81_14, qR_81_15, qRd_81_15, qR_81_16, qRd_81_16, qR_81_17, qRd_81_17, qR_81_22, qRd_81_22, qR_81_23, qRd_81_23, qR_81_24, qRd_81_24, qR_81_25, qRd_81_25, qR_81_26, qRd_81_26, qR_81_27, qRd_81_27, qR_81_28, qRd_81_28, qR_81_36, qRd_81_36, qR_81_37, qRd_81_37, qR_81_38, qRd_81_38, qR_81_48, qRd_81_48, qR_81_49, qRd_81_49, qR_81_50, qRd_81_50, qR_81_52, qRd_81_52, qR_81_54, qRd_81_54, qR_81_55, qRd_81_55, qR_81_56, qRd_81_56, qR_81_57, qRd_81_57, qR_81_58, qRd_81_58, qO_81, show ((1000 : Int32) = 0) = False by simp]
abbrev wOf : WS := [(81, 31), (81, 32), (81, 33), (81, 34), (81, 35), (81, 36), (81, 44), (81, 45), (81, 46), (97, 0), (98, 0)]
theorem frm_bg {s pq : Int32} : frm wOf mu la ro (bgM mu s pq) la ro :=
  frm_t (frm_t (frm_t (frm_t (frm_t (frm_up (k := 30) (.inr (by decide))) (frm_up (k := 31) (.inr (by decide)))) (frm_up (k := 32) (.inr (by decide)))) (frm_up (k := 33) (.inr (by decide)))) (frm_up (k := 34) (.inr (by decide)))) (frm_up (k := 35) (.inr (by decide)))
theorem gOk_bg {s pq : Int32} (hg : gOk ivG mu) : gOk ivG (bgM mu s pq) :=
  gOk_f (gOk_f (gOk_f (gOk_f (gOk_f (gOk_f hg (top_ok _)) (top_ok _)) (top_ok _)) (top_ok _)) (top_ok _)) (top_ok _)
theorem t_add {a : Int32} {t : Nat} (h : 0 ≤ a.toInt ∧ a.toInt ≤ 400) (ht : t ≤ 500) : (a + nI t).toInt = a.toInt + t := by
  rw [Int32.toInt_add, nI_toInt (by omega)]
  exact Int.bmod_eq_of_le (by omega) (by omega)
set_option maxHeartbeats 1000000 in
theorem off_loop {S : Nat} {k fl pq : Int32} {w : WS} (hw : wSub w wOf = true) (hgo : ∀ (t : Int32) mu la ro, gOk ivG mu → rOk ro → JB mu la ro → Fin X (d + 6) MRm_go 0 (ent MRm_go [.ref 81, .int (nI S), .int k, .int fl, .int t]) [] mu la ro et fun r mu' la' ro' => gOk ivG mu' ∧ rOk ro' ∧ JB mu' la' ro' ∧ frm w mu la ro mu' la' ro' ∧ resC none r) : ∀ (m t fi : Nat) (sum : Int32) (mu : Mu) (la : La) (ro : Ro), t + m = 401 → 1 ≤ fi → fi ≤ 40 → gOk ivG mu → rOk ro → JB mu la ro → (∀ F, F ≤ 40 → mu 81 47 = nI F → fi < F → (mu 102 0).toInt + t ≤ (mu 102 fi).toInt) → Fin X (d + 7) MRm_offBy 21 [.ref 81, .int (nI S), .int k, .int fl, .int pq, .int sum, .int (nI fi), .int (nI t)] [] mu la ro et (QB wOf mu la ro) := by
  intro m
  induction m with
  | zero =>
    intro t fi sum mu la ro ht hf hf2 hg hr hj hc
    obtain ⟨F, q1, q2, q3, q4⟩ := hj.1
    by_cases c : fi < F
    · have := hc F q1 q2 c
      have := (q3 fi c).2
      have := (q3 0 (by omega)).1
      omega
    · refine ⟨some (.int sum), mu, la, ro, ?_, hg, hr, hj, frm_r _ _ _ _, resT _⟩
      have h1 : nI F ≤ nI fi := nI_le (by omega) (by omega)
      rw [r_MRm_offBy_21]
      simp only [r_MRm_offBy_23, r_MRm_offBy_24, r_MRm_offBy_27, r_MRm_offBy_90, r_MRm_offBy_92, sL_0, sL_1, sL_2, mk_i, mk_r, mk_f, mk_n, mk_u, mk_l, List.set_cons_succ, List.set_cons_zero, Nat.reduceAdd, ckS_0, ckS_1, ckS_2, ckS_3, ckS_4, Option.bind_some, Option.isSome_some, psh, if_true, if_false, i10, not_true_eq_false, not_false_eq_true, Bool.false_eq_true, and_self, and_true, true_and, eq_self, qI_81_0, qI_81_2, qI_81_3, qI_81_9, qI_81_10, qI_81_11, qI_81_12, qI_81_13, qI_81_18, qI_81_19, qI_81_20, qI_81_21, qI_81_29, qI_81_30, qI_81_31, qI_81_32, qI_81_33, qI_81_34, qI_81_35, qI_81_39, qI_81_40, qI_81_41, qI_81_42, qI_81_43, qI_81_44, qI_81_45, qI_81_46, qI_81_47, qI_81_51, qI_81_53, qR_81_1, qRd_81_1, qR_81_4, qRd_81_4, qR_81_5, qRd_81_5, qR_81_6, qRd_81_6, qR_81_7, qRd_81_7, qR_81_8, qRd_81_8, qR_81_14, qRd_81_14, qR_81_15, qRd_81_15, qR_81_16, qRd_81_16, qR_81_17, qRd_81_17, qR_81_22, qRd_81_22, qR_81_23, qRd_81_23, qR_81_24, qRd_81_24, qR_81_25, qRd_81_25, qR_81_26, qRd_81_26, qR_81_27, qRd_81_27, qR_81_28, qRd_81_28, qR_81_36, qRd_81_36, qR_81_37, qRd_81_37, qR_81_38, qRd_81_38, qR_81_48, qRd_81_48, qR_81_49, qRd_81_49, qR_81_50, qRd_81_50, qR_81_52, qRd_81_52, qR_81_54, qRd_81_54, qR_81_55, qRd_81_55, qR_81_56, qRd_81_56, qR_81_57, qRd_81_57, qR_81_58, qRd_81_58, qO_81, q2, h1]
  | succ m ih =>
    intro t fi sum mu la ro ht hf hf2 hg hr hj hc
    obtain ⟨F, q1, q2, q3, q4⟩ := hj.1
    by_cases c : fi < F
    · have h1 : ¬ nI F ≤ nI fi := nI_ge c (by omega)
      obtain ⟨r, mu1, la1, ro1, e, g1, g2, g3, g4, g5⟩ := hgo (nI t) mu la ro hg hr hj
      cases r with
      | some v => exact g5.elim
      | none =>
        have f := frm_s hw g4
        have e' : Rr X (d + 6) MRm_go 0 [.ref 81, .int (nI S), .int k, .int fl, .int (nI t), mkU, mkU, mkU, mkU, mkU] [] (Wd mu la ro et) = some (none, Wd mu1 la1 ro1 et) := e
        have e102 : ∀ j, mu1 102 j = mu 102 j := fun j => dis_r (D := [(102, 0)]) (by decide) f (by decide) (by decide)
        have e103 : ∀ j, mu1 103 j = mu 103 j := fun j => dis_r (D := [(103, 0)]) (by decide) f (by decide) (by decide)
        have e47 : mu1 81 47 = mu 81 47 := dis_f (D := [(81, 48)]) (by decide) f (by decide) (by decide)
        have z0 : (0 : Int32).toNatClampNeg = 0 := by decide
        have iz : ¬ ((0 : Int32) < 0 ∨ 40 ≤ 0) := by decide
        have cf : (nI fi).toNatClampNeg = fi := nI_clamp (by omega)
        have inf := ix (j := fi) (N := 40) (by omega) (by omega)
        have ta := t_add (q3 0 (by omega)) (t := t) (by omega)
        have hle := hc F q1 q2 c
        by_cases c2 : mu 102 0 + nI t = mu 102 fi
        · have hn : (mu 102 0).toInt + t = (mu 102 fi).toInt := by rw [← c2]; exact ta.symm
          obtain ⟨r, mu2, la2, ro2, e2, q⟩ := ih (t + 1) (fi + 1) (sum + (if mu1 81 30 - mu1 103 fi < 0 then -(mu1 81 30 - mu1 103 fi) else mu1 81 30 - mu1 103 fi)) mu1 la1 ro1 (by omega) (by omega) (by omega) g1 g2 g3 (fun F' h1' h2' h3' => by
            rw [e47, q2] at h2'
            have : F' = F := ((nI_eq (by omega) (by omega)).mp h2').symm
            subst this
            rw [e102, e102]
            have := q4 fi h3'
            omega)
          refine ⟨r, mu2, la2, ro2, ?_, QB_t f q⟩
          have t1 : (mu 102 0 + nI t = mu 102 fi) = True := eq_true c2
          rw [r_MRm_offBy_21]
          simp only [r_MRm_offBy_23, r_MRm_offBy_24, r_MRm_offBy_27, r_MRm_offBy_30, r_MRm_offBy_31, r_MRm_offBy_32, r_MRm_offBy_33, r_MRm_offBy_34, r_MRm_offBy_36, r_MRm_offBy_39, r_MRm_offBy_40, r_MRm_offBy_43, r_MRm_offBy_44, r_MRm_offBy_45, r_MRm_offBy_47, r_MRm_offBy_48, r_MRm_offBy_49, r_MRm_offBy_52, r_MRm_offBy_54, r_MRm_offBy_55, r_MRm_offBy_58, r_MRm_offBy_61, r_MRm_offBy_63, r_MRm_offBy_64, r_MRm_offBy_67, r_MRm_offBy_68, r_MRm_offBy_71, r_MRm_offBy_73, r_MRm_offBy_74, r_MRm_offBy_75, r_MRm_offBy_78, r_MRm_offBy_79, r_MRm_offBy_81, r_MRm_offBy_84, r_MRm_offBy_87, sL_0, sL_1, sL_2, mk_i, mk_r, mk_f, mk_n, mk_u, mk_l, List.set_cons_succ, List.set_cons_zero, Nat.reduceAdd, ckS_0, ckS_1, ckS_2, ckS_3, ckS_4, Option.bind_some, Option.isSome_some, psh, if_true, if_false, i10, not_true_eq_false, not_false_eq_true, Bool.false_eq_true, and_self, and_true, true_and, eq_self, qI_81_0, qI_81_2, qI_81_3, qI_81_9, qI_81_10, qI_81_11, qI_81_12, qI_81_13, qI_81_18, qI_81_19, qI_81_20, qI_81_21, qI_81_29, qI_81_30, qI_81_31, qI_81_32, qI_81_33, qI_81_34, qI_81_35, qI_81_39, qI_81_40, qI_81_41, qI_81_42, qI_81_43, qI_81_44, qI_81_45, qI_81_46, qI_81_47, qI_81_51, qI_81_53, qR_81_1, qRd_81_1, qR_81_4, qRd_81_4, qR_81_5, qRd_81_5, qR_81_6, qRd_81_6, qR_81_7, qRd_81_7, qR_81_8, qRd_81_8, qR_81_14, qRd_81_14, qR_81_15, qRd_81_15, qR_81_16, qRd_81_16, qR_81_17, qRd_81_17, qR_81_22, qRd_81_22, qR_81_23, qRd_81_23, qR_81_24, qRd_81_24, qR_81_25, qRd_81_25, qR_81_26, qRd_81_26, qR_81_27, qRd_81_27, qR_81_28, qRd_81_28, qR_81_36, qRd_81_36, qR_81_37, qRd_81_37, qR_81_38, qRd_81_38, qR_81_48, qRd_81_48, qR_81_49, qRd_81_49, qR_81_50, qRd_81_50, qR_81_52, qRd_81_52, qR_81_54, qRd_81_54, qR_81_55, qRd_81_55, qR_81_56, qRd_81_56, qR_81_57, qRd_81_57, qR_81_58, qRd_81_58, qA_102, qAd_102, qA_103, qAd_103, qO_81, qL_102, qLd_102, qL_103, qLd_103, q2, h1, e', z0, iz, e102, cf, inf, t1, e_sizeOf, nI_1]
          exact e2
        · obtain ⟨r, mu2, la2, ro2, e2, q⟩ := ih (t + 1) fi sum mu1 la1 ro1 (by omega) (by omega) (by omega) g1 g2 g3 (fun F' h1' h2' h3' => by
            rw [e102, e102]
            have : ¬ (mu 102 0).toInt + t = (mu 102 fi).toInt := fun q => c2 (Int32.toInt_inj.mp (ta.trans q))
            omega)
          refine ⟨r, mu2, la2, ro2, ?_, QB_t f q⟩
          have t1 : (mu 102 0 + nI t = mu 102 fi) = False := eq_false c2
          rw [r_MRm_offBy_21]
          simp only [r_MRm_offBy_23, r_MRm_offBy_24, r_MRm_offBy_27, r_MRm_offBy_30, r_MRm_offBy_31, r_MRm_offBy_32, r_MRm_offBy_33, r_MRm_offBy_34, r_MRm_offBy_36, r_MRm_offBy_39, r_MRm_offBy_40, r_MRm_offBy_43, r_MRm_offBy_44, r_MRm_offBy_45, r_MRm_offBy_47, r_MRm_offBy_48, r_MRm_offBy_49, r_MRm_offBy_52, r_MRm_offBy_54, r_MRm_offBy_55, r_MRm_offBy_58, r_MRm_offBy_61, r_MRm_offBy_63, r_MRm_offBy_64, r_MRm_offBy_67, r_MRm_offBy_68, r_MRm_offBy_71, r_MRm_offBy_73, r_MRm_offBy_74, r_MRm_offBy_75, r_MRm_offBy_78, r_MRm_offBy_79, r_MRm_offBy_81, r_MRm_offBy_84, r_MRm_offBy_87, sL_0, sL_1, sL_2, mk_i, mk_r, mk_f, mk_n, mk_u, mk_l, List.set_cons_succ, List.set_cons_zero, Nat.reduceAdd, ckS_0, ckS_1, ckS_2, ckS_3, ckS_4, Option.bind_some, Option.isSome_some, psh, if_true, if_false, i10, not_true_eq_false, not_false_eq_true, Bool.false_eq_true, and_self, and_true, true_and, eq_self, qI_81_0, qI_81_2, qI_81_3, qI_81_9, qI_81_10, qI_81_11, qI_81_12, qI_81_13, qI_81_18, qI_81_19, qI_81_20, qI_81_21, qI_81_29, qI_81_30, qI_81_31, qI_81_32, qI_81_33, qI_81_34, qI_81_35, qI_81_39, qI_81_40, qI_81_41, qI_81_42, qI_81_43, qI_81_44, qI_81_45, qI_81_46, qI_81_47, qI_81_51, qI_81_53, qR_81_1, qRd_81_1, qR_81_4, qRd_81_4, qR_81_5, qRd_81_5, qR_81_6, qRd_81_6, qR_81_7, qRd_81_7, qR_81_8, qRd_81_8, qR_81_14, qRd_81_14, qR_81_15, qRd_81_15, qR_81_16, qRd_81_16, qR_81_17, qRd_81_17, qR_81_22, qRd_81_22, qR_81_23, qRd_81_23, qR_81_24, qRd_81_24, qR_81_25, qRd_81_25, qR_81_26, qRd_81_26, qR_81_27, qRd_81_27, qR_81_28, qRd_81_28, qR_81_36, qRd_81_36, qR_81_37, qRd_81_37, qR_81_38, qRd_81_38, qR_81_48, qRd_81_48, qR_81_49, qRd_81_49, qR_81_50, qRd_81_50, qR_81_52, qRd_81_52, qR_81_54, qRd_81_54, qR_81_55, qRd_81_55, qR_81_56, qRd_81_56, qR_81_57, qRd_81_57, qR_81_58, qRd_81_58, qA_102, qAd_102, qA_103, qAd_103, qO_81, qL_102, qLd_102, qL_103, qLd_103, q2, h1, e', z0, iz, e102, cf, inf, t1, nI_1]
          exact e2
    · refine ⟨some (.int sum), mu, la, ro, ?_, hg, hr, hj, frm_r _ _ _ _, resT _⟩
      have h1 : nI F ≤ nI fi := nI_le (by omega) (by omega)
      rw [r_MRm_offBy_21]
      simp only [r_MRm_offBy_23, r_MRm_offBy_24, r_MRm_offBy_27, r_MRm_offBy_90, r_MRm_offBy_92, sL_0, sL_1, sL_2, mk_i, mk_r, mk_f, mk_n, mk_u, mk_l, List.set_cons_succ, List.set_cons_zero, Nat.reduceAdd, ckS_0, ckS_1, ckS_2, ckS_3, ckS_4, Option.bind_some, Option.isSome_some, psh, if_true, if_false, i10, not_true_eq_false, not_false_eq_true, Bool.false_eq_true, and_self, and_true, true_and, eq_self, qI_81_0, qI_81_2, qI_81_3, qI_81_9, qI_81_10, qI_81_11, qI_81_12, qI_81_13, qI_81_18, qI_81_19, qI_81_20, qI_81_21, qI_81_29, qI_81_30, qI_81_31, qI_81_32, qI_81_33, qI_81_34, qI_81_35, qI_81_39, qI_81_40, qI_81_41, qI_81_42, qI_81_43, qI_81_44, qI_81_45, qI_81_46, qI_81_47, qI_81_51, qI_81_53, qR_81_1, qRd_81_1, qR_81_4, qRd_81_4, qR_81_5, qRd_81_5, qR_81_6, qRd_81_6, qR_81_7, qRd_81_7, qR_81_8, qRd_81_8, qR_81_14, qRd_81_14, qR_81_15, qRd_81_15, qR_81_16, qRd_81_16, qR_81_17, qRd_81_17, qR_81_22, qRd_81_22, qR_81_23, qRd_81_23, qR_81_24, qRd_81_24, qR_81_25, qRd_81_25, qR_81_26, qRd_81_26, qR_81_27, qRd_81_27, qR_81_28, qRd_81_28, qR_81_36, qRd_81_36, qR_81_37, qRd_81_37, qR_81_38, qRd_81_38, qR_81_48, qRd_81_48, qR_81_49, qRd_81_49, qR_81_50, qRd_81_50, qR_81_52, qRd_81_52, qR_81_54, qRd_81_54, qR_81_55, qRd_81_55, qR_81_56, qRd_81_56, qR_81_57, qRd_81_57, qR_81_58, qRd_81_58, qO_81, q2, h1]
theorem JB_bg {s pq : Int32} (hj : JB mu la ro) : JB (bgM mu s pq) la ro := JS_B wOf (by decide) _ _ _ _ _ _ frm_bg hj
theorem off_all {S : Nat} {k fl pq : Int32} {w : WS} (hw : wSub w wOf = true) (hgo : ∀ (t : Int32) mu la ro, gOk ivG mu → rOk ro → JB mu la ro → Fin X (d + 6) MRm_go 0 (ent MRm_go [.ref 81, .int (nI S), .int k, .int fl, .int t]) [] mu la ro et fun r mu' la' ro' => gOk ivG mu' ∧ rOk ro' ∧ JB mu' la' ro' ∧ frm w mu la ro mu' la' ro' ∧ resC none r) (hg : gOk ivG mu) (hr : rOk ro) (hj : JB mu la ro) : Fin X (d + 7) MRm_offBy 0 [.ref 81, .int (nI S), .int k, .int fl, .int pq, mkU, mkU, mkU] [] mu la ro et (QB wOf mu la ro) := by
  have f := frm_bg (mu := mu) (la := la) (ro := ro) (s := mu 103 0) (pq := pq)
  have e47 : bgM mu (mu 103 0) pq 81 47 = mu 81 47 := dis_f (D := [(81, 48)]) (w := wOf) (by decide) f (by decide) (by decide)
  have e102 : ∀ j, bgM mu (mu 103 0) pq 102 j = mu 102 j := fun j => dis_r (D := [(102, 0)]) (w := wOf) (by decide) f (by decide) (by decide)
  obtain ⟨F, q1, q2, q3, q4⟩ := hj.1
  obtain ⟨r, mu2, la2, ro2, e2, q⟩ := off_loop (S := S) (k := k) (fl := fl) (pq := pq) hw hgo 400 1 1 0 (bgM mu (mu 103 0) pq) la ro (by omega) (by omega) (by omega) (gOk_bg hg) hr (JB_bg hj) (fun F' h1 h2 h3 => by
    rw [e47, q2] at h2
    have : F' = F := ((nI_eq (by omega) (by omega)).mp h2).symm
    subst this
    rw [e102, e102]
    have : (mu 102 0).toInt < (mu 102 1).toInt := q4 0 h3
    omega)
  refine ⟨r, mu2, la2, ro2, ?_, QB_t f q⟩
  have z0 : (0 : Int32).toNatClampNeg = 0 := by decide
  have iz : ¬ ((0 : Int32) < 0 ∨ 40 ≤ 0) := by decide
  simp only [r_MRm_offBy_0, r_MRm_offBy_1, r_MRm_offBy_2, r_MRm_offBy_5, r_MRm_offBy_6, r_MRm_offBy_7, r_MRm_offBy_9, r_MRm_offBy_12, r_MRm_offBy_13, r_MRm_offBy_15, r_MRm_offBy_16, r_MRm_offBy_18, r_MRm_offBy_19, sL_0, sL_1, sL_2, mk_i, mk_r, mk_f, mk_n, mk_u, mk_l, List.set_cons_succ, List.set_cons_zero, Nat.reduceAdd, ckS_0, ckS_1, ckS_2, ckS_3, ckS_4, Option.bind_some, Option.isSome_some, psh, if_true, if_false, i10, not_true_eq_false, not_false_eq_true, Bool.false_eq_true, and_self, and_true, true_and, eq_self, qI_81_0, qI_81_2, qI_81_3, qI_81_9, qI_81_10, qI_81_11, qI_81_12, qI_81_13, qI_81_18, qI_81_19, qI_81_20, qI_81_21, qI_81_29, qI_81_30, qI_81_31, qI_81_32, qI_81_33, qI_81_34, qI_81_35, qI_81_39, qI_81_40, qI_81_41, qI_81_42, qI_81_43, qI_81_44, qI_81_45, qI_81_46, qI_81_47, qI_81_51, qI_81_53, qR_81_1, qRd_81_1, qR_81_4, qRd_81_4, qR_81_5, qRd_81_5, qR_81_6, qRd_81_6, qR_81_7, qRd_81_7, qR_81_8, qRd_81_8, qR_81_14, qRd_81_14, qR_81_15, qRd_81_15, qR_81_16, qRd_81_16, qR_81_17, qRd_81_17, qR_81_22, qRd_81_22, qR_81_23, qRd_81_23, qR_81_24, qRd_81_24, qR_81_25, qRd_81_25, qR_81_26, qRd_81_26, qR_81_27, qRd_81_27, qR_81_28, qRd_81_28, qR_81_36, qRd_81_36, qR_81_37, qRd_81_37, qR_81_38, qRd_81_38, qR_81_48, qRd_81_48, qR_81_49, qRd_81_49, qR_81_50, qRd_81_50, qR_81_52, qRd_81_52, qR_81_54, qRd_81_54, qR_81_55, qRd_81_55, qR_81_56, qRd_81_56, qR_81_57, qRd_81_57, qR_81_58, qRd_81_58, qA_103, qAd_103, qO_81, qL_103, qLd_103, z0, iz, e_begin]
  exact e2
theorem hand_off (hE : tEx X) (hX : tOk X) : HandO JB X et := by
  have hH := hand_all (X := X) (et := et) hE
  intro c hc
  simp only [handO, List.mem_cons, List.not_mem_nil, or_false] at hc
  rcases hc with rfl | rfl
  · intro d av mu la ro hd ha hg hr hj
    obtain ⟨d, rfl⟩ : ∃ e, d = e + 7 := ⟨d - 7, by have : 20 ≤ d := hd; omega⟩
    match av, ha with
    | [v0, v1, v2, v3, v4], ⟨h0, ⟨x1, h1, a1, b1⟩, ⟨x2, h2, _⟩, ⟨x3, h3, a3, b3⟩, ⟨x4, h4, _⟩, _⟩ =>
      have h0 : v0 = .ref 81 := h0
      subst h0 h1 h2 h3 h4
      have a1' : (0 : Int) ≤ x1.toInt := a1
      have b1' : x1.toInt ≤ (5 : Int) := b1
      obtain ⟨S, hS, rfl⟩ : ∃ S : Nat, S < 6 ∧ x1 = nI S := ⟨x1.toInt.toNat, by omega, Int32.toInt_inj.mp (by rw [nI_toInt (by omega)]; omega)⟩
      exact off_all (w := c430.2.2.2.1) (by decide) (fun t mu la ro hg hr hj => t430 hX hH JS_B (d + 6) _ mu la ro (by show 6 ≤ d + 6; omega) ⟨rfl, ⟨_, rfl, a1, b1⟩, ⟨_, rfl, i_lo _, i_hi _⟩, ⟨_, rfl, a3, b3⟩, ⟨_, rfl, i_lo _, i_hi _⟩, trivial⟩ hg hr hj) hg hr hj
  · intro d av mu la ro hd ha hg hr hj
    obtain ⟨d, rfl⟩ : ∃ e, d = e + 7 := ⟨d - 7, by have : 20 ≤ d := hd; omega⟩
    match av, ha with
    | [v0, v1, v2, v3, v4], ⟨h0, ⟨x1, h1, a1, b1⟩, ⟨x2, h2, _⟩, ⟨x3, h3, a3, b3⟩, ⟨x4, h4, _⟩, _⟩ =>
      have h0 : v0 = .ref 81 := h0
      subst h0 h1 h2 h3 h4
      have a1' : (0 : Int) ≤ x1.toInt := a1
      have b1' : x1.toInt ≤ (5 : Int) := b1
      obtain ⟨S, hS, rfl⟩ : ∃ S : Nat, S < 6 ∧ x1 = nI S := ⟨x1.toInt.toNat, by omega, Int32.toInt_inj.mp (by rw [nI_toInt (by omega)]; omega)⟩
      exact off_all (w := c431.2.2.2.1) (by decide) (fun t mu la ro hg hr hj => t431 hX hH JS_B (d + 6) _ mu la ro (by show 1 ≤ d + 6; omega) ⟨rfl, ⟨_, rfl, a1, b1⟩, ⟨_, rfl, i_lo _, i_hi _⟩, ⟨_, rfl, a3, b3⟩, ⟨_, rfl, i_lo _, i_hi _⟩, trivial⟩ hg hr hj) hg hr hj
end
