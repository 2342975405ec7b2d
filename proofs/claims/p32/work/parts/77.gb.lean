-- ===== acts and traces, on both sides
section
variable {X : Tok} {d : Nat} {mu mu' : Mu} {la la' : La} {ro ro' : Ro} {et : Nat → Option va_E} {k a b x i : Int32}
/-- both sides have the same trace -/
def RTr (mu : Mu) : Prop := ∃ T : List Int32, T.length ≤ 24 ∧ mu 16 3 = nI T.length ∧ mu 81 53 = nI T.length ∧ ∀ i v, T[i]? = some v → mu 18 i = v ∧ mu 106 i = v
abbrev dTr : WS := [(16, 4), (18, 0), (81, 54), (106, 0)]
abbrev wAct : WS := [(16, 4), (16, 5), (16, 6), (18, 0), (81, 54), (106, 0)]
abbrev wBdA : WS := [(16, 3), (17, 0), (81, 52), (105, 0)]
theorem bd_frA {k : Int32} {n : Nat} : frm wBdA mu la ro (bdM (bdC mu k n) k n) la ro := frm_t (frm_s (by decide) bdC_fr) (frm_s (by decide) bdM_fr)
theorem RTr_f {w : WS} (h : wDis w dTr = true) (f : frm w mu la ro mu' la' ro') (q : RTr mu) : RTr mu' := by
  obtain ⟨T, h1, h2, h3, h4⟩ := q
  refine ⟨T, h1, (dis_f h f (by decide) (by decide)).trans h2, (dis_f h f (by decide) (by decide)).trans h3, fun i v hv => ?_⟩
  exact ⟨(dis_r (a := 18) (k := i) h f (by decide) (by decide)).trans (h4 i v hv).1, (dis_r (a := 106) (k := i) h f (by decide) (by decide)).trans (h4 i v hv).2⟩
theorem RTr_ini (i1 : ∀ a, a < 111 → ∀ j, j < lnI a → isRf a j = false → mu a j = ini a j) : RTr mu :=
  ⟨[], by decide, i1 16 (by decide) 3 (by decide) rfl, i1 81 (by decide) 53 (by decide) rfl, fun i v h => by cases h⟩
def RAct (mu : Mu) (la : La) (ro : Ro) : Prop := RBod mu la ro ∧ RTr mu
abbrev dAct : WS := dBod ++ dTr
theorem RAct_f {w : WS} (h : wDis w dAct = true) (f : frm w mu la ro mu' la' ro') (q : RAct mu la ro) : RAct mu' la' ro' := ⟨RBod_f (wDis_s (by decide) h) f q.1, RTr_f (wDis_s (by decide) h) f q.2⟩
-- how long traces are
theorem ac_rl_len {q : Int32} {T : List Int32} : (rlS q b x T).2.length ≤ T.length + 3 := by
  unfold rlS
  repeat' split
  all_goals (simp only [List.length_append, List.length_cons, List.length_nil]; omega)
theorem ac_pT_len {q : Int32} {T : List Int32} : (pTS q b x T).2.length ≤ T.length + 4 := by
  unfold pTS
  have := ac_rl_len (q := q) (b := b) (x := x) (T := T ++ [10])
  simp only [List.length_append, List.length_cons, List.length_nil] at this ⊢
  omega
theorem ac_tT_len {q : Int32} {T : List Int32} : (tTS q b x T).2.length ≤ T.length + 5 := by
  unfold tTS
  have := ac_pT_len (q := q) (b := b) (x := x) (T := T ++ [30])
  simp only [List.length_append, List.length_cons, List.length_nil] at this ⊢
  omega
theorem ac_en_len {q : Int32} {T : List Int32} : (enS q b x T).2.length ≤ T.length + 5 := by
  have := ac_rl_len (q := q) (b := b) (x := 1) (T := T ++ [61] ++ [11])
  unfold enS
  repeat' split
  all_goals (simp only [List.length_append, List.length_cons, List.length_nil] at this ⊢; omega)
theorem ac_tr_len {q : Int32} {T : List Int32} : (trS q b x T).2.length ≤ T.length + 10 := by
  have h1 := ac_tT_len (q := q) (b := b) (x := x + 1) (T := T ++ [41])
  have h2 := ac_pT_len (q := q) (b := b) (x := x) (T := T ++ [80])
  have h3 := ac_en_len (q := q) (b := b) (x := 2) (T := (pTS q b x (T ++ [80])).2)
  have h4 := ac_tT_len (q := q) (b := b) (x := x) (T := T)
  have h5 := ac_pT_len (q := q) (b := b) (x := x) (T := T)
  unfold trS
  repeat' split
  all_goals (simp only [List.length_append, List.length_cons, List.length_nil] at h1 h2 h3 h4 h5 ⊢; omega)
theorem ac_pL_len {q : Int32} {T : List Int32} : (pLS q b x T).2.length ≤ T.length + 16 := by
  have h1 := ac_tr_len (q := q) (b := b) (x := x) (T := T ++ [2])
  have h2 := ac_en_len (q := q) (b := b) (x := 1) (T := (trS q b x (T ++ [2])).2)
  unfold pLS
  simp only [List.length_append, List.length_cons, List.length_nil] at h1 h2 ⊢
  omega
theorem ac_tl_len {q : Int32} {T : List Int32} : (tlS q b x T).2.length ≤ T.length + 20 := by
  have h1 := ac_pL_len (q := q) (b := b) (x := x) (T := T ++ [50])
  have h2 := ac_pL_len (q := q) (b := b) (x := x) (T := T ++ [81])
  have h3 := ac_rl_len (q := q) (b := b) (x := 1) (T := (pLS q b x (T ++ [81])).2)
  have h4 := ac_pL_len (q := q) (b := b) (x := x) (T := T)
  unfold tlS
  repeat' split
  all_goals (simp only [List.length_append, List.length_cons, List.length_nil] at h1 h2 h3 h4 ⊢; omega)
theorem ac_len : (acR k a b x).2.length ≤ 24 := by
  have h1 := ac_rl_len (q := k) (b := b) (x := x) (T := [])
  have h2 := ac_tr_len (q := k) (b := b) (x := x) (T := [])
  have h3 := ac_en_len (q := k) (b := b) (x := x) (T := [])
  have h4 := ac_tl_len (q := k) (b := b) (x := x) (T := [])
  unfold acR mdS
  repeat' split
  all_goals (simp only [List.length_nil] at h1 h2 h3 h4 ⊢; omega)
theorem kd_eq (q : RBod mu la ro) : kdC mu b = kdM mu b := by
  obtain ⟨n, hn, h1, h2, h3⟩ := q
  unfold kdC kdM
  rw [h1, h2]
  have e1 := bd_n1 hn
  have en : (nI n).toInt = (n : Int) := nI_toInt (by omega)
  by_cases c : 0 ≤ b ∧ b ≤ nI n - 1
  · have c2 := c
    simp only [Int32.le_iff_toInt_le, e1, show (0 : Int32).toInt = 0 from rfl] at c2
    rw [if_pos c, if_pos (by simp only [Int32.le_iff_toInt_le, Int32.lt_iff_toInt_lt, en, show (0 : Int32).toInt = 0 from rfl, show (50 : Int32).toInt = 50 from rfl]; omega)]
    exact h3 _ (by show b.toInt.toNat < n; omega)
  · have c2 : ¬ ((0 ≤ b ∧ b < nI n) ∧ b < 50) := fun q => c (by
      simp only [Int32.le_iff_toInt_le, Int32.lt_iff_toInt_lt, e1, en, show (0 : Int32).toInt = 0 from rfl] at q ⊢
      omega)
    rw [if_neg c, if_neg c2]
theorem kdM_c (h1 : mu' 81 51 = mu 81 51) (h2 : ∀ j, mu' 105 j = mu 105 j) : kdM mu' b = kdM mu b := by
  unfold kdM
  rw [h1, h2]
theorem trG_r {cf kf cr : Nat} {T : List Int32} {i : Nat} {v : Int32} (hc : ¬ cf = cr) (hl : T.length ≤ 24) (h : T[i]? = some v) : trG cf kf cr mu T cr i = v := by
  have hi := (List.getElem?_eq_some_iff.mp h).1
  unfold trG
  rw [if_neg (fun q => hc q.1.symm), if_pos ⟨rfl, by omega⟩, h]
theorem act_all (hE : tEx X) (hg : gOk ivG mu) (hj : JB mu la ro) (q : RBod mu la ro) : ∃ (mu1 mu2 : Mu) (y : Int32), Rr X (d + 24) MTo_act 0 [.ref 0, .int b, .int a, .int x] [] (Wd mu la ro et) = some (some (.int y), Wd mu1 la ro et) ∧ Rr X (d + 24) MRm_act 0 [.ref 81, .int b, .int a, .int x] [] (Wd mu1 la ro et) = some (some (.int y), Wd mu2 la ro et) ∧ gOk ivG mu2 ∧ JB mu2 la ro ∧ RTr mu2 ∧ frm wAct mu la ro mu2 la ro := by
  have ec := e_actC (X := X) (d := d) (la := la) (ro := ro) (et := et) (b := b) (a := a) (x := x) hE hg
  have f1 : frm [(16, 4), (16, 5), (16, 6), (18, 0)] mu la ro (trC (up2 (up2 mu 16 5 (kdC mu b)) 16 4 b) (acR (kdC mu b) a b x).2) la ro := frm_t (frm_t (frm_up (k := 5) (.inr (by decide))) (frm_up (k := 4) (.inr (by decide)))) (frm_trG (by decide) (by decide))
  have g1 : gOk ivG (trC (up2 (up2 mu 16 5 (kdC mu b)) 16 4 b) (acR (kdC mu b) a b x).2) := gOk_trG (gOk_up (gOk_up hg (by rw [ivF_ok (by decide)]; exact top_ok _) (top_ok _)) (by rw [ivF_ok (by decide)]; exact top_ok _) (top_ok _)) rfl (by decide) (by decide) rfl
  have hl := ac_len (k := kdC mu b) (a := a) (b := b) (x := x)
  have ek : kdM (trC (up2 (up2 mu 16 5 (kdC mu b)) 16 4 b) (acR (kdC mu b) a b x).2) b = kdC mu b := by
    have e1 : trC (up2 (up2 mu 16 5 (kdC mu b)) 16 4 b) (acR (kdC mu b) a b x).2 81 51 = mu 81 51 := dis_f (w := [(16, 4), (16, 5), (16, 6), (18, 0)]) (D := [(81, 52)]) (by decide) f1 (by decide) (by decide)
    have e2 : ∀ j, trC (up2 (up2 mu 16 5 (kdC mu b)) 16 4 b) (acR (kdC mu b) a b x).2 105 j = mu 105 j := fun j => dis_r (w := [(16, 4), (16, 5), (16, 6), (18, 0)]) (D := [(105, 0)]) (by decide) f1 (by decide) (by decide)
    exact (kdM_c e1 e2).trans (kd_eq q).symm
  have em := e_actM (X := X) (d := d + 15) (la := la) (ro := ro) (et := et) (b := b) (a := a) (x := x) g1
  rw [ek] at em
  have hA : ∀ i v, (acR (kdC mu b) a b x).2[i]? = some v → trC (up2 (up2 mu 16 5 (kdC mu b)) 16 4 b) (acR (kdC mu b) a b x).2 18 i = v := fun i v hv => trG_r (by decide) hl hv
  have hB : trC (up2 (up2 mu 16 5 (kdC mu b)) 16 4 b) (acR (kdC mu b) a b x).2 16 3 = nI (acR (kdC mu b) a b x).2.length := trG_n
  generalize trC (up2 (up2 mu 16 5 (kdC mu b)) 16 4 b) (acR (kdC mu b) a b x).2 = m1 at *
  generalize acR (kdC mu b) a b x = R at *
  have f2 : frm [(81, 54), (106, 0)] m1 la ro (trM m1 R.2) la ro := frm_trG (by decide) (by decide)
  refine ⟨m1, trM m1 R.2, R.1, ec, em, gOk_trG g1 rfl (by decide) (by decide) rfl, JS_B [(81, 54), (106, 0)] (by decide) _ _ _ _ _ _ f2 (JS_B [(16, 4), (16, 5), (16, 6), (18, 0)] (by decide) _ _ _ _ _ _ f1 hj), ⟨R.2, hl, ?_, trG_n, fun i v hv => ⟨?_, trG_r (by decide) hl hv⟩⟩, frm_t (frm_s (by decide) f1) (frm_s (by decide) f2)⟩
  · exact (trG_o (by decide) (by decide)).trans hB
  · exact (trG_o (by omega) (by decide)).trans (hA i v hv)
theorem trace_all (q : RTr mu) : ∃ x : Int32, Rr X (d + 1) MTo_trace 0 [.ref 0, .int i] [] (Wd mu la ro et) = some (some (.int x), Wd mu la ro et) ∧ Rr X (d + 1) MRm_trace 0 [.ref 81, .int i] [] (Wd mu la ro et) = some (some (.int x), Wd mu la ro et) := by
  obtain ⟨T, h1, h2, h3, h4⟩ := q
  by_cases c1 : i < 0
  · refine ⟨-1, ?_, ?_⟩
    · simp only [r_MTo_trace_0, r_MTo_trace_1, r_MTo_trace_4, r_MTo_trace_5, r_MTo_trace_8, r_MBo_traced_0, r_MBo_traced_1, r_MBo_traced_4, r_MBo_traced_5, r_MBo_traced_6, r_MBo_traced_9, r_MBo_traced_12, r_MBo_traced_13, r_MBo_traced_15, r_MBo_traced_18, r_MBo_traced_19, r_MBo_traced_22, r_MBo_traced_23, r_MBo_traced_23a, r_MBo_traced_23o, r_MBo_traced_24, r_MBo_traced_27, r_MBo_traced_28, sL_0, sL_1, sL_2, mk_i, mk_r, mk_f, mk_n, mk_u, mk_l, List.set_cons_succ, List.set_cons_zero, Nat.reduceAdd, ckS_0, ckS_1, ckS_2, ckS_3, ckS_4, Option.bind_some, Option.isSome_some, psh, if_true, if_false, i10, not_true_eq_false, not_false_eq_true, Bool.false_eq_true, and_self, and_true, true_and, eq_self, qI_0_9, qI_0_10, qI_16_2, qI_16_3, qI_16_4, qI_16_5, qR_0_0, qRd_0_0, qR_0_1, qRd_0_1, qR_0_2, qRd_0_2, qR_0_3, qRd_0_3, qR_0_4, qRd_0_4, qR_0_5, qRd_0_5, qR_0_6, qRd_0_6, qR_0_7, qRd_0_7, qR_0_8, qRd_0_8, qR_16_0, qRd_16_0, qR_16_1, qRd_16_1, qO_0, qO_16, c1]
    · simp only [r_MRm_trace_0, r_MRm_trace_1, r_MRm_trace_4, r_MRm_trace_5, r_MRm_trace_6, r_MRm_trace_9, r_MRm_trace_12, r_MRm_trace_13, r_MRm_trace_15, r_MRm_trace_18, r_MRm_trace_19, r_MRm_trace_22, r_MRm_trace_23, r_MRm_trace_24, r_MRm_trace_27, r_MRm_trace_28, sL_0, sL_1, sL_2, mk_i, mk_r, mk_f, mk_n, mk_u, mk_l, List.set_cons_succ, List.set_cons_zero, Nat.reduceAdd, ckS_0, ckS_1, ckS_2, ckS_3, ckS_4, Option.bind_some, Option.isSome_some, psh, if_true, if_false, i10, not_true_eq_false, not_false_eq_true, Bool.false_eq_true, and_self, and_true, true_and, eq_self, qI_81_0, qI_81_2, qI_81_3, qI_81_9, qI_81_10, qI_81_11, qI_81_12, qI_81_13, qI_81_18, qI_81_19, qI_81_20, qI_81_21, qI_81_29, qI_81_30, qI_81_31, qI_81_32, qI_81_33, qI_81_34, qI_81_35, qI_81_39, qI_81_40, qI_81_41, qI_81_42, qI_81_43, qI_81_44, qI_81_45, qI_81_46, qI_81_47, qI_81_51, qI_81_53, qR_81_1, qRd_81_1, qR_81_4, qRd_81_4, qR_81_5, qRd_81_5, qR_81_6, qRd_81_6, qR_81_7, qRd_81_7, qR_81_8, qRd_81_8, qR_81_14, qRd_81_14, qR_81_15, qRd_81_15, qR_81_16, qRd_81_16, qR_81_17, qRd_81_17, qR_81_22, qRd_81_22, qR_81_23, qRd_81_23, qR_81_24, qRd_81_24, qR_81_25, qRd_81_25, qR_81_26, qRd_81_26, qR_81_27, qRd_81_27, qR_81_28, qRd_81_28, qR_81_36, qRd_81_36, qR_81_37, qRd_81_37, qR_81_38, qRd_81_38, qR_81_48, qRd_81_48, qR_81_49, qRd_81_49, qR_81_50, qRd_81_50, qR_81_52, qRd_81_52, qR_81_54, qRd_81_54, qR_81_55, qRd_81_55, qR_81_56, qRd_81_56, qR_81_57, qRd_81_57, qR_81_58, qRd_81_58, qO_81, c1]
  · obtain ⟨I, hI, rfl⟩ := nI_of c1
    by_cases c2 : I < T.length
    · have e1 : ¬ nI T.length ≤ nI I := nI_ge c2 (by omega)
      have e2 : ¬ (24 : Int32) ≤ nI I := nI_ge (a := I) (b := 24) (by omega) (by omega)
      have e3 : (nI I).toNatClampNeg = I := nI_clamp hI
      have e4 : ¬ 24 ≤ I := by omega
      obtain ⟨v1, v2⟩ := h4 I _ (List.getElem?_eq_getElem c2)
      refine ⟨T[I], ?_, ?_⟩
      · simp only [r_MTo_trace_0, r_MTo_trace_1, r_MTo_trace_4, r_MTo_trace_5, r_MTo_trace_8, r_MBo_traced_0, r_MBo_traced_1, r_MBo_traced_4, r_MBo_traced_5, r_MBo_traced_6, r_MBo_traced_9, r_MBo_traced_12, r_MBo_traced_13, r_MBo_traced_15, r_MBo_traced_18, r_MBo_traced_19, r_MBo_traced_22, r_MBo_traced_23, r_MBo_traced_23a, r_MBo_traced_23o, r_MBo_traced_24, r_MBo_traced_27, r_MBo_traced_28, sL_0, sL_1, sL_2, mk_i, mk_r, mk_f, mk_n, mk_u, mk_l, List.set_cons_succ, List.set_cons_zero, Nat.reduceAdd, ckS_0, ckS_1, ckS_2, ckS_3, ckS_4, Option.bind_some, Option.isSome_some, psh, if_true, if_false, i10, not_true_eq_false, not_false_eq_true, Bool.false_eq_true, and_self, and_true, true_and, eq_self, qI_0_9, qI_0_10, qI_16_2, qI_16_3, qI_16_4, qI_16_5, qR_0_0, qRd_0_0, qR_0_1, qRd_0_1, qR_0_2, qRd_0_2, qR_0_3, qRd_0_3, qR_0_4, qRd_0_4, qR_0_5, qRd_0_5, qR_0_6, qRd_0_6, qR_0_7, qRd_0_7, qR_0_8, qRd_0_8, qR_16_0, qRd_16_0, qR_16_1, qRd_16_1, qA_18, qAd_18, qO_0, qO_16, qL_18, qLd_18, c1, h2, e1, e2, e3, e4, v1, or_self]
      · simp only [r_MRm_trace_0, r_MRm_trace_1, r_MRm_trace_4, r_MRm_trace_5, r_MRm_trace_6, r_MRm_trace_9, r_MRm_trace_12, r_MRm_trace_13, r_MRm_trace_15, r_MRm_trace_18, r_MRm_trace_19, r_MRm_trace_22, r_MRm_trace_23, r_MRm_trace_24, r_MRm_trace_27, r_MRm_trace_28, sL_0, sL_1, sL_2, mk_i, mk_r, mk_f, mk_n, mk_u, mk_l, List.set_cons_succ, List.set_cons_zero, Nat.reduceAdd, ckS_0, ckS_1, ckS_2, ckS_3, ckS_4, Option.bind_some, Option.isSome_some, psh, if_true, if_false, i10, not_true_eq_false, not_false_eq_true, Bool.false_eq_true, and_self, and_true, true_and, eq_self, qI_81_0, qI_81_2, qI_81_3, qI_81_9, qI_81_10, qI_81_11, qI_81_12, qI_81_13, qI_81_18, qI_81_19, qI_81_20, qI_81_21, qI_81_29, qI_81_30, qI_81_31, qI_81_32, qI_81_33, qI_81_34, qI_81_35, qI_81_39, qI_81_40, qI_81_41, qI_81_42, qI_81_43, qI_81_44, qI_81_45, qI_81_46, qI_81_47, qI_81_51, qI_81_53, qR_81_1, qRd_81_1, qR_81_4, qRd_81_4, qR_81_5, qRd_81_5, qR_81_6, qRd_81_6, qR_81_7, qRd_81_7, qR_81_8, qRd_81_8, qR_81_14, qRd_81_14, qR_81_15, qRd_81_15, qR_81_16, qRd_81_16, qR_81_17, qRd_81_17, qR_81_22, qRd_81_22, qR_81_23, qRd_81_23, qR_81_24, qRd_81_24, qR_81_25, qRd_81_25, qR_81_26, qRd_81_26, qR_81_27, qRd_81_27, qR_81_28, qRd_81_28, qR_81_36, qRd_81_36, qR_81_37, qRd_81_37, qR_81_38, qRd_81_38, qR_81_48, qRd_81_48, qR_81_49, qRd_81_49, qR_81_50, qRd_81_50, qR_81_52, qRd_81_52, qR_81_54, qRd_81_54, qR_81_55, qRd_81_55, qR_81_56, qRd_81_56, qR_81_57, qRd_81_57, qR_81_58, qRd_81_58, qA_106, qAd_106, qO_81, qL_106, qLd_106, c1, h3, e1, e2, e3, e4, v2, or_self]
    · have e1 : nI T.length ≤ nI I := nI_le (by omega) hI
      refine ⟨-1, ?_, ?_⟩
      · simp only [r_MTo_trace_0, r_MTo_trace_1, r_MTo_trace_4, r_MTo_trace_5, r_MTo_trace_8, r_MBo_traced_0, r_MBo_traced_1, r_MBo_traced_4, r_MBo_traced_5, r_MBo_traced_6, r_MBo_traced_9, r_MBo_traced_12, r_MBo_traced_13, r_MBo_traced_15, r_MBo_traced_18, r_MBo_traced_19, r_MBo_traced_22, r_MBo_traced_23, r_MBo_traced_23a, r_MBo_traced_23o, r_MBo_traced_24, r_MBo_traced_27, r_MBo_traced_28, sL_0, sL_1, sL_2, mk_i, mk_r, mk_f, mk_n, mk_u, mk_l, List.set_cons_succ, List.set_cons_zero, Nat.reduceAdd, ckS_0, ckS_1, ckS_2, ckS_3, ckS_4, Option.bind_some, Option.isSome_some, psh, if_true, if_false, i10, not_true_eq_false, not_false_eq_true, Bool.false_eq_true, and_self, and_true, true_and, eq_self, qI_0_9, qI_0_10, qI_16_2, qI_16_3, qI_16_4, qI_16_5, qR_0_0, qRd_0_0, qR_0_1, qRd_0_1, qR_0_2, qRd_0_2, qR_0_3, qRd_0_3, qR_0_4, qRd_0_4, qR_0_5, qRd_0_5, qR_0_6, qRd_0_6, qR_0_7, qRd_0_7, qR_0_8, qRd_0_8, qR_16_0, qRd_16_0, qR_16_1, qRd_16_1, qO_0, qO_16, c1, h2, e1]
      · simp only [r_MRm_trace_0, r_MRm_trace_1, r_MRm_trace_4, r_MRm_trace_5, r_MRm_trace_6, r_MRm_trace_9, r_MRm_trace_12, r_MRm_trace_13, r_MRm_trace_15, r_MRm_trace_18, r_MRm_trace_19, r_MRm_trace_22, r_MRm_trace_23, r_MRm_trace_24, r_MRm_trace_27, r_MRm_trace_28, sL_0, sL_1, sL_2, mk_i, mk_r, mk_f, mk_n, mk_u, mk_l, List.set_cons_succ, List.set_cons_zero, Nat.reduceAdd, ckS_0, ckS_1, ckS_2, ckS_3, ckS_4, Option.bind_some, Option.isSome_some, psh, if_true, if_false, i10, not_true_eq_false, not_false_eq_true, Bool.false_eq_true, and_self, and_true, true_and, eq_self, qI_81_0, qI_81_2, qI_81_3, qI_81_9, qI_81_10, qI_81_11, qI_81_12, qI_81_13, qI_81_18, qI_81_19, qI_81_20, qI_81_21, qI_81_29, qI_81_30, qI_81_31, qI_81_32, qI_81_33, qI_81_34, qI_81_35, qI_81_39, qI_81_40, qI_81_41, qI_81_42, qI_81_43, qI_81_44, qI_81_45, qI_81_46, qI_81_47, qI_81_51, qI_81_53, qR_81_1, qRd_81_1, qR_81_4, qRd_81_4, qR_81_5, qRd_81_5, qR_81_6, qRd_81_6, qR_81_7, qRd_81_7, qR_81_8, qRd_81_8, qR_81_14, qRd_81_14, qR_81_15, qRd_81_15, qR_81_16, qRd_81_16, qR_81_17, qRd_81_17, qR_81_22, qRd_81_22, qR_81_23, qRd_81_23, qR_81_24, qRd_81_24, qR_81_25, qRd_81_25, qR_81_26, qRd_81_26, qR_81_27, qRd_81_27, qR_81_28, qRd_81_28, qR_81_36, qRd_81_36, qR_81_37, qRd_81_37, qR_81_38, qRd_81_38, qR_81_48, qRd_81_48, qR_81_49, qRd_81_49, qR_81_50, qRd_81_50, qR_81_52, qRd_81_52, qR_81_54, qRd_81_54, qR_81_55, qRd_81_55, qR_81_56, qRd_81_56, qR_81_57, qRd_81_57, qR_81_58, qRd_81_58, qO_81, c1, h3, e1]
end
