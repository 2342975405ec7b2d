-- ===== by hand: lines of a floor
section
variable {mu mu' : Mu} {sg : Int32 → Bool} {sub : PS → PS} {s : PS}
theorem fgL_c (hb : bt mu' = bt mu) : ∀ (r h : Nat) (v : Int32) (n : Nat), fgL mu' r h v n = fgL mu r h v n
  | 0, _, _, _ => rfl
  | r + 1, h, v, n => by
    rw [fgL, fgL, hb, fgL_c hb r]
theorem fgS_c (hb : bt mu' = bt mu) : fgS mu' = fgS mu := by
  refine funext fun s => ?_
  unfold fgS fgW
  rw [fgL_c hb, hb]
theorem loopJ_c (hb : bt mu' = bt mu) : ∀ (n : Nat) (s : PS), loopJ mu' sg sub n s = loopJ mu sg sub n s
  | 0, _ => rfl
  | n + 1, s => by rw [loopJ, loopJ, hb, loopJ_c hb n]
theorem jn_c (hb : bt mu' = bt mu) {n : Nat} : jn mu' sg n sub = jn mu sg n sub := funext fun s => loopJ_c hb n _
theorem lv5_c (hb : bt mu' = bt mu) : lv5 mu' sub = lv5 mu sub := by
  unfold lv5 lv4 lv3 lv2 lv1
  rw [jn_c hb, jn_c hb, jn_c hb, jn_c hb, jn_c hb]
theorem opN_c (hb : bt mu' = bt mu) : ∀ k, opN mu' k = opN mu k
  | 0 => rfl
  | k + 1 => by
    rw [opN, opN, opN_c hb k, lv5_c hb]
    refine funext fun s => ?_
    unfold opd clS
    rw [hb, fgS_c hb]
theorem eiS_c (hb : bt mu' = bt mu) : eiS mu' = eiS mu := by
  unfold eiS
  rw [opN_c hb, lv5_c hb]
/-- what is laid fits a byte -/
abbrev Al (s : PS) : Prop := ∀ p, p ∈ s.2.2.2 → p.1.toInt8.toInt32 = p.1
theorem Al_ad {a w : Int32} (h : Al s) (ha : a.toInt8.toInt32 = a) : Al (adS s a w) := by
  intro p hp
  rcases List.mem_append.mp hp with q | q
  · exact h p q
  · rw [List.mem_singleton] at q
    rw [q]; exact ha
theorem Al_loop (hs : sgOk sg) (hA : ∀ s, Al s → Al (sub s)) : ∀ (n : Nat) (s : PS), Al s → Al (loopJ mu sg sub n s)
  | 0, _, h => h
  | n + 1, s, h => by
    rw [loopJ]
    split
    · rename_i c
      rw [Bool.and_eq_true] at c
      exact Al_loop hs hA n _ (Al_ad (hA _ h) (hs _ c.2).2.1)
    · exact h
theorem Al_lv5 (hA : ∀ s, Al s → Al (sub s)) (s : PS) (h : Al s) : Al (lv5 mu sub s) :=
  Al_loop sg_Ei (fun s h => Al_loop sg_Bo (fun s h => Al_loop sg_Cp (fun s h => Al_loop sg_Su (fun s h => Al_loop sg_Mu hA _ _ (hA s h)) _ _ (Al_loop sg_Mu hA _ _ (hA s h))) _ _ (Al_loop sg_Su (fun s h => Al_loop sg_Mu hA _ _ (hA s h)) _ _ (Al_loop sg_Mu hA _ _ (hA s h)))) _ _ (Al_loop sg_Cp (fun s h => Al_loop sg_Su (fun s h => Al_loop sg_Mu hA _ _ (hA s h)) _ _ (Al_loop sg_Mu hA _ _ (hA s h))) _ _ (Al_loop sg_Su (fun s h => Al_loop sg_Mu hA _ _ (hA s h)) _ _ (Al_loop sg_Mu hA _ _ (hA s h))))) _ _ (Al_loop sg_Bo (fun s h => Al_loop sg_Cp (fun s h => Al_loop sg_Su (fun s h => Al_loop sg_Mu hA _ _ (hA s h)) _ _ (Al_loop sg_Mu hA _ _ (hA s h))) _ _ (Al_loop sg_Su (fun s h => Al_loop sg_Mu hA _ _ (hA s h)) _ _ (Al_loop sg_Mu hA _ _ (hA s h)))) _ _ (Al_loop sg_Cp (fun s h => Al_loop sg_Su (fun s h => Al_loop sg_Mu hA _ _ (hA s h)) _ _ (Al_loop sg_Mu hA _ _ (hA s h))) _ _ (Al_loop sg_Su (fun s h => Al_loop sg_Mu hA _ _ (hA s h)) _ _ (Al_loop sg_Mu hA _ _ (hA s h)))))
theorem Al_op : ∀ (k : Nat) (s : PS), Al s → Al (opN mu k s)
  | 0, _, h => h
  | k + 1, s, h => by
    rw [opN]
    unfold opd clS fgS fgW
    repeat' split
    · exact Al_ad h (by decide)
    · exact h
    · exact Al_ad (s := oS _ _) (Al_op k _ h) (by decide)
    · exact h
    · exact Al_ad (s := oS _ _) (Al_op k _ h) (by decide)
    · exact h
    · exact Al_lv5 (Al_op k) _ h
    · exact Al_lv5 (Al_op k) _ h
    · exact Al_lv5 (Al_op k) _ h
    · exact Al_ad (s := wrS _) h (by decide)
    · exact Al_ad (s := wrS _) h (by decide)
    · exact Al_ad (s := ((fgL mu 4 s.1 0 0).1, s.2)) h (by decide)
theorem Al_ei (s : PS) (h : Al s) : Al (eiS mu s) := Al_lv5 (Al_op 7) s h
theorem pm_up {c j : Nat} {v : Int32} (h1 : ¬ c = 81) (h2 : ¬ c = 92) (h3 : ¬ c = 93) : up2 (pm mu s) c j v = pm (up2 mu c j v) s := by
  refine funext fun c' => funext fun j' => ?_
  rw [up2_e]
  unfold pm
  by_cases q : c' = c
  · subst q
    simp only [h1, h2, h3, if_false, true_and, up2_e]
  · have a1 : ¬ 81 = c := fun h => h1 h.symm
    have a2 : ¬ 92 = c := fun h => h2 h.symm
    have a3 : ¬ 93 = c := fun h => h3 h.symm
    simp [q, up2_e, a1, a2, a3]
theorem pm_up2 {v : Int32} : up2 (pm mu s) 81 2 v = pm (up2 mu 81 2 v) s := by
  refine funext fun c' => funext fun j' => ?_
  rw [up2_e]
  unfold pm
  by_cases q : c' = 81
  · subst q
    by_cases q2 : j' = 2
    · subst q2; simp [up2_e]
    · simp [q2, up2_e]
  · simp [q, up2_e]
theorem bt_up {c j : Nat} {v : Int32} (h1 : ¬ c = 81) (h2 : ¬ c = 82) : bt (up2 mu c j v) = bt mu := by
  refine funext fun h => ?_
  unfold bt
  rw [up2_a (fun q => h1 q.symm), up2_a (fun q => h2 q.symm)]
theorem Tt_up {c j : Nat} {v : Int32} (h1 : ¬ c = 81) : Tt (up2 mu c j v) = Tt mu := by
  unfold Tt
  rw [up2_a (fun q => h1 q.symm)]
theorem tOK_up {c j : Nat} {v : Int32} (h1 : ¬ c = 81) (h : tOK mu) : tOK (up2 mu c j v) := by
  obtain ⟨T, a, b⟩ := h
  exact ⟨T, a, by rw [up2_a (fun q => h1 q.symm)]; exact b⟩
theorem s16 {n : Nat} (h : n < 32768) : (nI n).toInt16.toInt32 = nI n := by
  refine Int32.toInt_inj.mp ?_
  rw [Int16.toInt_toInt32, Int32.toInt_toInt16, nI_toInt (by omega)]
  exact Int.bmod_eq_of_le (by omega) (by omega)
end
/-- a line is read: the memory, the state; n lines stand -/
noncomputable def lnF (mu : Mu) (n : Nat) (s : PS) : Mu × PS :=
  if (noF (eiS mu s) && decide (bt mu (eiS mu s).1 = 63)) = true then
    (up2 (up2 (up2 (up2 mu 95 (244 + n) (nI s.2.2.2.length)) 95 (244 + n) (nI (eiS mu s).2.2.2.length)) 96 (244 + n) (nI (eiS mu (hS (eiS mu s))).2.2.2.length)) 94 4 (nI (n + 1)), eiS mu (hS (eiS mu s)))
  else (up2 (up2 (up2 mu 95 (244 + n) (nI s.2.2.2.length)) 96 (244 + n) (nI (eiS mu s).2.2.2.length)) 94 4 (nI (n + 1)), eiS mu s)
section
variable {X : Tok} {d : Nat} {mu : Mu} {la : La} {ro : Ro} {et : Nat → Option va_E} {s : PS} {n : Nat}
theorem ei_len (hT : tOK mu) (h0 : Pre mu 7 s) : (eiS mu s).2.2.2.length ≤ Tt mu + 1 := by
  obtain ⟨⟨r1, r2⟩, _, _, code, r6, r7, _⟩ := Gd_ei hT s h0
  have := h0.2.2.2.1
  rw [r6, List.length_append]
  have : (if noF (eiS mu s) = true then 0 else 1) ≤ 1 := by split <;> omega
  omega
theorem Pre_63 (hT : tOK mu) (h0 : Pre mu 7 s) (h1 : noF (eiS mu s) = true) (h2 : ¬ bt mu (eiS mu s).1 = -1) : Pre mu 7 (hS (eiS mu s)) := by
  obtain ⟨⟨r1, r2⟩, ⟨r3, r4⟩, _, code, r6, r7, _⟩ := Gd_ei hT s h0
  have := bt_lt h2
  have h4 := h0.2.2.2.1
  rw [if_pos h1] at r7
  refine ⟨h1, by show (eiS mu s).1 + 1 ≤ _; omega, r4, ?_, by show 7 ≤ 7 + _; omega⟩
  show (eiS mu s).2.2.2.length ≤ (eiS mu s).1 + 1
  rw [r6, List.length_append]
  omega
theorem e_line (hT : tOK mu) (hn : n < 61) (h94 : mu 94 4 = nI n) (h0 : Pre mu 7 s) : Rr X (d + 52) MRm_line 0 [.ref 81, mkU] [] (Wd (pm mu s) la ro et) = some (none, Wd (pm (lnF mu n s).1 (lnF mu n s).2) la ro et) := by
  have hT2 := Tt_le hT
  have i4 : ¬ ((4 : Int32) < 0 ∨ 5 ≤ 4) := by decide
  have k4 : (4 : Int32).toNatClampNeg = 4 := by decide
  have e244 : (244 : Int32) + nI n = nI (244 + n) := nI_add 244 n
  have cn : (nI (244 + n)).toNatClampNeg = 244 + n := nI_clamp (by omega)
  have inn := ix (j := 244 + n) (N := 305) (by omega) (by omega)
  have l0 : s.2.2.2.length ≤ 120 := by have := h0.2.2.2.1; have := h0.2.1; omega
  have w0 := s16 (n := s.2.2.2.length) (by omega)
  have hr := Gd_ei hT s h0
  have le := ei_len hT h0
  have w1 := s16 (n := (eiS mu s).2.2.2.length) (by omega)
  generalize em : up2 mu 95 (244 + n) (nI s.2.2.2.length) = m1
  have hb1 : bt m1 = bt mu := by rw [← em]; exact bt_up (by decide) (by decide)
  have ht1 : Tt m1 = Tt mu := by rw [← em]; exact Tt_up (by decide)
  have hT1 : tOK m1 := by rw [← em]; exact tOK_up (by decide) hT
  have P1 : Pre m1 7 s := ⟨h0.1, by rw [ht1]; exact h0.2.1, h0.2.2⟩
  have e1 := ex_ei (X := X) (la := la) (ro := ro) (et := et) hT1 d s P1
  have g1 : m1 94 4 = nI n := by rw [← em, up2_a (by decide)]; exact h94
  have q94 : ∀ (mm : Mu) (ss : PS) j, pm mm ss 94 j = mm 94 j := fun mm ss j => pm_o (by decide) (by decide) (by decide)
  rw [eiS_c hb1] at e1
  have h1l : (eiS mu s).1 ≤ 120 := by have := hr.1.2; omega
  have look1 := fun d => e_look (X := X) (d := d) (la := la) (ro := ro) (et := et) (mu := m1) (s := eiS mu s) h1l hT1
  rw [hb1] at look1
  unfold lnF
  rw [em]
  by_cases c1 : noF (eiS mu s) = true
  · by_cases c2 : bt mu (eiS mu s).1 = 63
    · rw [if_pos (by rw [c1, decide_eq_true c2]; rfl)]
      have P2 := Pre_63 hT h0 c1 (by rw [c2]; decide)
      have le2 := ei_len hT P2
      have w2 := s16 (n := (eiS mu (hS (eiS mu s))).2.2.2.length) (by omega)
      generalize em2 : up2 m1 95 (244 + n) (nI (eiS mu s).2.2.2.length) = m2
      have hb2 : bt m2 = bt mu := by rw [← em2]; exact (bt_up (by decide) (by decide)).trans hb1
      have ht2 : Tt m2 = Tt mu := by rw [← em2]; exact (Tt_up (by decide)).trans ht1
      have hT2' : tOK m2 := by rw [← em2]; exact tOK_up (by decide) hT1
      have P2' : Pre m2 7 (hS (eiS mu s)) := ⟨P2.1, by rw [ht2]; exact P2.2.1, P2.2.2⟩
      have e2 := ex_ei (X := X) (la := la) (ro := ro) (et := et) hT2' d _ P2'
      rw [eiS_c hb2] at e2
      have g2 : m2 94 4 = nI n := by rw [← em2, up2_a (by decide)]; exact g1
      have t63 : (bt mu (eiS mu s).1 = 63) = True := eq_true c2
      have u1 : up2 (pm mu s) 95 (244 + n) (nI s.2.2.2.length) = pm m1 s := by rw [pm_up (by decide) (by decide) (by decide), em]
      have u2 : up2 (pm m1 (hS (eiS mu s))) 95 (244 + n) (nI (eiS mu s).2.2.2.length) = pm m2 (hS (eiS mu s)) := by rw [pm_up (by decide) (by decide) (by decide), em2]
      have p21 : pm m1 (hS (eiS mu s)) 81 21 = nI (eiS mu s).2.2.2.length := rfl
      simp only [r_MRm_line_0, r_MRm_line_3, r_MRm_line_4, r_MRm_line_7, r_MRm_line_8, r_MRm_line_9, r_MRm_line_10, r_MRm_line_11, r_MRm_line_12, r_MRm_line_15, r_MRm_line_16, r_MRm_line_17, r_MRm_line_20, r_MRm_line_21, r_MRm_line_22, r_MRm_line_23, r_MRm_line_26, r_MRm_line_27, r_MRm_line_30, r_MRm_line_33, r_MRm_line_34, r_MRm_line_37, r_MRm_line_39, r_MRm_line_42, r_MRm_line_43, r_MRm_line_43i, r_MRm_line_44, r_MRm_line_47, r_MRm_line_48, r_MRm_line_49, r_MRm_line_52, r_MRm_line_53, r_MRm_line_56, r_MRm_line_57, r_MRm_line_58, r_MRm_line_61, r_MRm_line_62, r_MRm_line_63, r_MRm_line_64, r_MRm_line_67, r_MRm_line_68, r_MRm_line_71, r_MRm_line_72, r_MRm_line_73, r_MRm_line_76, r_MRm_line_77, r_MRm_line_78, r_MRm_line_79, r_MRm_line_82, r_MRm_line_83, r_MRm_line_84, r_MRm_line_85, r_MRm_line_86, r_MRm_line_87, r_MRm_line_88, sL_0, sL_1, sL_2, mk_i, mk_r, mk_f, mk_n, mk_u, mk_l, List.set_cons_succ, List.set_cons_zero, Nat.reduceAdd, ckS_0, ckS_1, ckS_2, ckS_3, ckS_4, Option.bind_some, Option.isSome_some, psh, if_true, if_false, i10, not_true_eq_false, not_false_eq_true, Bool.false_eq_true, and_self, and_true, true_and, eq_self, qI_81_0, qI_81_2, qI_81_3, qI_81_9, qI_81_10, qI_81_11, qI_81_12, qI_81_13, qI_81_18, qI_81_19, qI_81_20, qI_81_21, qI_81_29, qI_81_30, qI_81_31, qI_81_32, qI_81_33, qI_81_34, qI_81_35, qI_81_39, qI_81_40, qI_81_41, qI_81_42, qI_81_43, qI_81_44, qI_81_45, qI_81_46, qI_81_47, qI_81_51, qI_81_53, qR_81_1, qRd_81_1, qR_81_4, qRd_81_4, qR_81_5, qRd_81_5, qR_81_6, qRd_81_6, qR_81_7, qRd_81_7, qR_81_8, qRd_81_8, qR_81_14, qRd_81_14, qR_81_15, qRd_81_15, qR_81_16, qRd_81_16, qR_81_17, qRd_81_17, qR_81_22, qRd_81_22, qR_81_23, qRd_81_23, qR_81_24, qRd_81_24, qR_81_25, qRd_81_25, qR_81_26, qRd_81_26, qR_81_27, qRd_81_27, qR_81_28, qRd_81_28, qR_81_36, qRd_81_36, qR_81_37, qRd_81_37, qR_81_38, qRd_81_38, qR_81_48, qRd_81_48, qR_81_49, qRd_81_49, qR_81_50, qRd_81_50, qR_81_52, qRd_81_52, qR_81_54, qRd_81_54, qR_81_55, qRd_81_55, qR_81_56, qRd_81_56, qR_81_57, qRd_81_57, qR_81_58, qRd_81_58, qA_94, qAd_94, qA_95, qAd_95, qA_96, qAd_96, qO_81, qL_94, qLd_94, qL_95, qLd_95, qL_96, qLd_96, q94, h94, i4, k4, e244, pm_21, cn, inn, w0, u1, e1, pm_19, fge1 c1, look1, t63, pm_18, nI_1, up_h, p21, w1, u2, e2, w2, pm_up (show ¬ 96 = 81 by decide) (show ¬ 96 = 92 by decide) (show ¬ 96 = 93 by decide), up2_a (show ¬ 94 = 96 by decide), g2, pm_up (show ¬ 94 = 81 by decide) (show ¬ 94 = 92 by decide) (show ¬ 94 = 93 by decide)]
    · rw [if_neg (by rw [c1, decide_eq_false c2]; decide)]
      have f63 : (bt mu (eiS mu s).1 = 63) = False := eq_false c2
      have u1 : up2 (pm mu s) 95 (244 + n) (nI s.2.2.2.length) = pm m1 s := by rw [pm_up (by decide) (by decide) (by decide), em]
      simp only [r_MRm_line_0, r_MRm_line_3, r_MRm_line_4, r_MRm_line_7, r_MRm_line_8, r_MRm_line_9, r_MRm_line_10, r_MRm_line_11, r_MRm_line_12, r_MRm_line_15, r_MRm_line_16, r_MRm_line_17, r_MRm_line_20, r_MRm_line_21, r_MRm_line_22, r_MRm_line_23, r_MRm_line_26, r_MRm_line_27, r_MRm_line_30, r_MRm_line_33, r_MRm_line_34, r_MRm_line_37, r_MRm_line_39, r_MRm_line_42, r_MRm_line_43, r_MRm_line_43i, r_MRm_line_44, r_MRm_line_47, r_MRm_line_48, r_MRm_line_49, r_MRm_line_52, r_MRm_line_53, r_MRm_line_56, r_MRm_line_57, r_MRm_line_58, r_MRm_line_61, r_MRm_line_62, r_MRm_line_63, r_MRm_line_64, r_MRm_line_67, r_MRm_line_68, r_MRm_line_71, r_MRm_line_72, r_MRm_line_73, r_MRm_line_76, r_MRm_line_77, r_MRm_line_78, r_MRm_line_79, r_MRm_line_82, r_MRm_line_83, r_MRm_line_84, r_MRm_line_85, r_MRm_line_86, r_MRm_line_87, r_MRm_line_88, sL_0, sL_1, sL_2, mk_i, mk_r, mk_f, mk_n, mk_u, mk_l, List.set_cons_succ, List.set_cons_zero, Nat.reduceAdd, ckS_0, ckS_1, ckS_2, ckS_3, ckS_4, Option.bind_some, Option.isSome_some, psh, if_true, if_false, i10, not_true_eq_false, not_false_eq_true, Bool.false_eq_true, and_self, and_true, true_and, eq_self, qI_81_0, qI_81_2, qI_81_3, qI_81_9, qI_81_10, qI_81_11, qI_81_12, qI_81_13, qI_81_18, qI_81_19, qI_81_20, qI_81_21, qI_81_29, qI_81_30, qI_81_31, qI_81_32, qI_81_33, qI_81_34, qI_81_35, qI_81_39, qI_81_40, qI_81_41, qI_81_42, qI_81_43, qI_81_44, qI_81_45, qI_81_46, qI_81_47, qI_81_51, qI_81_53, qR_81_1, qRd_81_1, qR_81_4, qRd_81_4, qR_81_5, qRd_81_5, qR_81_6, qRd_81_6, qR_81_7, qRd_81_7, qR_81_8, qRd_81_8, qR_81_14, qRd_81_14, qR_81_15, qRd_81_15, qR_81_16, qRd_81_16, qR_81_17, qRd_81_17, qR_81_22, qRd_81_22, qR_81_23, qRd_81_23, qR_81_24, qRd_81_24, qR_81_25, qRd_81_25, qR_81_26, qRd_81_26, qR_81_27, qRd_81_27, qR_81_28, qRd_81_28, qR_81_36, qRd_81_36, qR_81_37, qRd_81_37, qR_81_38, qRd_81_38, qR_81_48, qRd_81_48, qR_81_49, qRd_81_49, qR_81_50, qRd_81_50, qR_81_52, qRd_81_52, qR_81_54, qRd_81_54, qR_81_55, qRd_81_55, qR_81_56, qRd_81_56, qR_81_57, qRd_81_57, qR_81_58, qRd_81_58, qA_94, qAd_94, qA_95, qAd_95, qA_96, qAd_96, qO_81, qL_94, qLd_94, qL_95, qLd_95, qL_96, qLd_96, q94, h94, i4, k4, e244, pm_21, cn, inn, w0, u1, e1, pm_19, fge1 c1, look1, f63, w1, pm_up (show ¬ 96 = 81 by decide) (show ¬ 96 = 92 by decide) (show ¬ 96 = 93 by decide), up2_a (show ¬ 94 = 96 by decide), g1, nI_1, pm_up (show ¬ 94 = 81 by decide) (show ¬ 94 = 92 by decide) (show ¬ 94 = 93 by decide)]
  · rw [if_neg (by rw [Bool.and_eq_true]; exact fun q => c1 q.1)]
    have u1 : up2 (pm mu s) 95 (244 + n) (nI s.2.2.2.length) = pm m1 s := by rw [pm_up (by decide) (by decide) (by decide), em]
    simp only [r_MRm_line_0, r_MRm_line_3, r_MRm_line_4, r_MRm_line_7, r_MRm_line_8, r_MRm_line_9, r_MRm_line_10, r_MRm_line_11, r_MRm_line_12, r_MRm_line_15, r_MRm_line_16, r_MRm_line_17, r_MRm_line_20, r_MRm_line_21, r_MRm_line_22, r_MRm_line_23, r_MRm_line_26, r_MRm_line_27, r_MRm_line_30, r_MRm_line_33, r_MRm_line_34, r_MRm_line_37, r_MRm_line_39, r_MRm_line_42, r_MRm_line_43, r_MRm_line_43i, r_MRm_line_44, r_MRm_line_47, r_MRm_line_48, r_MRm_line_49, r_MRm_line_52, r_MRm_line_53, r_MRm_line_56, r_MRm_line_57, r_MRm_line_58, r_MRm_line_61, r_MRm_line_62, r_MRm_line_63, r_MRm_line_64, r_MRm_line_67, r_MRm_line_68, r_MRm_line_71, r_MRm_line_72, r_MRm_line_73, r_MRm_line_76, r_MRm_line_77, r_MRm_line_78, r_MRm_line_79, r_MRm_line_82, r_MRm_line_83, r_MRm_line_84, r_MRm_line_85, r_MRm_line_86, r_MRm_line_87, r_MRm_line_88, sL_0, sL_1, sL_2, mk_i, mk_r, mk_f, mk_n, mk_u, mk_l, List.set_cons_succ, List.set_cons_zero, Nat.reduceAdd, ckS_0, ckS_1, ckS_2, ckS_3, ckS_4, Option.bind_some, Option.isSome_some, psh, if_true, if_false, i10, not_true_eq_false, not_false_eq_true, Bool.false_eq_true, and_self, and_true, true_and, eq_self, qI_81_0, qI_81_2, qI_81_3, qI_81_9, qI_81_10, qI_81_11, qI_81_12, qI_81_13, qI_81_18, qI_81_19, qI_81_20, qI_81_21, qI_81_29, qI_81_30, qI_81_31, qI_81_32, qI_81_33, qI_81_34, qI_81_35, qI_81_39, qI_81_40, qI_81_41, qI_81_42, qI_81_43, qI_81_44, qI_81_45, qI_81_46, qI_81_47, qI_81_51, qI_81_53, qR_81_1, qRd_81_1, qR_81_4, qRd_81_4, qR_81_5, qRd_81_5, qR_81_6, qRd_81_6, qR_81_7, qRd_81_7, qR_81_8, qRd_81_8, qR_81_14, qRd_81_14, qR_81_15, qRd_81_15, qR_81_16, qRd_81_16, qR_81_17, qRd_81_17, qR_81_22, qRd_81_22, qR_81_23, qRd_81_23, qR_81_24, qRd_81_24, qR_81_25, qRd_81_25, qR_81_26, qRd_81_26, qR_81_27, qRd_81_27, qR_81_28, qRd_81_28, qR_81_36, qRd_81_36, qR_81_37, qRd_81_37, qR_81_38, qRd_81_38, qR_81_48, qRd_81_48, qR_81_49, qRd_81_49, qR_81_50, qRd_81_50, qR_81_52, qRd_81_52, qR_81_54, qRd_81_54, qR_81_55, qRd_81_55, qR_81_56, qRd_81_56, qR_81_57, qRd_81_57, qR_81_58, qRd_81_58, qA_94, qAd_94, qA_95, qAd_95, qA_96, qAd_96, qO_81, qL_94, qLd_94, qL_95, qLd_95, qL_96, qLd_96, q94, h94, i4, k4, e244, pm_21, cn, inn, w0, u1, e1, pm_19, fge0 c1 hr.2.2.1 hT, w1, pm_up (show ¬ 96 = 81 by decide) (show ¬ 96 = 92 by decide) (show ¬ 96 = 93 by decide), up2_a (show ¬ 94 = 96 by decide), g1, nI_1, pm_up (show ¬ 94 = 81 by decide) (show ¬ 94 = 92 by decide) (show ¬ 94 = 93 by decide)]
end
