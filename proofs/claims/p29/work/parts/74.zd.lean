-- ===== by hand: the reader of floors of the model: its state, small methods
/-- the place, the fault, what is open, the steps laid -/
abbrev PS : Type := Nat × Option Nat × Nat × List (Int32 × Int32)
noncomputable def fI' (f : Option Nat) : Int32 := match f with
  | none => -1
  | some k => nI k
/-- the memory at a state -/
noncomputable def pm (mu : Mu) (s : PS) : Mu := fun c j =>
  if c = 81 then (if j = 18 then nI s.1 else if j = 19 then fI' s.2.1 else if j = 20 then nI s.2.2.1 else if j = 21 then nI s.2.2.2.length else mu 81 j)
  else if c = 92 then (if 520 ≤ j then (match s.2.2.2[j - 520]? with
    | some p => p.1
    | none => mu 92 j) else mu 92 j)
  else if c = 93 then (if 520 ≤ j then (match s.2.2.2[j - 520]? with
    | some p => p.2
    | none => mu 93 j) else mu 93 j)
  else mu c j
noncomputable def bt (mu : Mu) (h : Nat) : Int32 := if h < (mu 81 2).toNatClampNeg then mu 82 h else -1
noncomputable def wrS (s : PS) : PS := (s.1, (match s.2.1 with
  | none => some s.1
  | some k => some k), s.2.2)
noncomputable def hS (s : PS) : PS := (s.1 + 1, s.2)
noncomputable def oS (s : PS) (o : Nat) : PS := (s.1, s.2.1, o, s.2.2.2)
noncomputable def adS (s : PS) (a w : Int32) : PS := (s.1, s.2.1, s.2.2.1, s.2.2.2 ++ [(a, w)])
section
variable {X : Tok} {d : Nat} {mu mu' : Mu} {la la' : La} {ro ro' : Ro} {et : Nat → Option va_E} {s : PS}
theorem pm_18 : pm mu s 81 18 = nI s.1 := rfl
theorem pm_19 : pm mu s 81 19 = fI' s.2.1 := rfl
theorem pm_20 : pm mu s 81 20 = nI s.2.2.1 := rfl
theorem pm_21 : pm mu s 81 21 = nI s.2.2.2.length := rfl
theorem pm_2 : pm mu s 81 2 = mu 81 2 := rfl
theorem pm_o {c j : Nat} (h1 : ¬ c = 81) (h2 : ¬ c = 92) (h3 : ¬ c = 93) : pm mu s c j = mu c j := by
  unfold pm
  rw [if_neg h1, if_neg h2, if_neg h3]
theorem pm_82 {j : Nat} : pm mu s 82 j = mu 82 j := pm_o (by decide) (by decide) (by decide)
theorem fI_lt (f : Option Nat) (hf : ∀ k, f = some k → k < 2 ^ 31) : (fI' f < 0) ↔ f = none := by
  cases f with
  | none => exact ⟨fun _ => rfl, fun _ => by decide⟩
  | some k => exact ⟨fun q => absurd q (nI_pos (hf k rfl)), fun q => by cases q⟩
theorem up_h : up2 (pm mu s) 81 18 (nI (s.1 + 1)) = pm mu (hS s) := by
  refine funext fun c => funext fun j => ?_
  rw [up2_e]
  unfold pm hS
  by_cases h : c = 81
  · subst h
    by_cases h2 : j = 18 <;> simp [h2]
  · simp [h]
theorem up_o {o : Nat} : up2 (pm mu s) 81 20 (nI o) = pm mu (oS s o) := by
  refine funext fun c => funext fun j => ?_
  rw [up2_e]
  unfold pm oS
  by_cases h : c = 81
  · subst h
    by_cases h2 : j = 20
    · subst h2; simp
    · simp [h2]
  · simp [h]
theorem up_f (h : s.2.1 = none) : up2 (pm mu s) 81 19 (nI s.1) = pm mu (wrS s) := by
  refine funext fun c => funext fun j => ?_
  rw [up2_e]
  unfold pm wrS
  rw [h]
  by_cases h : c = 81
  · subst h
    by_cases h2 : j = 19
    · subst h2; simp [fI']
    · simp [h2]
  · simp [h]
theorem up_ad {a w : Int32} : up2 (up2 (up2 (pm mu s) 92 (520 + s.2.2.2.length) a) 93 (520 + s.2.2.2.length) w) 81 21 (nI (s.2.2.2.length + 1)) = pm mu (adS s a w) := by
  refine funext fun c => funext fun j => ?_
  rw [up2_e, up2_e, up2_e]
  unfold pm adS
  by_cases h : c = 81
  · subst h
    by_cases h2 : j = 21
    · subst h2; simp
    · simp [h2]
  · by_cases h3 : c = 92
    · subst h3
      by_cases h4 : j = 520 + s.2.2.2.length
      · subst h4; simp
      · by_cases h5 : 520 ≤ j
        · simp only [h4, h5, Nat.reduceEqDiff, if_true, if_false, false_and, and_false]
          by_cases h6 : j - 520 < s.2.2.2.length
          · rw [List.getElem?_append_left h6]
          · rw [List.getElem?_eq_none (by omega), List.getElem?_eq_none (by rw [List.length_append]; simp only [List.length_cons, List.length_nil]; omega)]
        · simp [h4, h5]
    · by_cases h3 : c = 93
      · subst h3
        by_cases h4 : j = 520 + s.2.2.2.length
        · subst h4; simp
        · by_cases h5 : 520 ≤ j
          · simp only [h4, h5, Nat.reduceEqDiff, if_true, if_false, false_and, and_false]
            by_cases h6 : j - 520 < s.2.2.2.length
            · rw [List.getElem?_append_left h6]
            · rw [List.getElem?_eq_none (by omega), List.getElem?_eq_none (by rw [List.length_append]; simp only [List.length_cons, List.length_nil]; omega)]
          · simp [h4, h5]
      · simp [*]
theorem e_look (hh : s.1 ≤ 120) (hT : ∃ T, T ≤ 120 ∧ mu 81 2 = nI T) : Rr X d MRm_look 0 [.ref 81] [] (Wd (pm mu s) la ro et) = some (some (.int (bt mu s.1)), Wd (pm mu s) la ro et) := by
  obtain ⟨T, t1, t2⟩ := hT
  unfold bt
  rw [t2, nI_clamp (by omega)]
  have ch : (nI s.1).toNatClampNeg = s.1 := nI_clamp (by omega)
  by_cases c : s.1 < T
  · have h1 : ¬ nI T ≤ nI s.1 := nI_ge c (by omega)
    have ih := ix (j := s.1) (N := 120) (by omega) (by omega)
    simp only [r_MRm_look_0, r_MRm_look_1, r_MRm_look_4, r_MRm_look_5, r_MRm_look_8, r_MRm_look_11, r_MRm_look_12, r_MRm_look_15, r_MRm_look_16, r_MRm_look_19, r_MRm_look_20, r_MRm_look_23, r_MRm_look_24, sL_0, sL_1, sL_2, mk_i, mk_r, mk_f, mk_n, mk_u, mk_l, List.set_cons_succ, List.set_cons_zero, Nat.reduceAdd, ckS_0, ckS_1, ckS_2, ckS_3, ckS_4, Option.bind_some, Option.isSome_some, psh, if_true, if_false, i10, not_true_eq_false, not_false_eq_true, Bool.false_eq_true, and_self, and_true, true_and, eq_self, qI_81_0, qI_81_2, qI_81_3, qI_81_9, qI_81_10, qI_81_11, qI_81_12, qI_81_13, qI_81_18, qI_81_19, qI_81_20, qI_81_21, qI_81_29, qI_81_30, qI_81_31, qI_81_32, qI_81_33, qI_81_34, qI_81_35, qI_81_39, qI_81_40, qI_81_41, qI_81_42, qI_81_43, qI_81_44, qI_81_45, qI_81_46, qI_81_47, qI_81_51, qI_81_53, qR_81_1, qRd_81_1, qR_81_4, qRd_81_4, qR_81_5, qRd_81_5, qR_81_6, qRd_81_6, qR_81_7, qRd_81_7, qR_81_8, qRd_81_8, qR_81_14, qRd_81_14, qR_81_15, qRd_81_15, qR_81_16, qRd_81_16, qR_81_17, qRd_81_17, qR_81_22, qRd_81_22, qR_81_23, qRd_81_23, qR_81_24, qRd_81_24, qR_81_25, qRd_81_25, qR_81_26, qRd_81_26, qR_81_27, qRd_81_27, qR_81_28, qRd_81_28, qR_81_36, qRd_81_36, qR_81_37, qRd_81_37, qR_81_38, qRd_81_38, qR_81_48, qRd_81_48, qR_81_49, qRd_81_49, qR_81_50, qRd_81_50, qR_81_52, qRd_81_52, qR_81_54, qRd_81_54, qR_81_55, qRd_81_55, qR_81_56, qRd_81_56, qR_81_57, qRd_81_57, qR_81_58, qRd_81_58, qA_82, qAd_82, qO_81, qL_82, qLd_82, pm_18, pm_2, t2, h1, ch, ih, pm_82, c]
  · have h1 : nI T ≤ nI s.1 := nI_le (by omega) (by omega)
    simp only [r_MRm_look_0, r_MRm_look_1, r_MRm_look_4, r_MRm_look_5, r_MRm_look_8, r_MRm_look_11, r_MRm_look_12, r_MRm_look_15, r_MRm_look_16, r_MRm_look_19, r_MRm_look_20, r_MRm_look_23, r_MRm_look_24, sL_0, sL_1, sL_2, mk_i, mk_r, mk_f, mk_n, mk_u, mk_l, List.set_cons_succ, List.set_cons_zero, Nat.reduceAdd, ckS_0, ckS_1, ckS_2, ckS_3, ckS_4, Option.bind_some, Option.isSome_some, psh, if_true, if_false, i10, not_true_eq_false, not_false_eq_true, Bool.false_eq_true, and_self, and_true, true_and, eq_self, qI_81_0, qI_81_2, qI_81_3, qI_81_9, qI_81_10, qI_81_11, qI_81_12, qI_81_13, qI_81_18, qI_81_19, qI_81_20, qI_81_21, qI_81_29, qI_81_30, qI_81_31, qI_81_32, qI_81_33, qI_81_34, qI_81_35, qI_81_39, qI_81_40, qI_81_41, qI_81_42, qI_81_43, qI_81_44, qI_81_45, qI_81_46, qI_81_47, qI_81_51, qI_81_53, qR_81_1, qRd_81_1, qR_81_4, qRd_81_4, qR_81_5, qRd_81_5, qR_81_6, qRd_81_6, qR_81_7, qRd_81_7, qR_81_8, qRd_81_8, qR_81_14, qRd_81_14, qR_81_15, qRd_81_15, qR_81_16, qRd_81_16, qR_81_17, qRd_81_17, qR_81_22, qRd_81_22, qR_81_23, qRd_81_23, qR_81_24, qRd_81_24, qR_81_25, qRd_81_25, qR_81_26, qRd_81_26, qR_81_27, qRd_81_27, qR_81_28, qRd_81_28, qR_81_36, qRd_81_36, qR_81_37, qRd_81_37, qR_81_38, qRd_81_38, qR_81_48, qRd_81_48, qR_81_49, qRd_81_49, qR_81_50, qRd_81_50, qR_81_52, qRd_81_52, qR_81_54, qRd_81_54, qR_81_55, qRd_81_55, qR_81_56, qRd_81_56, qR_81_57, qRd_81_57, qR_81_58, qRd_81_58, qA_82, qAd_82, qO_81, qL_82, qLd_82, pm_18, pm_2, t2, h1, c]
theorem e_wrong (hf : ∀ k, s.2.1 = some k → k < 2 ^ 31) : Rr X d MRm_wrong 0 [.ref 81] [] (Wd (pm mu s) la ro et) = some (none, Wd (pm mu (wrS s)) la ro et) := by
  by_cases c : s.2.1 = none
  · have h1 : ¬ 0 ≤ fI' s.2.1 := by rw [Int32.not_le]; exact (fI_lt _ hf).mpr c
    simp only [r_MRm_wrong_0, r_MRm_wrong_1, r_MRm_wrong_4, r_MRm_wrong_7, r_MRm_wrong_8, r_MRm_wrong_9, r_MRm_wrong_12, r_MRm_wrong_15, sL_0, sL_1, sL_2, mk_i, mk_r, mk_f, mk_n, mk_u, mk_l, List.set_cons_succ, List.set_cons_zero, Nat.reduceAdd, ckS_0, ckS_1, ckS_2, ckS_3, ckS_4, Option.bind_some, Option.isSome_some, psh, if_true, if_false, i10, not_true_eq_false, not_false_eq_true, Bool.false_eq_true, and_self, and_true, true_and, eq_self, qI_81_0, qI_81_2, qI_81_3, qI_81_9, qI_81_10, qI_81_11, qI_81_12, qI_81_13, qI_81_18, qI_81_19, qI_81_20, qI_81_21, qI_81_29, qI_81_30, qI_81_31, qI_81_32, qI_81_33, qI_81_34, qI_81_35, qI_81_39, qI_81_40, qI_81_41, qI_81_42, qI_81_43, qI_81_44, qI_81_45, qI_81_46, qI_81_47, qI_81_51, qI_81_53, qR_81_1, qRd_81_1, qR_81_4, qRd_81_4, qR_81_5, qRd_81_5, qR_81_6, qRd_81_6, qR_81_7, qRd_81_7, qR_81_8, qRd_81_8, qR_81_14, qRd_81_14, qR_81_15, qRd_81_15, qR_81_16, qRd_81_16, qR_81_17, qRd_81_17, qR_81_22, qRd_81_22, qR_81_23, qRd_81_23, qR_81_24, qRd_81_24, qR_81_25, qRd_81_25, qR_81_26, qRd_81_26, qR_81_27, qRd_81_27, qR_81_28, qRd_81_28, qR_81_36, qRd_81_36, qR_81_37, qRd_81_37, qR_81_38, qRd_81_38, qR_81_48, qRd_81_48, qR_81_49, qRd_81_49, qR_81_50, qRd_81_50, qR_81_52, qRd_81_52, qR_81_54, qRd_81_54, qR_81_55, qRd_81_55, qR_81_56, qRd_81_56, qR_81_57, qRd_81_57, qR_81_58, qRd_81_58, qO_81, pm_19, pm_18, h1, up_f c]
  · have h1 : 0 ≤ fI' s.2.1 := by rw [← Int32.not_lt]; exact fun q => c ((fI_lt _ hf).mp q)
    have e : wrS s = s := by
      obtain ⟨a, f, b⟩ := s
      cases f with
      | none => exact absurd rfl c
      | some k => rfl
    rw [e]
    simp only [r_MRm_wrong_0, r_MRm_wrong_1, r_MRm_wrong_4, r_MRm_wrong_7, r_MRm_wrong_8, r_MRm_wrong_9, r_MRm_wrong_12, r_MRm_wrong_15, sL_0, sL_1, sL_2, mk_i, mk_r, mk_f, mk_n, mk_u, mk_l, List.set_cons_succ, List.set_cons_zero, Nat.reduceAdd, ckS_0, ckS_1, ckS_2, ckS_3, ckS_4, Option.bind_some, Option.isSome_some, psh, if_true, if_false, i10, not_true_eq_false, not_false_eq_true, Bool.false_eq_true, and_self, and_true, true_and, eq_self, qI_81_0, qI_81_2, qI_81_3, qI_81_9, qI_81_10, qI_81_11, qI_81_12, qI_81_13, qI_81_18, qI_81_19, qI_81_20, qI_81_21, qI_81_29, qI_81_30, qI_81_31, qI_81_32, qI_81_33, qI_81_34, qI_81_35, qI_81_39, qI_81_40, qI_81_41, qI_81_42, qI_81_43, qI_81_44, qI_81_45, qI_81_46, qI_81_47, qI_81_51, qI_81_53, qR_81_1, qRd_81_1, qR_81_4, qRd_81_4, qR_81_5, qRd_81_5, qR_81_6, qRd_81_6, qR_81_7, qRd_81_7, qR_81_8, qRd_81_8, qR_81_14, qRd_81_14, qR_81_15, qRd_81_15, qR_81_16, qRd_81_16, qR_81_17, qRd_81_17, qR_81_22, qRd_81_22, qR_81_23, qRd_81_23, qR_81_24, qRd_81_24, qR_81_25, qRd_81_25, qR_81_26, qRd_81_26, qR_81_27, qRd_81_27, qR_81_28, qRd_81_28, qR_81_36, qRd_81_36, qR_81_37, qRd_81_37, qR_81_38, qRd_81_38, qR_81_48, qRd_81_48, qR_81_49, qRd_81_49, qR_81_50, qRd_81_50, qR_81_52, qRd_81_52, qR_81_54, qRd_81_54, qR_81_55, qRd_81_55, qR_81_56, qRd_81_56, qR_81_57, qRd_81_57, qR_81_58, qRd_81_58, qO_81, pm_19, h1]
theorem e_addStep {a w : Int32} (hl : s.2.2.2.length < 130) (ha : a.toInt8.toInt32 = a) : Rr X d MRm_addStep 0 [.ref 81, .int a, .int w] [] (Wd (pm mu s) la ro et) = some (none, Wd (pm mu (adS s a w)) la ro et) := by
  have e1 : (520 : Int32) + nI s.2.2.2.length = nI (520 + s.2.2.2.length) := nI_add 520 _
  have c1 : (nI (520 + s.2.2.2.length)).toNatClampNeg = 520 + s.2.2.2.length := nI_clamp (by omega)
  have i1 := ix (j := 520 + s.2.2.2.length) (N := 650) (by omega) (by omega)
  simp only [r_MRm_addStep_0, r_MRm_addStep_1, r_MRm_addStep_4, r_MRm_addStep_7, r_MRm_addStep_8, r_MRm_addStep_11, r_MRm_addStep_12, r_MRm_addStep_13, r_MRm_addStep_14, r_MRm_addStep_15, r_MRm_addStep_16, r_MRm_addStep_19, r_MRm_addStep_22, r_MRm_addStep_23, r_MRm_addStep_26, r_MRm_addStep_27, r_MRm_addStep_28, r_MRm_addStep_29, r_MRm_addStep_30, r_MRm_addStep_30i, r_MRm_addStep_31, r_MRm_addStep_34, r_MRm_addStep_35, r_MRm_addStep_36, r_MRm_addStep_39, sL_0, sL_1, sL_2, mk_i, mk_r, mk_f, mk_n, mk_u, mk_l, List.set_cons_succ, List.set_cons_zero, Nat.reduceAdd, ckS_0, ckS_1, ckS_2, ckS_3, ckS_4, Option.bind_some, Option.isSome_some, psh, if_true, if_false, i10, not_true_eq_false, not_false_eq_true, Bool.false_eq_true, and_self, and_true, true_and, eq_self, qI_81_0, qI_81_2, qI_81_3, qI_81_9, qI_81_10, qI_81_11, qI_81_12, qI_81_13, qI_81_18, qI_81_19, qI_81_20, qI_81_21, qI_81_29, qI_81_30, qI_81_31, qI_81_32, qI_81_33, qI_81_34, qI_81_35, qI_81_39, qI_81_40, qI_81_41, qI_81_42, qI_81_43, qI_81_44, qI_81_45, qI_81_46, qI_81_47, qI_81_51, qI_81_53, qR_81_1, qRd_81_1, qR_81_4, qRd_81_4, qR_81_5, qRd_81_5, qR_81_6, qRd_81_6, qR_81_7, qRd_81_7, qR_81_8, qRd_81_8, qR_81_14, qRd_81_14, qR_81_15, qRd_81_15, qR_81_16, qRd_81_16, qR_81_17, qRd_81_17, qR_81_22, qRd_81_22, qR_81_23, qRd_81_23, qR_81_24, qRd_81_24, qR_81_25, qRd_81_25, qR_81_26, qRd_81_26, qR_81_27, qRd_81_27, qR_81_28, qRd_81_28, qR_81_36, qRd_81_36, qR_81_37, qRd_81_37, qR_81_38, qRd_81_38, qR_81_48, qRd_81_48, qR_81_49, qRd_81_49, qR_81_50, qRd_81_50, qR_81_52, qRd_81_52, qR_81_54, qRd_81_54, qR_81_55, qRd_81_55, qR_81_56, qRd_81_56, qR_81_57, qRd_81_57, qR_81_58, qRd_81_58, qA_92, qAd_92, qA_93, qAd_93, qO_81, qL_92, qLd_92, qL_93, qLd_93, pm_21, e1, c1, i1, ha, up2_e, Nat.reduceEqDiff, false_and, if_false, nI_1, up_ad]
theorem e_opens1 (ho : s.2.2.1 < 6) : Rr X (d + 1) MRm_opens 0 [.ref 81] [] (Wd (pm mu s) la ro et) = some (some (.int 1), Wd (pm mu (hS (oS s (s.2.2.1 + 1)))) la ro et) := by
  have h1 : ¬ nI s.2.2.1 = 6 := fun q => by
    have := (nI_eq (a := s.2.2.1) (b := 6) (by omega) (by omega)).mp q
    omega
  have e : nI (oS s (s.2.2.1 + 1)).1 = nI s.1 := rfl
  simp only [r_MRm_opens_0, r_MRm_opens_1, r_MRm_opens_4, r_MRm_opens_6, r_MRm_opens_9, r_MRm_opens_10, r_MRm_opens_13, r_MRm_opens_14, r_MRm_opens_15, r_MRm_opens_16, r_MRm_opens_16i, r_MRm_opens_17, r_MRm_opens_20, r_MRm_opens_21, r_MRm_opens_22, r_MRm_opens_25, r_MRm_opens_26, r_MRm_opens_26i, r_MRm_opens_27, r_MRm_opens_30, r_MRm_opens_31, r_MRm_opens_32, r_MRm_opens_35, r_MRm_opens_36, sL_0, sL_1, sL_2, mk_i, mk_r, mk_f, mk_n, mk_u, mk_l, List.set_cons_succ, List.set_cons_zero, Nat.reduceAdd, ckS_0, ckS_1, ckS_2, ckS_3, ckS_4, Option.bind_some, Option.isSome_some, psh, if_true, if_false, i10, not_true_eq_false, not_false_eq_true, Bool.false_eq_true, and_self, and_true, true_and, eq_self, qI_81_0, qI_81_2, qI_81_3, qI_81_9, qI_81_10, qI_81_11, qI_81_12, qI_81_13, qI_81_18, qI_81_19, qI_81_20, qI_81_21, qI_81_29, qI_81_30, qI_81_31, qI_81_32, qI_81_33, qI_81_34, qI_81_35, qI_81_39, qI_81_40, qI_81_41, qI_81_42, qI_81_43, qI_81_44, qI_81_45, qI_81_46, qI_81_47, qI_81_51, qI_81_53, qR_81_1, qRd_81_1, qR_81_4, qRd_81_4, qR_81_5, qRd_81_5, qR_81_6, qRd_81_6, qR_81_7, qRd_81_7, qR_81_8, qRd_81_8, qR_81_14, qRd_81_14, qR_81_15, qRd_81_15, qR_81_16, qRd_81_16, qR_81_17, qRd_81_17, qR_81_22, qRd_81_22, qR_81_23, qRd_81_23, qR_81_24, qRd_81_24, qR_81_25, qRd_81_25, qR_81_26, qRd_81_26, qR_81_27, qRd_81_27, qR_81_28, qRd_81_28, qR_81_36, qRd_81_36, qR_81_37, qRd_81_37, qR_81_38, qRd_81_38, qR_81_48, qRd_81_48, qR_81_49, qRd_81_49, qR_81_50, qRd_81_50, qR_81_52, qRd_81_52, qR_81_54, qRd_81_54, qR_81_55, qRd_81_55, qR_81_56, qRd_81_56, qR_81_57, qRd_81_57, qR_81_58, qRd_81_58, qO_81, pm_20, h1, nI_1, up_o, pm_18, e]
  rw [show up2 (pm mu (oS s (s.2.2.1 + 1))) 81 18 (nI (s.1 + 1)) = pm mu (hS (oS s (s.2.2.1 + 1))) from up_h]
  simp
theorem e_opens0 (ho : s.2.2.1 = 6) (hf : ∀ k, s.2.1 = some k → k < 2 ^ 31) : Rr X (d + 1) MRm_opens 0 [.ref 81] [] (Wd (pm mu s) la ro et) = some (some (.int 0), Wd (pm mu (wrS s)) la ro et) := by
  have h1 : nI s.2.2.1 = 6 := by rw [ho]; rfl
  simp only [r_MRm_opens_0, r_MRm_opens_1, r_MRm_opens_4, r_MRm_opens_6, r_MRm_opens_9, r_MRm_opens_10, r_MRm_opens_13, r_MRm_opens_14, r_MRm_opens_15, r_MRm_opens_16, r_MRm_opens_16i, r_MRm_opens_17, r_MRm_opens_20, r_MRm_opens_21, r_MRm_opens_22, r_MRm_opens_25, r_MRm_opens_26, r_MRm_opens_26i, r_MRm_opens_27, r_MRm_opens_30, r_MRm_opens_31, r_MRm_opens_32, r_MRm_opens_35, r_MRm_opens_36, sL_0, sL_1, sL_2, mk_i, mk_r, mk_f, mk_n, mk_u, mk_l, List.set_cons_succ, List.set_cons_zero, Nat.reduceAdd, ckS_0, ckS_1, ckS_2, ckS_3, ckS_4, Option.bind_some, Option.isSome_some, psh, if_true, if_false, i10, not_true_eq_false, not_false_eq_true, Bool.false_eq_true, and_self, and_true, true_and, eq_self, qI_81_0, qI_81_2, qI_81_3, qI_81_9, qI_81_10, qI_81_11, qI_81_12, qI_81_13, qI_81_18, qI_81_19, qI_81_20, qI_81_21, qI_81_29, qI_81_30, qI_81_31, qI_81_32, qI_81_33, qI_81_34, qI_81_35, qI_81_39, qI_81_40, qI_81_41, qI_81_42, qI_81_43, qI_81_44, qI_81_45, qI_81_46, qI_81_47, qI_81_51, qI_81_53, qR_81_1, qRd_81_1, qR_81_4, qRd_81_4, qR_81_5, qRd_81_5, qR_81_6, qRd_81_6, qR_81_7, qRd_81_7, qR_81_8, qRd_81_8, qR_81_14, qRd_81_14, qR_81_15, qRd_81_15, qR_81_16, qRd_81_16, qR_81_17, qRd_81_17, qR_81_22, qRd_81_22, qR_81_23, qRd_81_23, qR_81_24, qRd_81_24, qR_81_25, qRd_81_25, qR_81_26, qRd_81_26, qR_81_27, qRd_81_27, qR_81_28, qRd_81_28, qR_81_36, qRd_81_36, qR_81_37, qRd_81_37, qR_81_38, qRd_81_38, qR_81_48, qRd_81_48, qR_81_49, qRd_81_49, qR_81_50, qRd_81_50, qR_81_52, qRd_81_52, qR_81_54, qRd_81_54, qR_81_55, qRd_81_55, qR_81_56, qRd_81_56, qR_81_57, qRd_81_57, qR_81_58, qRd_81_58, qO_81, pm_20, h1, e_wrong hf]
  simp
end
