-- ===== the text of a stone: what both sides read, as functions of the bytes
/-- the place, the fault -/
abbrev SS : Type := Nat × Option Nat
abbrev Lp : Type := Int32 × Int32 × Int32
noncomputable def noS (s : SS) : Bool := match s.2 with
  | none => true
  | some _ => false
noncomputable def flS (s : SS) : SS := (s.1, match s.2 with
  | none => some s.1
  | some k => some k)
noncomputable def inS (s : SS) : SS := (s.1 + 1, s.2)
noncomputable def hrS (mu : Mu) (c : Int32) (s : SS) : Bool := noS s && decide (bt mu s.1 = c)
noncomputable def tkS (mu : Mu) (c : Int32) (s : SS) : SS := if hrS mu c s = true then inS s else flS s
noncomputable def dOkM (mu : Mu) (l : Int32) (h : Nat) : Bool := decide (l ≤ bt mu h - 48 ∧ bt mu h - 48 ≤ 9)
noncomputable def dgS (mu : Mu) (l : Int32) (s : SS) : Int32 × SS := if noS s = true then (if dOkM mu l s.1 = true then (bt mu s.1 - 48, inS s) else (0, flS s)) else (0, s)
noncomputable def pmS (mu : Mu) (s : SS) : SS := if hrS mu 43 s = true then inS s else if hrS mu 45 s = true then inS s else flS s
noncomputable def sgS (mu : Mu) (s : SS) : Int32 × SS := ((if hrS mu 45 s = true then -1 else 1) * (dgS mu 0 (pmS mu s)).1, (dgS mu 0 (pmS mu s)).2)
noncomputable def nmS (mu : Mu) (most : Int32) (s : SS) : Int32 × SS := if noS s = true then ((fgL mu 3 s.1 0 0).2.1, ((fgL mu 3 s.1 0 0).1, if (fgL mu 3 s.1 0 0).1 = s.1 ∨ ¬ (fgL mu 3 s.1 0 0).2.1 ≤ most then some s.1 else none)) else (0, s)
noncomputable def lpS (mu : Mu) (s : SS) : Lp × SS := (((dgS mu 1 s).1, (sgS mu (dgS mu 1 s).2).1, (sgS mu (sgS mu (dgS mu 1 s).2).2).1), (sgS mu (sgS mu (dgS mu 1 s).2).2).2)
noncomputable def lpsS (mu : Mu) : Nat → SS → List Lp × SS
  | 0, s => ([], s)
  | k + 1, s => if hrS mu 59 s = true then ((lpS mu (inS s)).1 :: (lpsS mu k (lpS mu (inS s)).2).1, (lpsS mu k (lpS mu (inS s)).2).2) else ([], s)
/-- the four rates -/
noncomputable def rtA (mu : Mu) (s : SS) : Int32 × SS := nmS mu 999 (tkS mu 47 s)
noncomputable def rtB (mu : Mu) (s : SS) : Int32 × SS := nmS mu 999 (tkS mu 44 (rtA mu s).2)
noncomputable def rtC (mu : Mu) (s : SS) : Int32 × SS := nmS mu 100 (tkS mu 44 (rtB mu s).2)
noncomputable def rtD (mu : Mu) (s : SS) : Int32 × SS := nmS mu 100 (tkS mu 44 (rtC mu s).2)
noncomputable def enT (mu : Mu) (s : SS) : SS := if noS s = true then (if s.1 < Tt mu then flS s else s) else s
/-- a stone's text as a whole: its lumps, its rates, where it ends -/
noncomputable def stW (mu : Mu) : List Lp := (lpS mu (0, none)).1 :: (lpsS mu 11 (lpS mu (0, none)).2).1
noncomputable def stZ (mu : Mu) : SS := (lpsS mu 11 (lpS mu (0, none)).2).2
noncomputable def stEnd (mu : Mu) : SS := enT mu (rtD mu (stZ mu)).2
section
variable {X : Tok} {d : Nat} {mu m mu' : Mu} {la la' : La} {ro ro' : Ro} {et : Nat → Option va_E} {s : SS} {c l : Int32} {h : Nat}
theorem noS_n (h : noS s = true) : s.2 = none := by
  unfold noS at h
  split at h
  · assumption
  · cases h
theorem noS_f (h : ¬ noS s = true) : ∃ k, s.2 = some k := by
  unfold noS at h
  split at h
  · exact absurd rfl h
  · rename_i k e; exact ⟨k, e⟩
theorem flS_n (h : noS s = true) : flS s = (s.1, some s.1) := by
  unfold flS
  rw [noS_n h]
theorem flS_f (h : ¬ noS s = true) : flS s = s := by
  obtain ⟨k, e⟩ := noS_f h
  obtain ⟨a, b⟩ := s
  subst e
  rfl
theorem flS_no : noS (flS s) = false := by
  unfold noS flS
  cases s.2 <;> rfl
/-- the model's memory at a state of reading -/
noncomputable def qm (m : Mu) (s : SS) : Mu := up2 (up2 m 81 18 (nI s.1)) 81 19 (fI' s.2)
theorem qm_18 : qm m s 81 18 = nI s.1 := (up2_k (by decide)).trans (up2_s _ _ _ _)
theorem qm_19 : qm m s 81 19 = fI' s.2 := up2_s _ _ _ _
theorem qm_81 {j : Nat} (h1 : ¬ j = 18) (h2 : ¬ j = 19) : qm m s 81 j = m 81 j := by
  unfold qm
  rw [up2_k h2, up2_k h1]
theorem qm_o {c j : Nat} (h : ¬ c = 81) : qm m s c j = m c j := by
  unfold qm
  rw [up2_a h, up2_a h]
theorem qm_up {c j : Nat} {v : Int32} (h : ¬ c = 81) : up2 (qm m s) c j v = qm (up2 m c j v) s := by
  refine funext fun c' => funext fun j' => ?_
  unfold qm
  simp only [up2_e]
  by_cases q : c' = c ∧ j' = j
  · rw [if_pos q, if_neg (by omega), if_neg (by omega), if_pos q]
  · rw [if_neg q, if_neg q]
theorem qm_in : up2 (qm m s) 81 18 (nI (s.1 + 1)) = qm m (inS s) := by
  refine funext fun c' => funext fun j' => ?_
  unfold qm inS
  simp only [up2_e]
  by_cases q : c' = 81 ∧ j' = 18
  · rw [if_pos q, if_neg (by omega), if_pos q]
  · rw [if_neg q, if_neg q]
    split <;> rfl
theorem qm_fl (h : noS s = true) : up2 (qm m s) 81 19 (nI s.1) = qm m (flS s) := by
  rw [flS_n h]
  refine funext fun c' => funext fun j' => ?_
  unfold qm
  simp only [up2_e]
  by_cases q : c' = 81 ∧ j' = 19
  · rw [if_pos q, if_pos q]; rfl
  · rw [if_neg q, if_neg q, if_neg q]
abbrev bS (s : SS) : Prop := s.1 ≤ 120 ∧ ∀ k, s.2 = some k → k ≤ 120
theorem fi0 (h : noS s = true) : (0 ≤ fI' s.2) = False := by rw [noS_n h]; exact eq_false (by decide)
theorem fi1 (hb : bS s) (h : ¬ noS s = true) : (0 ≤ fI' s.2) = True := by
  obtain ⟨k, e⟩ := noS_f h
  rw [e]
  exact eq_true (nI_pos' (by have := hb.2 k e; omega))
theorem fl0 (h : noS s = true) : (fI' s.2 < 0) = True := by rw [noS_n h]; exact eq_true (by decide)
theorem fl1 (hb : bS s) (h : ¬ noS s = true) : (fI' s.2 < 0) = False := by
  obtain ⟨k, e⟩ := noS_f h
  rw [e]
  exact eq_false (nI_pos (by have := hb.2 k e; omega))
theorem e_isHere (hT : tOK m) (hb : bS s) (hc : ¬ c = -1) : Rr X d MRm_isHere 0 [.ref 81, .int c] [] (Wd (qm m s) la ro et) = some (some (.int (if hrS m c s = true then 1 else 0)), Wd (qm m s) la ro et) := by
  unfold hrS
  by_cases c1 : noS s = true
  · obtain ⟨T, t1, t2⟩ := hT
    rw [c1, Bool.true_and]
    unfold bt
    rw [t2, nI_clamp (by omega)]
    have ch : (nI s.1).toNatClampNeg = s.1 := nI_clamp (by have := hb.1; omega)
    have q2 : qm m s 81 2 = nI T := (qm_81 (by decide) (by decide)).trans t2
    have q82 : ∀ j, qm m s 82 j = m 82 j := fun j => qm_o (by decide)
    by_cases c2 : s.1 < T
    · have h1 : ¬ nI T ≤ nI s.1 := nI_ge c2 (by omega)
      have ih := ix (j := s.1) (N := 120) (by omega) (by omega)
      rw [if_pos c2]
      by_cases c3 : m 82 s.1 = c
      · rw [decide_eq_true c3]
        simp only [r_MRm_isHere_0, r_MRm_isHere_1, r_MRm_isHere_4, r_MRm_isHere_7, r_MRm_isHere_8, r_MRm_isHere_11, r_MRm_isHere_12, r_MRm_isHere_15, r_MRm_isHere_18, r_MRm_isHere_19, r_MRm_isHere_22, r_MRm_isHere_23, r_MRm_isHere_26, r_MRm_isHere_27, r_MRm_isHere_28, r_MRm_isHere_31, r_MRm_isHere_32, r_MRm_isHere_35, r_MRm_isHere_36, sL_0, sL_1, sL_2, mk_i, mk_r, mk_f, mk_n, mk_u, mk_l, List.set_cons_succ, List.set_cons_zero, Nat.reduceAdd, ckS_0, ckS_1, ckS_2, ckS_3, ckS_4, Option.bind_some, Option.isSome_some, psh, if_true, if_false, i10, not_true_eq_false, not_false_eq_true, Bool.false_eq_true, and_self, and_true, true_and, eq_self, qI_81_0, qI_81_2, qI_81_3, qI_81_9, qI_81_10, qI_81_11, qI_81_12, qI_81_13, qI_81_18, qI_81_19, qI_81_20, qI_81_21, qI_81_29, qI_81_30, qI_81_31, qI_81_32, qI_81_33, qI_81_34, qI_81_35, qI_81_39, qI_81_40, qI_81_41, qI_81_42, qI_81_43, qI_81_44, qI_81_45, qI_81_46, qI_81_47, qI_81_51, qI_81_53, qR_81_1, qRd_81_1, qR_81_4, qRd_81_4, qR_81_5, qRd_81_5, qR_81_6, qRd_81_6, qR_81_7, qRd_81_7, qR_81_8, qRd_81_8, qR_81_14, qRd_81_14, qR_81_15, qRd_81_15, qR_81_16, qRd_81_16, qR_81_17, qRd_81_17, qR_81_22, qRd_81_22, qR_81_23, qRd_81_23, qR_81_24, qRd_81_24, qR_81_25, qRd_81_25, qR_81_26, qRd_81_26, qR_81_27, qRd_81_27, qR_81_28, qRd_81_28, qR_81_36, qRd_81_36, qR_81_37, qRd_81_37, qR_81_38, qRd_81_38, qR_81_48, qRd_81_48, qR_81_49, qRd_81_49, qR_81_50, qRd_81_50, qR_81_52, qRd_81_52, qR_81_54, qRd_81_54, qR_81_55, qRd_81_55, qR_81_56, qRd_81_56, qR_81_57, qRd_81_57, qR_81_58, qRd_81_58, qA_82, qAd_82, qO_81, qL_82, qLd_82, qm_19, qm_18, fi0 c1, q2, h1, ch, ih, q82, c3, or_true]
      · rw [decide_eq_false c3]
        simp only [r_MRm_isHere_0, r_MRm_isHere_1, r_MRm_isHere_4, r_MRm_isHere_7, r_MRm_isHere_8, r_MRm_isHere_11, r_MRm_isHere_12, r_MRm_isHere_15, r_MRm_isHere_18, r_MRm_isHere_19, r_MRm_isHere_22, r_MRm_isHere_23, r_MRm_isHere_26, r_MRm_isHere_27, r_MRm_isHere_28, r_MRm_isHere_31, r_MRm_isHere_32, r_MRm_isHere_35, r_MRm_isHere_36, sL_0, sL_1, sL_2, mk_i, mk_r, mk_f, mk_n, mk_u, mk_l, List.set_cons_succ, List.set_cons_zero, Nat.reduceAdd, ckS_0, ckS_1, ckS_2, ckS_3, ckS_4, Option.bind_some, Option.isSome_some, psh, if_true, if_false, i10, not_true_eq_false, not_false_eq_true, Bool.false_eq_true, and_self, and_true, true_and, eq_self, qI_81_0, qI_81_2, qI_81_3, qI_81_9, qI_81_10, qI_81_11, qI_81_12, qI_81_13, qI_81_18, qI_81_19, qI_81_20, qI_81_21, qI_81_29, qI_81_30, qI_81_31, qI_81_32, qI_81_33, qI_81_34, qI_81_35, qI_81_39, qI_81_40, qI_81_41, qI_81_42, qI_81_43, qI_81_44, qI_81_45, qI_81_46, qI_81_47, qI_81_51, qI_81_53, qR_81_1, qRd_81_1, qR_81_4, qRd_81_4, qR_81_5, qRd_81_5, qR_81_6, qRd_81_6, qR_81_7, qRd_81_7, qR_81_8, qRd_81_8, qR_81_14, qRd_81_14, qR_81_15, qRd_81_15, qR_81_16, qRd_81_16, qR_81_17, qRd_81_17, qR_81_22, qRd_81_22, qR_81_23, qRd_81_23, qR_81_24, qRd_81_24, qR_81_25, qRd_81_25, qR_81_26, qRd_81_26, qR_81_27, qRd_81_27, qR_81_28, qRd_81_28, qR_81_36, qRd_81_36, qR_81_37, qRd_81_37, qR_81_38, qRd_81_38, qR_81_48, qRd_81_48, qR_81_49, qRd_81_49, qR_81_50, qRd_81_50, qR_81_52, qRd_81_52, qR_81_54, qRd_81_54, qR_81_55, qRd_81_55, qR_81_56, qRd_81_56, qR_81_57, qRd_81_57, qR_81_58, qRd_81_58, qA_82, qAd_82, qO_81, qL_82, qLd_82, qm_19, qm_18, fi0 c1, q2, h1, ch, ih, q82, c3, true_or]
    · have h1 : nI T ≤ nI s.1 := nI_le (by omega) (by have := hb.1; omega)
      rw [if_neg c2, decide_eq_false (fun q => hc q.symm)]
      simp only [r_MRm_isHere_0, r_MRm_isHere_1, r_MRm_isHere_4, r_MRm_isHere_7, r_MRm_isHere_8, r_MRm_isHere_11, r_MRm_isHere_12, r_MRm_isHere_15, r_MRm_isHere_18, r_MRm_isHere_19, r_MRm_isHere_22, r_MRm_isHere_23, r_MRm_isHere_26, r_MRm_isHere_27, r_MRm_isHere_28, r_MRm_isHere_31, r_MRm_isHere_32, r_MRm_isHere_35, r_MRm_isHere_36, sL_0, sL_1, sL_2, mk_i, mk_r, mk_f, mk_n, mk_u, mk_l, List.set_cons_succ, List.set_cons_zero, Nat.reduceAdd, ckS_0, ckS_1, ckS_2, ckS_3, ckS_4, Option.bind_some, Option.isSome_some, psh, if_true, if_false, i10, not_true_eq_false, not_false_eq_true, Bool.false_eq_true, and_self, and_true, true_and, eq_self, qI_81_0, qI_81_2, qI_81_3, qI_81_9, qI_81_10, qI_81_11, qI_81_12, qI_81_13, qI_81_18, qI_81_19, qI_81_20, qI_81_21, qI_81_29, qI_81_30, qI_81_31, qI_81_32, qI_81_33, qI_81_34, qI_81_35, qI_81_39, qI_81_40, qI_81_41, qI_81_42, qI_81_43, qI_81_44, qI_81_45, qI_81_46, qI_81_47, qI_81_51, qI_81_53, qR_81_1, qRd_81_1, qR_81_4, qRd_81_4, qR_81_5, qRd_81_5, qR_81_6, qRd_81_6, qR_81_7, qRd_81_7, qR_81_8, qRd_81_8, qR_81_14, qRd_81_14, qR_81_15, qRd_81_15, qR_81_16, qRd_81_16, qR_81_17, qRd_81_17, qR_81_22, qRd_81_22, qR_81_23, qRd_81_23, qR_81_24, qRd_81_24, qR_81_25, qRd_81_25, qR_81_26, qRd_81_26, qR_81_27, qRd_81_27, qR_81_28, qRd_81_28, qR_81_36, qRd_81_36, qR_81_37, qRd_81_37, qR_81_38, qRd_81_38, qR_81_48, qRd_81_48, qR_81_49, qRd_81_49, qR_81_50, qRd_81_50, qR_81_52, qRd_81_52, qR_81_54, qRd_81_54, qR_81_55, qRd_81_55, qR_81_56, qRd_81_56, qR_81_57, qRd_81_57, qR_81_58, qRd_81_58, qA_82, qAd_82, qO_81, qL_82, qLd_82, qm_19, qm_18, fi0 c1, q2, h1, true_or]
  · rw [Bool.eq_false_iff.mpr c1, Bool.false_and]
    simp only [r_MRm_isHere_0, r_MRm_isHere_1, r_MRm_isHere_4, r_MRm_isHere_7, r_MRm_isHere_8, r_MRm_isHere_11, r_MRm_isHere_12, r_MRm_isHere_15, r_MRm_isHere_18, r_MRm_isHere_19, r_MRm_isHere_22, r_MRm_isHere_23, r_MRm_isHere_26, r_MRm_isHere_27, r_MRm_isHere_28, r_MRm_isHere_31, r_MRm_isHere_32, r_MRm_isHere_35, r_MRm_isHere_36, sL_0, sL_1, sL_2, mk_i, mk_r, mk_f, mk_n, mk_u, mk_l, List.set_cons_succ, List.set_cons_zero, Nat.reduceAdd, ckS_0, ckS_1, ckS_2, ckS_3, ckS_4, Option.bind_some, Option.isSome_some, psh, if_true, if_false, i10, not_true_eq_false, not_false_eq_true, Bool.false_eq_true, and_self, and_true, true_and, eq_self, qI_81_0, qI_81_2, qI_81_3, qI_81_9, qI_81_10, qI_81_11, qI_81_12, qI_81_13, qI_81_18, qI_81_19, qI_81_20, qI_81_21, qI_81_29, qI_81_30, qI_81_31, qI_81_32, qI_81_33, qI_81_34, qI_81_35, qI_81_39, qI_81_40, qI_81_41, qI_81_42, qI_81_43, qI_81_44, qI_81_45, qI_81_46, qI_81_47, qI_81_51, qI_81_53, qR_81_1, qRd_81_1, qR_81_4, qRd_81_4, qR_81_5, qRd_81_5, qR_81_6, qRd_81_6, qR_81_7, qRd_81_7, qR_81_8, qRd_81_8, qR_81_14, qRd_81_14, qR_81_15, qRd_81_15, qR_81_16, qRd_81_16, qR_81_17, qRd_81_17, qR_81_22, qRd_81_22, qR_81_23, qRd_81_23, qR_81_24, qRd_81_24, qR_81_25, qRd_81_25, qR_81_26, qRd_81_26, qR_81_27, qRd_81_27, qR_81_28, qRd_81_28, qR_81_36, qRd_81_36, qR_81_37, qRd_81_37, qR_81_38, qRd_81_38, qR_81_48, qRd_81_48, qR_81_49, qRd_81_49, qR_81_50, qRd_81_50, qR_81_52, qRd_81_52, qR_81_54, qRd_81_54, qR_81_55, qRd_81_55, qR_81_56, qRd_81_56, qR_81_57, qRd_81_57, qR_81_58, qRd_81_58, qA_82, qAd_82, qO_81, qL_82, qLd_82, qm_19, fi1 hb c1, true_or]
theorem e_takes (hT : tOK m) (hb : bS s) (hc : ¬ c = -1) : Rr X (d + 1) MRm_takes 0 [.ref 81, .int c] [] (Wd (qm m s) la ro et) = some (none, Wd (qm m (tkS m c s)) la ro et) := by
  have e := e_isHere (X := X) (d := d) (la := la) (ro := ro) (et := et) hT hb hc
  unfold tkS
  by_cases c1 : hrS m c s = true
  · rw [if_pos c1] at e ⊢
    simp only [r_MRm_takes_0, r_MRm_takes_1, r_MRm_takes_2, r_MRm_takes_5, r_MRm_takes_8, r_MRm_takes_9, r_MRm_takes_9i, r_MRm_takes_10, r_MRm_takes_13, r_MRm_takes_14, r_MRm_takes_15, r_MRm_takes_18, r_MRm_takes_21, r_MRm_takes_22, r_MRm_takes_25, r_MRm_takes_28, r_MRm_takes_29, r_MRm_takes_30, r_MRm_takes_33, r_MRm_takes_36, sL_0, sL_1, sL_2, mk_i, mk_r, mk_f, mk_n, mk_u, mk_l, List.set_cons_succ, List.set_cons_zero, Nat.reduceAdd, ckS_0, ckS_1, ckS_2, ckS_3, ckS_4, Option.bind_some, Option.isSome_some, psh, if_true, if_false, i10, not_true_eq_false, not_false_eq_true, Bool.false_eq_true, and_self, and_true, true_and, eq_self, qI_81_0, qI_81_2, qI_81_3, qI_81_9, qI_81_10, qI_81_11, qI_81_12, qI_81_13, qI_81_18, qI_81_19, qI_81_20, qI_81_21, qI_81_29, qI_81_30, qI_81_31, qI_81_32, qI_81_33, qI_81_34, qI_81_35, qI_81_39, qI_81_40, qI_81_41, qI_81_42, qI_81_43, qI_81_44, qI_81_45, qI_81_46, qI_81_47, qI_81_51, qI_81_53, qR_81_1, qRd_81_1, qR_81_4, qRd_81_4, qR_81_5, qRd_81_5, qR_81_6, qRd_81_6, qR_81_7, qRd_81_7, qR_81_8, qRd_81_8, qR_81_14, qRd_81_14, qR_81_15, qRd_81_15, qR_81_16, qRd_81_16, qR_81_17, qRd_81_17, qR_81_22, qRd_81_22, qR_81_23, qRd_81_23, qR_81_24, qRd_81_24, qR_81_25, qRd_81_25, qR_81_26, qRd_81_26, qR_81_27, qRd_81_27, qR_81_28, qRd_81_28, qR_81_36, qRd_81_36, qR_81_37, qRd_81_37, qR_81_38, qRd_81_38, qR_81_48, qRd_81_48, qR_81_49, qRd_81_49, qR_81_50, qRd_81_50, qR_81_52, qRd_81_52, qR_81_54, qRd_81_54, qR_81_55, qRd_81_55, qR_81_56, qRd_81_56, qR_81_57, qRd_81_57, qR_81_58, qRd_81_58, qO_81, e, qm_18, nI_1, qm_in]
  · rw [if_neg c1] at e ⊢
    by_cases c2 : noS s = true
    · simp only [r_MRm_takes_0, r_MRm_takes_1, r_MRm_takes_2, r_MRm_takes_5, r_MRm_takes_8, r_MRm_takes_9, r_MRm_takes_9i, r_MRm_takes_10, r_MRm_takes_13, r_MRm_takes_14, r_MRm_takes_15, r_MRm_takes_18, r_MRm_takes_21, r_MRm_takes_22, r_MRm_takes_25, r_MRm_takes_28, r_MRm_takes_29, r_MRm_takes_30, r_MRm_takes_33, r_MRm_takes_36, sL_0, sL_1, sL_2, mk_i, mk_r, mk_f, mk_n, mk_u, mk_l, List.set_cons_succ, List.set_cons_zero, Nat.reduceAdd, ckS_0, ckS_1, ckS_2, ckS_3, ckS_4, Option.bind_some, Option.isSome_some, psh, if_true, if_false, i10, not_true_eq_false, not_false_eq_true, Bool.false_eq_true, and_self, and_true, true_and, eq_self, qI_81_0, qI_81_2, qI_81_3, qI_81_9, qI_81_10, qI_81_11, qI_81_12, qI_81_13, qI_81_18, qI_81_19, qI_81_20, qI_81_21, qI_81_29, qI_81_30, qI_81_31, qI_81_32, qI_81_33, qI_81_34, qI_81_35, qI_81_39, qI_81_40, qI_81_41, qI_81_42, qI_81_43, qI_81_44, qI_81_45, qI_81_46, qI_81_47, qI_81_51, qI_81_53, qR_81_1, qRd_81_1, qR_81_4, qRd_81_4, qR_81_5, qRd_81_5, qR_81_6, qRd_81_6, qR_81_7, qRd_81_7, qR_81_8, qRd_81_8, qR_81_14, qRd_81_14, qR_81_15, qRd_81_15, qR_81_16, qRd_81_16, qR_81_17, qRd_81_17, qR_81_22, qRd_81_22, qR_81_23, qRd_81_23, qR_81_24, qRd_81_24, qR_81_25, qRd_81_25, qR_81_26, qRd_81_26, qR_81_27, qRd_81_27, qR_81_28, qRd_81_28, qR_81_36, qRd_81_36, qR_81_37, qRd_81_37, qR_81_38, qRd_81_38, qR_81_48, qRd_81_48, qR_81_49, qRd_81_49, qR_81_50, qRd_81_50, qR_81_52, qRd_81_52, qR_81_54, qRd_81_54, qR_81_55, qRd_81_55, qR_81_56, qRd_81_56, qR_81_57, qRd_81_57, qR_81_58, qRd_81_58, qO_81, e, qm_19, fi0 c2, qm_18, qm_fl c2]
    · rw [flS_f c2]
      simp only [r_MRm_takes_0, r_MRm_takes_1, r_MRm_takes_2, r_MRm_takes_5, r_MRm_takes_8, r_MRm_takes_9, r_MRm_takes_9i, r_MRm_takes_10, r_MRm_takes_13, r_MRm_takes_14, r_MRm_takes_15, r_MRm_takes_18, r_MRm_takes_21, r_MRm_takes_22, r_MRm_takes_25, r_MRm_takes_28, r_MRm_takes_29, r_MRm_takes_30, r_MRm_takes_33, r_MRm_takes_36, sL_0, sL_1, sL_2, mk_i, mk_r, mk_f, mk_n, mk_u, mk_l, List.set_cons_succ, List.set_cons_zero, Nat.reduceAdd, ckS_0, ckS_1, ckS_2, ckS_3, ckS_4, Option.bind_some, Option.isSome_some, psh, if_true, if_false, i10, not_true_eq_false, not_false_eq_true, Bool.false_eq_true, and_self, and_true, true_and, eq_self, qI_81_0, qI_81_2, qI_81_3, qI_81_9, qI_81_10, qI_81_11, qI_81_12, qI_81_13, qI_81_18, qI_81_19, qI_81_20, qI_81_21, qI_81_29, qI_81_30, qI_81_31, qI_81_32, qI_81_33, qI_81_34, qI_81_35, qI_81_39, qI_81_40, qI_81_41, qI_81_42, qI_81_43, qI_81_44, qI_81_45, qI_81_46, qI_81_47, qI_81_51, qI_81_53, qR_81_1, qRd_81_1, qR_81_4, qRd_81_4, qR_81_5, qRd_81_5, qR_81_6, qRd_81_6, qR_81_7, qRd_81_7, qR_81_8, qRd_81_8, qR_81_14, qRd_81_14, qR_81_15, qRd_81_15, qR_81_16, qRd_81_16, qR_81_17, qRd_81_17, qR_81_22, qRd_81_22, qR_81_23, qRd_81_23, qR_81_24, qRd_81_24, qR_81_25, qRd_81_25, qR_81_26, qRd_81_26, qR_81_27, qRd_81_27, qR_81_28, qRd_81_28, qR_81_36, qRd_81_36, qR_81_37, qRd_81_37, qR_81_38, qRd_81_38, qR_81_48, qRd_81_48, qR_81_49, qRd_81_49, qR_81_50, qRd_81_50, qR_81_52, qRd_81_52, qR_81_54, qRd_81_54, qR_81_55, qRd_81_55, qR_81_56, qRd_81_56, qR_81_57, qRd_81_57, qR_81_58, qRd_81_58, qO_81, e, qm_19, fi1 hb c2]
theorem bt_hi {h : Nat} (hT : tOK m) (q : ¬ h < Tt m) : bt m h = -1 := by
  unfold bt
  exact if_neg q
theorem e_digitM (hT : tOK m) (hb : bS s) (hl : l = 0 ∨ l = 1) : Rr X (d + 1) MRm_digit 0 [.ref 81, .int l, mkU] [] (Wd (qm m s) la ro et) = some (some (.int (dgS m l s).1), Wd (qm m (dgS m l s).2) la ro et) := by
  unfold dgS
  by_cases c1 : noS s = true
  · rw [if_pos c1]
    have hT2 := Tt_le hT
    have q82 : ∀ j, qm m s 82 j = m 82 j := fun j => qm_o (by decide)
    have ch : (nI s.1).toNatClampNeg = s.1 := nI_clamp (by have := hb.1; omega)
    have q2 : qm m s 81 2 = nI (Tt m) := by
      obtain ⟨T, t1, t2⟩ := hT
      rw [qm_81 (by decide) (by decide), t2]
      unfold Tt
      rw [t2, nI_clamp (by omega)]
    by_cases c2 : s.1 < Tt m
    · have h1 : ¬ nI (Tt m) ≤ nI s.1 := nI_ge c2 (by omega)
      have ih := ix (j := s.1) (N := 120) (by omega) (by omega)
      have eb : bt m s.1 = m 82 s.1 := if_pos c2
      by_cases c3 : l ≤ m 82 s.1 - 48 ∧ m 82 s.1 - 48 ≤ 9
      · have c4 : dOkM m l s.1 = true := decide_eq_true (by rw [eb]; exact c3)
        rw [if_pos c4, eb]
        simp only [r_MRm_digit_0, r_MRm_digit_1, r_MRm_digit_4, r_MRm_digit_7, r_MRm_digit_8, r_MRm_digit_9, r_MRm_digit_10, r_MRm_digit_13, r_MRm_digit_14, r_MRm_digit_17, r_MRm_digit_20, r_MRm_digit_21, r_MRm_digit_24, r_MRm_digit_25, r_MRm_digit_28, r_MRm_digit_29, r_MRm_digit_31, r_MRm_digit_32, r_MRm_digit_35, r_MRm_digit_36, r_MRm_digit_37, r_MRm_digit_38, r_MRm_digit_39, r_MRm_digit_41, r_MRm_digit_44, r_MRm_digit_47, r_MRm_digit_48, r_MRm_digit_49, r_MRm_digit_52, r_MRm_digit_55, r_MRm_digit_56, r_MRm_digit_57, r_MRm_digit_58, r_MRm_digit_58i, r_MRm_digit_59, r_MRm_digit_62, r_MRm_digit_63, r_MRm_digit_64, r_MRm_digit_67, r_MRm_digit_68, sL_0, sL_1, sL_2, mk_i, mk_r, mk_f, mk_n, mk_u, mk_l, List.set_cons_succ, List.set_cons_zero, Nat.reduceAdd, ckS_0, ckS_1, ckS_2, ckS_3, ckS_4, Option.bind_some, Option.isSome_some, psh, if_true, if_false, i10, not_true_eq_false, not_false_eq_true, Bool.false_eq_true, and_self, and_true, true_and, eq_self, qI_81_0, qI_81_2, qI_81_3, qI_81_9, qI_81_10, qI_81_11, qI_81_12, qI_81_13, qI_81_18, qI_81_19, qI_81_20, qI_81_21, qI_81_29, qI_81_30, qI_81_31, qI_81_32, qI_81_33, qI_81_34, qI_81_35, qI_81_39, qI_81_40, qI_81_41, qI_81_42, qI_81_43, qI_81_44, qI_81_45, qI_81_46, qI_81_47, qI_81_51, qI_81_53, qR_81_1, qRd_81_1, qR_81_4, qRd_81_4, qR_81_5, qRd_81_5, qR_81_6, qRd_81_6, qR_81_7, qRd_81_7, qR_81_8, qRd_81_8, qR_81_14, qRd_81_14, qR_81_15, qRd_81_15, qR_81_16, qRd_81_16, qR_81_17, qRd_81_17, qR_81_22, qRd_81_22, qR_81_23, qRd_81_23, qR_81_24, qRd_81_24, qR_81_25, qRd_81_25, qR_81_26, qRd_81_26, qR_81_27, qRd_81_27, qR_81_28, qRd_81_28, qR_81_36, qRd_81_36, qR_81_37, qRd_81_37, qR_81_38, qRd_81_38, qR_81_48, qRd_81_48, qR_81_49, qRd_81_49, qR_81_50, qRd_81_50, qR_81_52, qRd_81_52, qR_81_54, qRd_81_54, qR_81_55, qRd_81_55, qR_81_56, qRd_81_56, qR_81_57, qRd_81_57, qR_81_58, qRd_81_58, qA_82, qAd_82, qO_81, qL_82, qLd_82, qm_19, qm_18, fl0 c1, q2, h1, ch, ih, q82, e_in, c3, nI_1, qm_in]
      · have c4 : ¬ dOkM m l s.1 = true := fun q => c3 (by have := of_decide_eq_true q; rw [eb] at this; exact this)
        rw [if_neg c4]
        simp only [r_MRm_digit_0, r_MRm_digit_1, r_MRm_digit_4, r_MRm_digit_7, r_MRm_digit_8, r_MRm_digit_9, r_MRm_digit_10, r_MRm_digit_13, r_MRm_digit_14, r_MRm_digit_17, r_MRm_digit_20, r_MRm_digit_21, r_MRm_digit_24, r_MRm_digit_25, r_MRm_digit_28, r_MRm_digit_29, r_MRm_digit_31, r_MRm_digit_32, r_MRm_digit_35, r_MRm_digit_36, r_MRm_digit_37, r_MRm_digit_38, r_MRm_digit_39, r_MRm_digit_41, r_MRm_digit_44, r_MRm_digit_47, r_MRm_digit_48, r_MRm_digit_49, r_MRm_digit_52, r_MRm_digit_55, r_MRm_digit_56, r_MRm_digit_57, r_MRm_digit_58, r_MRm_digit_58i, r_MRm_digit_59, r_MRm_digit_62, r_MRm_digit_63, r_MRm_digit_64, r_MRm_digit_67, r_MRm_digit_68, sL_0, sL_1, sL_2, mk_i, mk_r, mk_f, mk_n, mk_u, mk_l, List.set_cons_succ, List.set_cons_zero, Nat.reduceAdd, ckS_0, ckS_1, ckS_2, ckS_3, ckS_4, Option.bind_some, Option.isSome_some, psh, if_true, if_false, i10, not_true_eq_false, not_false_eq_true, Bool.false_eq_true, and_self, and_true, true_and, eq_self, qI_81_0, qI_81_2, qI_81_3, qI_81_9, qI_81_10, qI_81_11, qI_81_12, qI_81_13, qI_81_18, qI_81_19, qI_81_20, qI_81_21, qI_81_29, qI_81_30, qI_81_31, qI_81_32, qI_81_33, qI_81_34, qI_81_35, qI_81_39, qI_81_40, qI_81_41, qI_81_42, qI_81_43, qI_81_44, qI_81_45, qI_81_46, qI_81_47, qI_81_51, qI_81_53, qR_81_1, qRd_81_1, qR_81_4, qRd_81_4, qR_81_5, qRd_81_5, qR_81_6, qRd_81_6, qR_81_7, qRd_81_7, qR_81_8, qRd_81_8, qR_81_14, qRd_81_14, qR_81_15, qRd_81_15, qR_81_16, qRd_81_16, qR_81_17, qRd_81_17, qR_81_22, qRd_81_22, qR_81_23, qRd_81_23, qR_81_24, qRd_81_24, qR_81_25, qRd_81_25, qR_81_26, qRd_81_26, qR_81_27, qRd_81_27, qR_81_28, qRd_81_28, qR_81_36, qRd_81_36, qR_81_37, qRd_81_37, qR_81_38, qRd_81_38, qR_81_48, qRd_81_48, qR_81_49, qRd_81_49, qR_81_50, qRd_81_50, qR_81_52, qRd_81_52, qR_81_54, qRd_81_54, qR_81_55, qRd_81_55, qR_81_56, qRd_81_56, qR_81_57, qRd_81_57, qR_81_58, qRd_81_58, qA_82, qAd_82, qO_81, qL_82, qLd_82, qm_19, qm_18, fl0 c1, q2, h1, ch, ih, q82, e_in, c3, qm_fl c1]
    · have h1 : nI (Tt m) ≤ nI s.1 := nI_le (by omega) (by have := hb.1; omega)
      have eb : bt m s.1 = -1 := bt_hi hT c2
      have c4 : ¬ dOkM m l s.1 = true := fun q => by
        have := of_decide_eq_true q
        rw [eb] at this
        rcases hl with rfl | rfl
        · exact absurd this.1 (by decide)
        · exact absurd this.1 (by decide)
      have c3 : ¬ (l ≤ -1 ∧ (-1 : Int32) ≤ 9) := fun q => by
        rcases hl with rfl | rfl
        · exact absurd q.1 (by decide)
        · exact absurd q.1 (by decide)
      rw [if_neg c4]
      simp only [r_MRm_digit_0, r_MRm_digit_1, r_MRm_digit_4, r_MRm_digit_7, r_MRm_digit_8, r_MRm_digit_9, r_MRm_digit_10, r_MRm_digit_13, r_MRm_digit_14, r_MRm_digit_17, r_MRm_digit_20, r_MRm_digit_21, r_MRm_digit_24, r_MRm_digit_25, r_MRm_digit_28, r_MRm_digit_29, r_MRm_digit_31, r_MRm_digit_32, r_MRm_digit_35, r_MRm_digit_36, r_MRm_digit_37, r_MRm_digit_38, r_MRm_digit_39, r_MRm_digit_41, r_MRm_digit_44, r_MRm_digit_47, r_MRm_digit_48, r_MRm_digit_49, r_MRm_digit_52, r_MRm_digit_55, r_MRm_digit_56, r_MRm_digit_57, r_MRm_digit_58, r_MRm_digit_58i, r_MRm_digit_59, r_MRm_digit_62, r_MRm_digit_63, r_MRm_digit_64, r_MRm_digit_67, r_MRm_digit_68, sL_0, sL_1, sL_2, mk_i, mk_r, mk_f, mk_n, mk_u, mk_l, List.set_cons_succ, List.set_cons_zero, Nat.reduceAdd, ckS_0, ckS_1, ckS_2, ckS_3, ckS_4, Option.bind_some, Option.isSome_some, psh, if_true, if_false, i10, not_true_eq_false, not_false_eq_true, Bool.false_eq_true, and_self, and_true, true_and, eq_self, qI_81_0, qI_81_2, qI_81_3, qI_81_9, qI_81_10, qI_81_11, qI_81_12, qI_81_13, qI_81_18, qI_81_19, qI_81_20, qI_81_21, qI_81_29, qI_81_30, qI_81_31, qI_81_32, qI_81_33, qI_81_34, qI_81_35, qI_81_39, qI_81_40, qI_81_41, qI_81_42, qI_81_43, qI_81_44, qI_81_45, qI_81_46, qI_81_47, qI_81_51, qI_81_53, qR_81_1, qRd_81_1, qR_81_4, qRd_81_4, qR_81_5, qRd_81_5, qR_81_6, qRd_81_6, qR_81_7, qRd_81_7, qR_81_8, qRd_81_8, qR_81_14, qRd_81_14, qR_81_15, qRd_81_15, qR_81_16, qRd_81_16, qR_81_17, qRd_81_17, qR_81_22, qRd_81_22, qR_81_23, qRd_81_23, qR_81_24, qRd_81_24, qR_81_25, qRd_81_25, qR_81_26, qRd_81_26, qR_81_27, qRd_81_27, qR_81_28, qRd_81_28, qR_81_36, qRd_81_36, qR_81_37, qRd_81_37, qR_81_38, qRd_81_38, qR_81_48, qRd_81_48, qR_81_49, qRd_81_49, qR_81_50, qRd_81_50, qR_81_52, qRd_81_52, qR_81_54, qRd_81_54, qR_81_55, qRd_81_55, qR_81_56, qRd_81_56, qR_81_57, qRd_81_57, qR_81_58, qRd_81_58, qA_82, qAd_82, qO_81, qL_82, qLd_82, qm_19, qm_18, fl0 c1, q2, h1, e_in, c3, qm_fl c1]
  · rw [if_neg c1]
    simp only [r_MRm_digit_0, r_MRm_digit_1, r_MRm_digit_4, r_MRm_digit_7, r_MRm_digit_8, r_MRm_digit_9, r_MRm_digit_10, r_MRm_digit_13, r_MRm_digit_14, r_MRm_digit_17, r_MRm_digit_20, r_MRm_digit_21, r_MRm_digit_24, r_MRm_digit_25, r_MRm_digit_28, r_MRm_digit_29, r_MRm_digit_31, r_MRm_digit_32, r_MRm_digit_35, r_MRm_digit_36, r_MRm_digit_37, r_MRm_digit_38, r_MRm_digit_39, r_MRm_digit_41, r_MRm_digit_44, r_MRm_digit_47, r_MRm_digit_48, r_MRm_digit_49, r_MRm_digit_52, r_MRm_digit_55, r_MRm_digit_56, r_MRm_digit_57, r_MRm_digit_58, r_MRm_digit_58i, r_MRm_digit_59, r_MRm_digit_62, r_MRm_digit_63, r_MRm_digit_64, r_MRm_digit_67, r_MRm_digit_68, sL_0, sL_1, sL_2, mk_i, mk_r, mk_f, mk_n, mk_u, mk_l, List.set_cons_succ, List.set_cons_zero, Nat.reduceAdd, ckS_0, ckS_1, ckS_2, ckS_3, ckS_4, Option.bind_some, Option.isSome_some, psh, if_true, if_false, i10, not_true_eq_false, not_false_eq_true, Bool.false_eq_true, and_self, and_true, true_and, eq_self, qI_81_0, qI_81_2, qI_81_3, qI_81_9, qI_81_10, qI_81_11, qI_81_12, qI_81_13, qI_81_18, qI_81_19, qI_81_20, qI_81_21, qI_81_29, qI_81_30, qI_81_31, qI_81_32, qI_81_33, qI_81_34, qI_81_35, qI_81_39, qI_81_40, qI_81_41, qI_81_42, qI_81_43, qI_81_44, qI_81_45, qI_81_46, qI_81_47, qI_81_51, qI_81_53, qR_81_1, qRd_81_1, qR_81_4, qRd_81_4, qR_81_5, qRd_81_5, qR_81_6, qRd_81_6, qR_81_7, qRd_81_7, qR_81_8, qRd_81_8, qR_81_14, qRd_81_14, qR_81_15, qRd_81_15, qR_81_16, qRd_81_16, qR_81_17, qRd_81_17, qR_81_22, qRd_81_22, qR_81_23, qRd_81_23, qR_81_24, qRd_81_24, qR_81_25, qRd_81_25, qR_81_26, qRd_81_26, qR_81_27, qRd_81_27, qR_81_28, qRd_81_28, qR_81_36, qRd_81_36, qR_81_37, qRd_81_37, qR_81_38, qRd_81_38, qR_81_48, qRd_81_48, qR_81_49, qRd_81_49, qR_81_50, qRd_81_50, qR_81_52, qRd_81_52, qR_81_54, qRd_81_54, qR_81_55, qRd_81_55, qR_81_56, qRd_81_56, qR_81_57, qRd_81_57, qR_81_58, qRd_81_58, qA_82, qAd_82, qO_81, qL_82, qLd_82, qm_19, fl1 hb c1]
/-- a reading goes on -/
abbrev fw (mu : Mu) (s r : SS) : Prop := s.1 ≤ r.1 ∧ r.1 ≤ Tt mu ∧ ∀ k, r.2 = some k → k ≤ Tt mu
theorem hr_lt (hc : ¬ c = -1) (h : hrS m c s = true) : s.1 < Tt m := by
  unfold hrS at h
  rw [Bool.and_eq_true] at h
  exact bt_lt (by rw [of_decide_eq_true h.2]; exact hc)
theorem fw_bS {r : SS} (hT : tOK m) (h : fw m s r) : bS r := by
  have := Tt_le hT
  exact ⟨by have := h.2.1; omega, fun k hk => by have := h.2.2 k hk; omega⟩
theorem fw_r (h1 : s.1 ≤ Tt m) (h2 : ∀ k, s.2 = some k → k ≤ Tt m) : fw m s s := ⟨Nat.le_refl _, h1, h2⟩
theorem fw_fl {s r : SS} (h : fw m s r) : fw m s (flS r) := by
  by_cases c : noS r = true
  · rw [flS_n c]
    exact ⟨h.1, h.2.1, fun k hk => by cases hk; exact h.2.1⟩
  · rw [flS_f c]; exact h
theorem fwd_in {s r : SS} (h : fw m s r) (q : r.1 < Tt m) : fw m s (inS r) := ⟨by have := h.1; show s.1 ≤ r.1 + 1; omega, q, h.2.2⟩
theorem fw_tk {s r : SS} (hc : ¬ c = -1) (h : fw m s r) : fw m s (tkS m c r) := by
  unfold tkS
  split
  · rename_i q; exact fwd_in h (hr_lt hc q)
  · exact fw_fl h
theorem dOk_n (hl : l = 0 ∨ l = 1) (hd : dOkM m l h = true) : ∃ n : Nat, n ≤ 9 ∧ l.toInt ≤ n ∧ bt m h = nI (48 + n) ∧ bt m h - 48 = nI n := by
  have q := of_decide_eq_true hd
  have l0 : 0 ≤ l.toInt := by rcases hl with rfl | rfl <;> decide
  simp only [Int32.le_iff_toInt_le, show (9 : Int32).toInt = 9 from rfl] at q
  obtain ⟨n, hn⟩ : ∃ n : Nat, (bt m h - 48).toInt = n := ⟨(bt m h - 48).toInt.toNat, by omega⟩
  have e1 : bt m h - 48 = nI n := Int32.toInt_inj.mp (by rw [nI_toInt (by omega), hn])
  have e2 : bt m h = nI (48 + n) := by
    have : bt m h = bt m h - 48 + 48 := (Int32.sub_add_cancel _ _).symm
    rw [this, e1, show (48 : Int32) = nI 48 from rfl, nI_add, Nat.add_comm]
  exact ⟨n, by omega, by omega, e2, e1⟩
theorem dOk_lt (hl : l = 0 ∨ l = 1) (hd : dOkM m l h = true) : h < Tt m := by
  obtain ⟨n, h1, h2, h3, h4⟩ := dOk_n hl hd
  refine bt_lt fun q => ?_
  rw [h3] at q
  exact nI_nm (by omega) q
theorem fw_dg {s r : SS} (hl : l = 0 ∨ l = 1) (h : fw m s r) : fw m s (dgS m l r).2 := by
  unfold dgS
  split
  · split
    · rename_i q; exact fwd_in h (dOk_lt hl q)
    · exact fw_fl h
  · exact h
theorem fw_pm {s r : SS} (h : fw m s r) : fw m s (pmS m r) := by
  unfold pmS
  split
  · rename_i q; exact fwd_in h (hr_lt (by decide) q)
  · split
    · rename_i q; exact fwd_in h (hr_lt (by decide) q)
    · exact fw_fl h
theorem fw_sg {s r : SS} (h : fw m s r) : fw m s (sgS m r).2 := fw_dg (.inl rfl) (fw_pm h)
theorem fw_lp {s r : SS} (h : fw m s r) : fw m s (lpS m r).2 := fw_sg (fw_sg (fw_dg (.inr rfl) h))
theorem fw_nm {s r : SS} {most : Int32} (h : fw m s r) : fw m s (nmS m most r).2 := by
  unfold nmS
  split
  · obtain ⟨a1, a2, a3⟩ := fgL_n (mu := m) 3 r.1 0 0
    have a4 := fgL_ge (mu := m) 3 r.1 0 0
    refine ⟨?_, a2 h.2.1, fun k hk => ?_⟩
    · have := h.1
      show s.1 ≤ (fgL m 3 r.1 0 0).1
      omega
    · have hk : (if (fgL m 3 r.1 0 0).1 = r.1 ∨ ¬ (fgL m 3 r.1 0 0).2.1 ≤ most then some r.1 else none) = some k := hk
      split at hk
      · cases hk; exact h.2.1
      · cases hk
  · exact h
theorem e_signedM (hT : tOK m) (hb : fw m s s) : Rr X (d + 2) MRm_signed 0 [.ref 81, mkU] [] (Wd (qm m s) la ro et) = some (some (.int (sgS m s).1), Wd (qm m (sgS m s).2) la ro et) := by
  have e45 := e_isHere (X := X) (d := d + 1) (la := la) (ro := ro) (et := et) (c := 45) hT (fw_bS hT hb) (by decide)
  have e43 := e_isHere (X := X) (d := d + 1) (la := la) (ro := ro) (et := et) (c := 43) hT (fw_bS hT hb) (by decide)
  have ed := e_digitM (X := X) (d := d) (la := la) (ro := ro) (et := et) (s := pmS m s) (l := 0) hT (fw_bS hT (fw_pm hb)) (.inl rfl)
  unfold sgS
  have key : Rr X (d + 2) MRm_signed 0 [.ref 81, mkU] [] (Wd (qm m s) la ro et) = Rr X (d + 2) MRm_signed 61 [.ref 81, .int (if hrS m 45 s = true then -1 else 1)] [] (Wd (qm m (pmS m s)) la ro et) := by
    unfold pmS
    by_cases c5 : hrS m 45 s = true
    · rw [if_pos c5] at e45 ⊢
      by_cases c3 : hrS m 43 s = true
      · rw [if_pos c3] at e43 ⊢
        simp only [r_MRm_signed_0, r_MRm_signed_1, r_MRm_signed_3, r_MRm_signed_6, r_MRm_signed_9, r_MRm_signed_10, r_MRm_signed_13, r_MRm_signed_14, r_MRm_signed_15, r_MRm_signed_16, r_MRm_signed_18, r_MRm_signed_21, r_MRm_signed_24, r_MRm_signed_25, r_MRm_signed_27, r_MRm_signed_30, r_MRm_signed_33, r_MRm_signed_34, r_MRm_signed_34i, r_MRm_signed_35, r_MRm_signed_38, r_MRm_signed_39, r_MRm_signed_40, r_MRm_signed_43, r_MRm_signed_46, r_MRm_signed_47, r_MRm_signed_50, r_MRm_signed_53, r_MRm_signed_54, r_MRm_signed_55, r_MRm_signed_58, sL_0, sL_1, sL_2, mk_i, mk_r, mk_f, mk_n, mk_u, mk_l, List.set_cons_succ, List.set_cons_zero, Nat.reduceAdd, ckS_0, ckS_1, ckS_2, ckS_3, ckS_4, Option.bind_some, Option.isSome_some, psh, if_true, if_false, i10, not_true_eq_false, not_false_eq_true, Bool.false_eq_true, and_self, and_true, true_and, eq_self, qI_81_0, qI_81_2, qI_81_3, qI_81_9, qI_81_10, qI_81_11, qI_81_12, qI_81_13, qI_81_18, qI_81_19, qI_81_20, qI_81_21, qI_81_29, qI_81_30, qI_81_31, qI_81_32, qI_81_33, qI_81_34, qI_81_35, qI_81_39, qI_81_40, qI_81_41, qI_81_42, qI_81_43, qI_81_44, qI_81_45, qI_81_46, qI_81_47, qI_81_51, qI_81_53, qR_81_1, qRd_81_1, qR_81_4, qRd_81_4, qR_81_5, qRd_81_5, qR_81_6, qRd_81_6, qR_81_7, qRd_81_7, qR_81_8, qRd_81_8, qR_81_14, qRd_81_14, qR_81_15, qRd_81_15, qR_81_16, qRd_81_16, qR_81_17, qRd_81_17, qR_81_22, qRd_81_22, qR_81_23, qRd_81_23, qR_81_24, qRd_81_24, qR_81_25, qRd_81_25, qR_81_26, qRd_81_26, qR_81_27, qRd_81_27, qR_81_28, qRd_81_28, qR_81_36, qRd_81_36, qR_81_37, qRd_81_37, qR_81_38, qRd_81_38, qR_81_48, qRd_81_48, qR_81_49, qRd_81_49, qR_81_50, qRd_81_50, qR_81_52, qRd_81_52, qR_81_54, qRd_81_54, qR_81_55, qRd_81_55, qR_81_56, qRd_81_56, qR_81_57, qRd_81_57, qR_81_58, qRd_81_58, qO_81, e45, e43, qm_18, nI_1, qm_in]
      · rw [if_neg c3] at e43 ⊢
        rw [if_pos c5]
        simp only [r_MRm_signed_0, r_MRm_signed_1, r_MRm_signed_3, r_MRm_signed_6, r_MRm_signed_9, r_MRm_signed_10, r_MRm_signed_13, r_MRm_signed_14, r_MRm_signed_15, r_MRm_signed_16, r_MRm_signed_18, r_MRm_signed_21, r_MRm_signed_24, r_MRm_signed_25, r_MRm_signed_27, r_MRm_signed_30, r_MRm_signed_33, r_MRm_signed_34, r_MRm_signed_34i, r_MRm_signed_35, r_MRm_signed_38, r_MRm_signed_39, r_MRm_signed_40, r_MRm_signed_43, r_MRm_signed_46, r_MRm_signed_47, r_MRm_signed_50, r_MRm_signed_53, r_MRm_signed_54, r_MRm_signed_55, r_MRm_signed_58, sL_0, sL_1, sL_2, mk_i, mk_r, mk_f, mk_n, mk_u, mk_l, List.set_cons_succ, List.set_cons_zero, Nat.reduceAdd, ckS_0, ckS_1, ckS_2, ckS_3, ckS_4, Option.bind_some, Option.isSome_some, psh, if_true, if_false, i10, not_true_eq_false, not_false_eq_true, Bool.false_eq_true, and_self, and_true, true_and, eq_self, qI_81_0, qI_81_2, qI_81_3, qI_81_9, qI_81_10, qI_81_11, qI_81_12, qI_81_13, qI_81_18, qI_81_19, qI_81_20, qI_81_21, qI_81_29, qI_81_30, qI_81_31, qI_81_32, qI_81_33, qI_81_34, qI_81_35, qI_81_39, qI_81_40, qI_81_41, qI_81_42, qI_81_43, qI_81_44, qI_81_45, qI_81_46, qI_81_47, qI_81_51, qI_81_53, qR_81_1, qRd_81_1, qR_81_4, qRd_81_4, qR_81_5, qRd_81_5, qR_81_6, qRd_81_6, qR_81_7, qRd_81_7, qR_81_8, qRd_81_8, qR_81_14, qRd_81_14, qR_81_15, qRd_81_15, qR_81_16, qRd_81_16, qR_81_17, qRd_81_17, qR_81_22, qRd_81_22, qR_81_23, qRd_81_23, qR_81_24, qRd_81_24, qR_81_25, qRd_81_25, qR_81_26, qRd_81_26, qR_81_27, qRd_81_27, qR_81_28, qRd_81_28, qR_81_36, qRd_81_36, qR_81_37, qRd_81_37, qR_81_38, qRd_81_38, qR_81_48, qRd_81_48, qR_81_49, qRd_81_49, qR_81_50, qRd_81_50, qR_81_52, qRd_81_52, qR_81_54, qRd_81_54, qR_81_55, qRd_81_55, qR_81_56, qRd_81_56, qR_81_57, qRd_81_57, qR_81_58, qRd_81_58, qO_81, e45, e43, qm_18, nI_1, qm_in]
    · rw [if_neg c5] at e45 ⊢
      by_cases c3 : hrS m 43 s = true
      · rw [if_pos c3] at e43 ⊢
        simp only [r_MRm_signed_0, r_MRm_signed_1, r_MRm_signed_3, r_MRm_signed_6, r_MRm_signed_9, r_MRm_signed_10, r_MRm_signed_13, r_MRm_signed_14, r_MRm_signed_15, r_MRm_signed_16, r_MRm_signed_18, r_MRm_signed_21, r_MRm_signed_24, r_MRm_signed_25, r_MRm_signed_27, r_MRm_signed_30, r_MRm_signed_33, r_MRm_signed_34, r_MRm_signed_34i, r_MRm_signed_35, r_MRm_signed_38, r_MRm_signed_39, r_MRm_signed_40, r_MRm_signed_43, r_MRm_signed_46, r_MRm_signed_47, r_MRm_signed_50, r_MRm_signed_53, r_MRm_signed_54, r_MRm_signed_55, r_MRm_signed_58, sL_0, sL_1, sL_2, mk_i, mk_r, mk_f, mk_n, mk_u, mk_l, List.set_cons_succ, List.set_cons_zero, Nat.reduceAdd, ckS_0, ckS_1, ckS_2, ckS_3, ckS_4, Option.bind_some, Option.isSome_some, psh, if_true, if_false, i10, not_true_eq_false, not_false_eq_true, Bool.false_eq_true, and_self, and_true, true_and, eq_self, qI_81_0, qI_81_2, qI_81_3, qI_81_9, qI_81_10, qI_81_11, qI_81_12, qI_81_13, qI_81_18, qI_81_19, qI_81_20, qI_81_21, qI_81_29, qI_81_30, qI_81_31, qI_81_32, qI_81_33, qI_81_34, qI_81_35, qI_81_39, qI_81_40, qI_81_41, qI_81_42, qI_81_43, qI_81_44, qI_81_45, qI_81_46, qI_81_47, qI_81_51, qI_81_53, qR_81_1, qRd_81_1, qR_81_4, qRd_81_4, qR_81_5, qRd_81_5, qR_81_6, qRd_81_6, qR_81_7, qRd_81_7, qR_81_8, qRd_81_8, qR_81_14, qRd_81_14, qR_81_15, qRd_81_15, qR_81_16, qRd_81_16, qR_81_17, qRd_81_17, qR_81_22, qRd_81_22, qR_81_23, qRd_81_23, qR_81_24, qRd_81_24, qR_81_25, qRd_81_25, qR_81_26, qRd_81_26, qR_81_27, qRd_81_27, qR_81_28, qRd_81_28, qR_81_36, qRd_81_36, qR_81_37, qRd_81_37, qR_81_38, qRd_81_38, qR_81_48, qRd_81_48, qR_81_49, qRd_81_49, qR_81_50, qRd_81_50, qR_81_52, qRd_81_52, qR_81_54, qRd_81_54, qR_81_55, qRd_81_55, qR_81_56, qRd_81_56, qR_81_57, qRd_81_57, qR_81_58, qRd_81_58, qO_81, e45, e43, qm_18, nI_1, qm_in]
      · rw [if_neg c3] at e43 ⊢
        rw [if_neg c5]
        by_cases c2 : noS s = true
        · simp only [r_MRm_signed_0, r_MRm_signed_1, r_MRm_signed_3, r_MRm_signed_6, r_MRm_signed_9, r_MRm_signed_10, r_MRm_signed_13, r_MRm_signed_14, r_MRm_signed_15, r_MRm_signed_16, r_MRm_signed_18, r_MRm_signed_21, r_MRm_signed_24, r_MRm_signed_25, r_MRm_signed_27, r_MRm_signed_30, r_MRm_signed_33, r_MRm_signed_34, r_MRm_signed_34i, r_MRm_signed_35, r_MRm_signed_38, r_MRm_signed_39, r_MRm_signed_40, r_MRm_signed_43, r_MRm_signed_46, r_MRm_signed_47, r_MRm_signed_50, r_MRm_signed_53, r_MRm_signed_54, r_MRm_signed_55, r_MRm_signed_58, sL_0, sL_1, sL_2, mk_i, mk_r, mk_f, mk_n, mk_u, mk_l, List.set_cons_succ, List.set_cons_zero, Nat.reduceAdd, ckS_0, ckS_1, ckS_2, ckS_3, ckS_4, Option.bind_some, Option.isSome_some, psh, if_true, if_false, i10, not_true_eq_false, not_false_eq_true, Bool.false_eq_true, and_self, and_true, true_and, eq_self, qI_81_0, qI_81_2, qI_81_3, qI_81_9, qI_81_10, qI_81_11, qI_81_12, qI_81_13, qI_81_18, qI_81_19, qI_81_20, qI_81_21, qI_81_29, qI_81_30, qI_81_31, qI_81_32, qI_81_33, qI_81_34, qI_81_35, qI_81_39, qI_81_40, qI_81_41, qI_81_42, qI_81_43, qI_81_44, qI_81_45, qI_81_46, qI_81_47, qI_81_51, qI_81_53, qR_81_1, qRd_81_1, qR_81_4, qRd_81_4, qR_81_5, qRd_81_5, qR_81_6, qRd_81_6, qR_81_7, qRd_81_7, qR_81_8, qRd_81_8, qR_81_14, qRd_81_14, qR_81_15, qRd_81_15, qR_81_16, qRd_81_16, qR_81_17, qRd_81_17, qR_81_22, qRd_81_22, qR_81_23, qRd_81_23, qR_81_24, qRd_81_24, qR_81_25, qRd_81_25, qR_81_26, qRd_81_26, qR_81_27, qRd_81_27, qR_81_28, qRd_81_28, qR_81_36, qRd_81_36, qR_81_37, qRd_81_37, qR_81_38, qRd_81_38, qR_81_48, qRd_81_48, qR_81_49, qRd_81_49, qR_81_50, qRd_81_50, qR_81_52, qRd_81_52, qR_81_54, qRd_81_54, qR_81_55, qRd_81_55, qR_81_56, qRd_81_56, qR_81_57, qRd_81_57, qR_81_58, qRd_81_58, qO_81, e45, e43, qm_19, fi0 c2, qm_18, qm_fl c2]
        · rw [flS_f c2]
          simp only [r_MRm_signed_0, r_MRm_signed_1, r_MRm_signed_3, r_MRm_signed_6, r_MRm_signed_9, r_MRm_signed_10, r_MRm_signed_13, r_MRm_signed_14, r_MRm_signed_15, r_MRm_signed_16, r_MRm_signed_18, r_MRm_signed_21, r_MRm_signed_24, r_MRm_signed_25, r_MRm_signed_27, r_MRm_signed_30, r_MRm_signed_33, r_MRm_signed_34, r_MRm_signed_34i, r_MRm_signed_35, r_MRm_signed_38, r_MRm_signed_39, r_MRm_signed_40, r_MRm_signed_43, r_MRm_signed_46, r_MRm_signed_47, r_MRm_signed_50, r_MRm_signed_53, r_MRm_signed_54, r_MRm_signed_55, r_MRm_signed_58, sL_0, sL_1, sL_2, mk_i, mk_r, mk_f, mk_n, mk_u, mk_l, List.set_cons_succ, List.set_cons_zero, Nat.reduceAdd, ckS_0, ckS_1, ckS_2, ckS_3, ckS_4, Option.bind_some, Option.isSome_some, psh, if_true, if_false, i10, not_true_eq_false, not_false_eq_true, Bool.false_eq_true, and_self, and_true, true_and, eq_self, qI_81_0, qI_81_2, qI_81_3, qI_81_9, qI_81_10, qI_81_11, qI_81_12, qI_81_13, qI_81_18, qI_81_19, qI_81_20, qI_81_21, qI_81_29, qI_81_30, qI_81_31, qI_81_32, qI_81_33, qI_81_34, qI_81_35, qI_81_39, qI_81_40, qI_81_41, qI_81_42, qI_81_43, qI_81_44, qI_81_45, qI_81_46, qI_81_47, qI_81_51, qI_81_53, qR_81_1, qRd_81_1, qR_81_4, qRd_81_4, qR_81_5, qRd_81_5, qR_81_6, qRd_81_6, qR_81_7, qRd_81_7, qR_81_8, qRd_81_8, qR_81_14, qRd_81_14, qR_81_15, qRd_81_15, qR_81_16, qRd_81_16, qR_81_17, qRd_81_17, qR_81_22, qRd_81_22, qR_81_23, qRd_81_23, qR_81_24, qRd_81_24, qR_81_25, qRd_81_25, qR_81_26, qRd_81_26, qR_81_27, qRd_81_27, qR_81_28, qRd_81_28, qR_81_36, qRd_81_36, qR_81_37, qRd_81_37, qR_81_38, qRd_81_38, qR_81_48, qRd_81_48, qR_81_49, qRd_81_49, qR_81_50, qRd_81_50, qR_81_52, qRd_81_52, qR_81_54, qRd_81_54, qR_81_55, qRd_81_55, qR_81_56, qRd_81_56, qR_81_57, qRd_81_57, qR_81_58, qRd_81_58, qO_81, e45, e43, qm_19, fi1 (fw_bS hT hb) c2]
  rw [key]
  simp only [r_MRm_signed_61, r_MRm_signed_62, r_MRm_signed_63, r_MRm_signed_64, r_MRm_signed_67, r_MRm_signed_68, sL_0, sL_1, sL_2, mk_i, mk_r, mk_f, mk_n, mk_u, mk_l, List.set_cons_succ, List.set_cons_zero, Nat.reduceAdd, ckS_0, ckS_1, ckS_2, ckS_3, ckS_4, Option.bind_some, Option.isSome_some, psh, if_true, if_false, i10, not_true_eq_false, not_false_eq_true, Bool.false_eq_true, and_self, and_true, true_and, eq_self, qI_81_0, qI_81_2, qI_81_3, qI_81_9, qI_81_10, qI_81_11, qI_81_12, qI_81_13, qI_81_18, qI_81_19, qI_81_20, qI_81_21, qI_81_29, qI_81_30, qI_81_31, qI_81_32, qI_81_33, qI_81_34, qI_81_35, qI_81_39, qI_81_40, qI_81_41, qI_81_42, qI_81_43, qI_81_44, qI_81_45, qI_81_46, qI_81_47, qI_81_51, qI_81_53, qR_81_1, qRd_81_1, qR_81_4, qRd_81_4, qR_81_5, qRd_81_5, qR_81_6, qRd_81_6, qR_81_7, qRd_81_7, qR_81_8, qRd_81_8, qR_81_14, qRd_81_14, qR_81_15, qRd_81_15, qR_81_16, qRd_81_16, qR_81_17, qRd_81_17, qR_81_22, qRd_81_22, qR_81_23, qRd_81_23, qR_81_24, qRd_81_24, qR_81_25, qRd_81_25, qR_81_26, qRd_81_26, qR_81_27, qRd_81_27, qR_81_28, qRd_81_28, qR_81_36, qRd_81_36, qR_81_37, qRd_81_37, qR_81_38, qRd_81_38, qR_81_48, qRd_81_48, qR_81_49, qRd_81_49, qR_81_50, qRd_81_50, qR_81_52, qRd_81_52, qR_81_54, qRd_81_54, qR_81_55, qRd_81_55, qR_81_56, qRd_81_56, qR_81_57, qRd_81_57, qR_81_58, qRd_81_58, qO_81, ed]
end
