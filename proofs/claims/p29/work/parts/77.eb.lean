-- ===== the tape of the class, against the tape of the model
noncomputable def tp (mu : Mu) (h : Nat) : Mu := up2 mu 1 2 (nI h)
noncomputable def cb (mu : Mu) (h : Nat) : Int32 := if h < (mu 1 1).toNatClampNeg then mu 2 h &&& 255 else -1
abbrev tC (mu : Mu) : Prop := ∃ T, T ≤ 120 ∧ mu 1 1 = nI T
noncomputable def Tcl (mu : Mu) : Nat := (mu 1 1).toNatClampNeg
noncomputable def dgC (mu : Mu) (l : Int32) (h : Nat) : Bool := decide (¬ cb mu h < 48 + l ∧ cb mu h ≤ 57)
noncomputable def nbL (mu : Mu) : Nat → Nat → Int32 → Nat × Int32
  | 0, h, v => (h, v)
  | r + 1, h, v => if dgC mu 0 h = true then nbL mu r (h + 1) (10 * v + (cb mu h - 48)) else (h, v)
noncomputable def nbC (mu : Mu) (M h : Nat) : Nat × Int32 := if dgC mu 0 h = true then nbL mu (M - 1) (h + 1) (cb mu h - 48) else (h, -1)
/-- both tapes hold the same bytes -/
abbrev RT (mu : Mu) : Prop := ∃ T, T ≤ 120 ∧ mu 1 1 = nI T ∧ mu 81 2 = nI T ∧ ∀ i, i < T → mu 2 i = mu 82 i ∧ (mu 82 i).toInt8.toInt32 = mu 82 i
section
variable {X : Tok} {d : Nat} {mu mu' : Mu} {la la' : La} {ro ro' : Ro} {et : Nat → Option va_E} {h : Nat} {x l : Int32}
theorem tp_12 : tp mu h 1 2 = nI h := up2_s _ _ _ _
theorem tp_11 : tp mu h 1 1 = mu 1 1 := rfl
theorem tp_2 {k : Nat} : tp mu h 2 k = mu 2 k := rfl
theorem tp_s {k : Nat} : up2 (tp mu h) 1 2 (nI k) = tp mu k := by
  refine funext fun c => funext fun j => ?_
  unfold tp
  simp only [up2_e]
  split <;> rfl
theorem tC_le (hT : tC mu) : Tcl mu ≤ 120 := by
  obtain ⟨T, t1, t2⟩ := hT
  unfold Tcl
  rw [t2, nI_clamp (by omega)]
  exact t1
theorem cb_lt (h1 : ¬ cb mu h = -1) : h < Tcl mu := by
  unfold cb at h1
  split at h1
  · rename_i q; exact q
  · exact absurd rfl h1
theorem dg_n (hl : 0 ≤ l.toInt ∧ l.toInt ≤ 9) (hd : dgC mu l h = true) : ∃ n : Nat, n ≤ 9 ∧ l.toInt ≤ n ∧ cb mu h = nI (48 + n) ∧ cb mu h - 48 = nI n := by
  have q := of_decide_eq_true hd
  have e1 : ((48 : Int32) + l).toInt = 48 + l.toInt := by
    rw [Int32.toInt_add, show (48 : Int32).toInt = 48 from rfl]
    exact Int.bmod_eq_of_le (by omega) (by omega)
  simp only [Int32.lt_iff_toInt_lt, Int32.le_iff_toInt_le, e1, show (57 : Int32).toInt = 57 from rfl] at q
  obtain ⟨n, hn⟩ : ∃ n : Nat, (cb mu h).toInt = 48 + n := ⟨((cb mu h).toInt - 48).toNat, by omega⟩
  have e2 : cb mu h = nI (48 + n) := Int32.toInt_inj.mp (by rw [nI_toInt (by omega), hn]; omega)
  refine ⟨n, by omega, by omega, e2, ?_⟩
  rw [e2]
  have e3 := pk_sub (a := 48 + n) (b := 48) (by omega)
  rw [Nat.add_sub_cancel_left] at e3
  exact e3
theorem dg_lt (hl : 0 ≤ l.toInt ∧ l.toInt ≤ 9) (hd : dgC mu l h = true) : h < Tcl mu := by
  obtain ⟨n, h1, h2, h3, h4⟩ := dg_n hl hd
  refine cb_lt fun q => ?_
  rw [h3] at q
  have e := congrArg Int32.toInt q
  rw [nI_toInt (by omega), show (-1 : Int32).toInt = -1 from rfl] at e
  omega
theorem l00 : (0 : Int) ≤ (0 : Int32).toInt ∧ (0 : Int32).toInt ≤ 9 := by decide
theorem e_here (hT : tC mu) (hh : h ≤ 120) : Rr X d MTa_here 0 [.ref 1] [] (Wd (tp mu h) la ro et) = some (some (.int (cb mu h)), Wd (tp mu h) la ro et) := by
  obtain ⟨T, t1, t2⟩ := hT
  unfold cb
  rw [t2, nI_clamp (by omega)]
  have n0 : ¬ nI h < 0 := nI_pos (by omega)
  have ch : (nI h).toNatClampNeg = h := nI_clamp (by omega)
  by_cases c : h < T
  · have h1 : ¬ nI T ≤ nI h := nI_ge c (by omega)
    have h2 : ¬ Int32.ofNat 120 ≤ nI h := nI_ge (a := h) (b := 120) (by omega) (by omega)
    have ih : ¬ 120 ≤ h := by omega
    rw [if_pos c]
    simp only [r_MTa_here_0, r_MTa_here_1, r_MTa_here_4, r_MTa_here_7, r_MTa_here_8, r_MTa_here_11, r_MTa_here_12, r_MTa_here_15, r_MTa_here_18, r_MTa_here_19, r_MTa_here_22, r_MTa_here_23, r_MTa_here_26, r_MTa_here_27, r_MTa_here_30, r_MTa_here_31, r_MTa_here_34, r_MTa_here_35, r_MTa_here_38, r_MTa_here_39, r_MTa_here_42, r_MTa_here_43, r_MTa_here_46, r_MTa_here_47, sL_0, sL_1, sL_2, mk_i, mk_r, mk_f, mk_n, mk_u, mk_l, List.set_cons_succ, List.set_cons_zero, Nat.reduceAdd, ckS_0, ckS_1, ckS_2, ckS_3, ckS_4, Option.bind_some, Option.isSome_some, psh, if_true, if_false, i10, not_true_eq_false, not_false_eq_true, Bool.false_eq_true, and_self, and_true, true_and, eq_self, qI_1_1, qI_1_2, qR_1_0, qRd_1_0, qA_2, qAd_2, qO_1, qL_2, qLd_2, tp_12, tp_11, t2, n0, h1, h2, ch, ih, tp_2, or_self]
  · have h1 : nI T ≤ nI h := nI_le (by omega) (by omega)
    rw [if_neg c]
    simp only [r_MTa_here_0, r_MTa_here_1, r_MTa_here_4, r_MTa_here_7, r_MTa_here_8, r_MTa_here_11, r_MTa_here_12, r_MTa_here_15, r_MTa_here_18, r_MTa_here_19, r_MTa_here_22, r_MTa_here_23, r_MTa_here_26, r_MTa_here_27, r_MTa_here_30, r_MTa_here_31, r_MTa_here_34, r_MTa_here_35, r_MTa_here_38, r_MTa_here_39, r_MTa_here_42, r_MTa_here_43, r_MTa_here_46, r_MTa_here_47, sL_0, sL_1, sL_2, mk_i, mk_r, mk_f, mk_n, mk_u, mk_l, List.set_cons_succ, List.set_cons_zero, Nat.reduceAdd, ckS_0, ckS_1, ckS_2, ckS_3, ckS_4, Option.bind_some, Option.isSome_some, psh, if_true, if_false, i10, not_true_eq_false, not_false_eq_true, Bool.false_eq_true, and_self, and_true, true_and, eq_self, qI_1_1, qI_1_2, qR_1_0, qRd_1_0, qA_2, qAd_2, qO_1, qL_2, qLd_2, tp_12, tp_11, t2, n0, h1]
theorem e_skip (hT : tC mu) (hh : h ≤ 120) : Rr X (d + 1) MTa_skip 0 [.ref 1, .int x] [] (Wd (tp mu h) la ro et) = some (some (.int (if cb mu h = x then 1 else 0)), Wd (tp mu (if cb mu h = x then h + 1 else h)) la ro et) := by
  have eh := e_here (X := X) (d := d) (la := la) (ro := ro) (et := et) hT hh
  by_cases c : cb mu h = x
  · simp only [r_MTa_skip_0, r_MTa_skip_1, r_MTa_skip_4, r_MTa_skip_5, r_MTa_skip_8, r_MTa_skip_9, r_MTa_skip_10, r_MTa_skip_11, r_MTa_skip_11i, r_MTa_skip_12, r_MTa_skip_15, r_MTa_skip_16, r_MTa_skip_17, r_MTa_skip_20, r_MTa_skip_21, sL_0, sL_1, sL_2, mk_i, mk_r, mk_f, mk_n, mk_u, mk_l, List.set_cons_succ, List.set_cons_zero, Nat.reduceAdd, ckS_0, ckS_1, ckS_2, ckS_3, ckS_4, Option.bind_some, Option.isSome_some, psh, if_true, if_false, i10, not_true_eq_false, not_false_eq_true, Bool.false_eq_true, and_self, and_true, true_and, eq_self, qI_1_1, qI_1_2, qR_1_0, qRd_1_0, qO_1, eh, c, tp_12, nI_1, tp_s, or_true]
  · simp only [r_MTa_skip_0, r_MTa_skip_1, r_MTa_skip_4, r_MTa_skip_5, r_MTa_skip_8, r_MTa_skip_9, r_MTa_skip_10, r_MTa_skip_11, r_MTa_skip_11i, r_MTa_skip_12, r_MTa_skip_15, r_MTa_skip_16, r_MTa_skip_17, r_MTa_skip_20, r_MTa_skip_21, sL_0, sL_1, sL_2, mk_i, mk_r, mk_f, mk_n, mk_u, mk_l, List.set_cons_succ, List.set_cons_zero, Nat.reduceAdd, ckS_0, ckS_1, ckS_2, ckS_3, ckS_4, Option.bind_some, Option.isSome_some, psh, if_true, if_false, i10, not_true_eq_false, not_false_eq_true, Bool.false_eq_true, and_self, and_true, true_and, eq_self, qI_1_1, qI_1_2, qR_1_0, qRd_1_0, qO_1, eh, c, true_or]
theorem e_digit (hT : tC mu) (hh : h ≤ 120) : Rr X (d + 1) MTa_digit 0 [.ref 1, .int l, mkU] [] (Wd (tp mu h) la ro et) = some (some (.int (if dgC mu l h = true then cb mu h - 48 else -1)), Wd (tp mu (if dgC mu l h = true then h + 1 else h)) la ro et) := by
  have eh := e_here (X := X) (d := d) (la := la) (ro := ro) (et := et) hT hh
  by_cases c : dgC mu l h = true
  · obtain ⟨q1, q2⟩ := of_decide_eq_true c
    simp only [r_MTa_digit_0, r_MTa_digit_1, r_MTa_digit_4, r_MTa_digit_5, r_MTa_digit_6, r_MTa_digit_8, r_MTa_digit_9, r_MTa_digit_10, r_MTa_digit_13, r_MTa_digit_14, r_MTa_digit_16, r_MTa_digit_19, r_MTa_digit_20, r_MTa_digit_21, r_MTa_digit_22, r_MTa_digit_22i, r_MTa_digit_23, r_MTa_digit_26, r_MTa_digit_27, r_MTa_digit_28, r_MTa_digit_31, r_MTa_digit_32, r_MTa_digit_34, r_MTa_digit_35, sL_0, sL_1, sL_2, mk_i, mk_r, mk_f, mk_n, mk_u, mk_l, List.set_cons_succ, List.set_cons_zero, Nat.reduceAdd, ckS_0, ckS_1, ckS_2, ckS_3, ckS_4, Option.bind_some, Option.isSome_some, psh, if_true, if_false, i10, not_true_eq_false, not_false_eq_true, Bool.false_eq_true, and_self, and_true, true_and, eq_self, qI_1_1, qI_1_2, qR_1_0, qRd_1_0, qO_1, eh, c, q1, q2, tp_12, nI_1, tp_s]
  · by_cases q1 : cb mu h < 48 + l
    · simp only [r_MTa_digit_0, r_MTa_digit_1, r_MTa_digit_4, r_MTa_digit_5, r_MTa_digit_6, r_MTa_digit_8, r_MTa_digit_9, r_MTa_digit_10, r_MTa_digit_13, r_MTa_digit_14, r_MTa_digit_16, r_MTa_digit_19, r_MTa_digit_20, r_MTa_digit_21, r_MTa_digit_22, r_MTa_digit_22i, r_MTa_digit_23, r_MTa_digit_26, r_MTa_digit_27, r_MTa_digit_28, r_MTa_digit_31, r_MTa_digit_32, r_MTa_digit_34, r_MTa_digit_35, sL_0, sL_1, sL_2, mk_i, mk_r, mk_f, mk_n, mk_u, mk_l, List.set_cons_succ, List.set_cons_zero, Nat.reduceAdd, ckS_0, ckS_1, ckS_2, ckS_3, ckS_4, Option.bind_some, Option.isSome_some, psh, if_true, if_false, i10, not_true_eq_false, not_false_eq_true, Bool.false_eq_true, and_self, and_true, true_and, eq_self, qI_1_1, qI_1_2, qR_1_0, qRd_1_0, qO_1, eh, c, q1]
    · have q2 : ¬ cb mu h ≤ 57 := fun q2 => c (decide_eq_true ⟨q1, q2⟩)
      simp only [r_MTa_digit_0, r_MTa_digit_1, r_MTa_digit_4, r_MTa_digit_5, r_MTa_digit_6, r_MTa_digit_8, r_MTa_digit_9, r_MTa_digit_10, r_MTa_digit_13, r_MTa_digit_14, r_MTa_digit_16, r_MTa_digit_19, r_MTa_digit_20, r_MTa_digit_21, r_MTa_digit_22, r_MTa_digit_22i, r_MTa_digit_23, r_MTa_digit_26, r_MTa_digit_27, r_MTa_digit_28, r_MTa_digit_31, r_MTa_digit_32, r_MTa_digit_34, r_MTa_digit_35, sL_0, sL_1, sL_2, mk_i, mk_r, mk_f, mk_n, mk_u, mk_l, List.set_cons_succ, List.set_cons_zero, Nat.reduceAdd, ckS_0, ckS_1, ckS_2, ckS_3, ckS_4, Option.bind_some, Option.isSome_some, psh, if_true, if_false, i10, not_true_eq_false, not_false_eq_true, Bool.false_eq_true, and_self, and_true, true_and, eq_self, qI_1_1, qI_1_2, qR_1_0, qRd_1_0, qO_1, eh, c, q1, q2]
theorem nb_stop {M v i : Int32} {l5 : Value} {w : Hp} : Rr X d MTa_number 19 [.ref 1, .int M, .int v, .int 0, .int i, l5] [] w = some (some (.int v), w) := by
  rw [r_MTa_number_19]
  simp only [r_MTa_number_21, r_MTa_number_22, r_MTa_number_25, r_MTa_number_26, r_MTa_number_65, r_MTa_number_66, sL_0, sL_1, sL_2, mk_i, mk_r, mk_f, mk_n, mk_u, mk_l, List.set_cons_succ, List.set_cons_zero, Nat.reduceAdd, ckS_0, ckS_1, ckS_2, ckS_3, ckS_4, Option.bind_some, Option.isSome_some, psh, if_true, if_false, i10, not_true_eq_false, not_false_eq_true, Bool.false_eq_true, and_self, and_true, true_and, eq_self, ite_self]
theorem nb_loop {M : Nat} (hT : tC mu) (hM : M < 100) : ∀ (r i h : Nat) (v : Int32) (l5 : Value), i + r = M → h ≤ Tcl mu → Rr X (d + 2) MTa_number 19 [.ref 1, .int (nI M), .int v, .int 1, .int (nI i), l5] [] (Wd (tp mu h) la ro et) = some (some (.int (nbL mu r h v).2), Wd (tp mu (nbL mu r h v).1) la ro et) := by
  have hT2 := tC_le hT
  intro r
  induction r with
  | zero =>
    intro i h v l5 hi hh
    have : i = M := by omega
    subst this
    have h1 : nI i ≤ nI i := nI_le (Nat.le_refl _) (by omega)
    simp only [r_MTa_number_19, r_MTa_number_21, r_MTa_number_22, r_MTa_number_65, r_MTa_number_66, sL_0, sL_1, sL_2, mk_i, mk_r, mk_f, mk_n, mk_u, mk_l, List.set_cons_succ, List.set_cons_zero, Nat.reduceAdd, ckS_0, ckS_1, ckS_2, ckS_3, ckS_4, Option.bind_some, Option.isSome_some, psh, if_true, if_false, h1, nbL]
  | succ r ih =>
    intro i h v l5 hi hh
    have h1 : ¬ nI M ≤ nI i := nI_ge (by omega) (by omega)
    have ed := e_digit (X := X) (d := d) (la := la) (ro := ro) (et := et) (l := 0) hT (show h ≤ 120 by omega)
    rw [nbL]
    by_cases c : dgC mu 0 h = true
    · obtain ⟨n, n1, n2, n3, n4⟩ := dg_n l00 c
      have n5 : ¬ cb mu h - 48 < 0 := by rw [n4]; exact nI_pos (by omega)
      have nx := ih (i + 1) (h + 1) (10 * v + (cb mu h - 48)) (.int (cb mu h - 48)) (by omega) (dg_lt l00 c)
      rw [if_pos c]
      rw [if_pos c, if_pos c] at ed
      rw [r_MTa_number_19]
      simp only [r_MTa_number_21, r_MTa_number_22, r_MTa_number_25, r_MTa_number_26, r_MTa_number_29, r_MTa_number_30, r_MTa_number_31, r_MTa_number_34, r_MTa_number_36, r_MTa_number_38, r_MTa_number_41, r_MTa_number_42, r_MTa_number_45, r_MTa_number_46, r_MTa_number_47, r_MTa_number_48, r_MTa_number_51, r_MTa_number_53, r_MTa_number_54, r_MTa_number_55, r_MTa_number_57, r_MTa_number_58, r_MTa_number_59, r_MTa_number_62, sL_0, sL_1, sL_2, mk_i, mk_r, mk_f, mk_n, mk_u, mk_l, List.set_cons_succ, List.set_cons_zero, Nat.reduceAdd, ckS_0, ckS_1, ckS_2, ckS_3, ckS_4, Option.bind_some, Option.isSome_some, psh, if_true, if_false, i10, not_true_eq_false, not_false_eq_true, Bool.false_eq_true, and_self, and_true, true_and, eq_self, qI_1_1, qI_1_2, qR_1_0, qRd_1_0, qO_1, h1, ed, n5, nI_1]
      exact nx
    · rw [if_neg c]
      rw [if_neg c, if_neg c] at ed
      have z : (-1 : Int32) < 0 := by decide
      rw [r_MTa_number_19]
      simp only [r_MTa_number_21, r_MTa_number_22, r_MTa_number_25, r_MTa_number_26, r_MTa_number_29, r_MTa_number_30, r_MTa_number_31, r_MTa_number_34, r_MTa_number_36, r_MTa_number_38, r_MTa_number_41, r_MTa_number_42, r_MTa_number_45, r_MTa_number_46, r_MTa_number_47, r_MTa_number_48, r_MTa_number_51, r_MTa_number_53, r_MTa_number_54, r_MTa_number_55, r_MTa_number_57, r_MTa_number_58, r_MTa_number_59, r_MTa_number_62, nb_stop, sL_0, sL_1, sL_2, mk_i, mk_r, mk_f, mk_n, mk_u, mk_l, List.set_cons_succ, List.set_cons_zero, Nat.reduceAdd, ckS_0, ckS_1, ckS_2, ckS_3, ckS_4, Option.bind_some, Option.isSome_some, psh, if_true, if_false, i10, not_true_eq_false, not_false_eq_true, Bool.false_eq_true, and_self, and_true, true_and, eq_self, qI_1_1, qI_1_2, qR_1_0, qRd_1_0, qO_1, h1, ed, z, nI_1]
theorem e_number {M : Nat} (hT : tC mu) (hM : M < 100) (hM1 : 1 ≤ M) (hh : h ≤ Tcl mu) : Rr X (d + 2) MTa_number 0 [.ref 1, .int (nI M), mkU, mkU, mkU, mkU] [] (Wd (tp mu h) la ro et) = some (some (.int (nbC mu M h).2), Wd (tp mu (nbC mu M h).1) la ro et) := by
  have hT2 := tC_le hT
  have ed := e_digit (X := X) (d := d) (la := la) (ro := ro) (et := et) (l := 0) hT (show h ≤ 120 by omega)
  unfold nbC
  by_cases c : dgC mu 0 h = true
  · obtain ⟨n, n1, n2, n3, n4⟩ := dg_n l00 c
    have n5 : ¬ cb mu h - 48 < 0 := by rw [n4]; exact nI_pos (by omega)
    have nx : Rr X (d + 2) MTa_number 19 [.ref 1, .int (nI M), .int (cb mu h - 48), .int 1, .int 1, mkU] [] (Wd (tp mu (h + 1)) la ro et) = _ := nb_loop (la := la) (ro := ro) (et := et) (X := X) (d := d) hT hM (M - 1) 1 (h + 1) (cb mu h - 48) mkU (by omega) (dg_lt l00 c)
    rw [if_pos c]
    rw [if_pos c, if_pos c] at ed
    simp only [r_MTa_number_0, r_MTa_number_1, r_MTa_number_2, r_MTa_number_5, r_MTa_number_6, r_MTa_number_7, r_MTa_number_10, r_MTa_number_11, r_MTa_number_14, r_MTa_number_15, r_MTa_number_16, r_MTa_number_17, sL_0, sL_1, sL_2, mk_i, mk_r, mk_f, mk_n, mk_u, mk_l, List.set_cons_succ, List.set_cons_zero, Nat.reduceAdd, ckS_0, ckS_1, ckS_2, ckS_3, ckS_4, Option.bind_some, Option.isSome_some, psh, if_true, if_false, i10, not_true_eq_false, not_false_eq_true, Bool.false_eq_true, and_self, and_true, true_and, eq_self, qI_1_1, qI_1_2, qR_1_0, qRd_1_0, qO_1, ed, n5]
    exact nx
  · rw [if_neg c]
    rw [if_neg c, if_neg c] at ed
    have z : (-1 : Int32) < 0 := by decide
    simp only [r_MTa_number_0, r_MTa_number_1, r_MTa_number_2, r_MTa_number_5, r_MTa_number_6, r_MTa_number_7, r_MTa_number_10, r_MTa_number_11, r_MTa_number_14, r_MTa_number_15, r_MTa_number_16, r_MTa_number_17, nb_stop, sL_0, sL_1, sL_2, mk_i, mk_r, mk_f, mk_n, mk_u, mk_l, List.set_cons_succ, List.set_cons_zero, Nat.reduceAdd, ckS_0, ckS_1, ckS_2, ckS_3, ckS_4, Option.bind_some, Option.isSome_some, psh, if_true, if_false, i10, not_true_eq_false, not_false_eq_true, Bool.false_eq_true, and_self, and_true, true_and, eq_self, qI_1_1, qI_1_2, qR_1_0, qRd_1_0, qO_1, ed, z]
theorem e_atEnd (hT : tC mu) (hh : h ≤ 120) : Rr X d MTa_isAtEnd 0 [.ref 1] [] (Wd (tp mu h) la ro et) = some (some (.int (if h = Tcl mu then 1 else 0)), Wd (tp mu h) la ro et) := by
  obtain ⟨T, t1, t2⟩ := hT
  unfold Tcl
  rw [t2, nI_clamp (by omega)]
  by_cases c : h = T
  · subst c
    simp only [r_MTa_isAtEnd_0, r_MTa_isAtEnd_1, r_MTa_isAtEnd_4, r_MTa_isAtEnd_5, r_MTa_isAtEnd_8, r_MTa_isAtEnd_11, r_MTa_isAtEnd_12, r_MTa_isAtEnd_15, r_MTa_isAtEnd_16, sL_0, sL_1, sL_2, mk_i, mk_r, mk_f, mk_n, mk_u, mk_l, List.set_cons_succ, List.set_cons_zero, Nat.reduceAdd, ckS_0, ckS_1, ckS_2, ckS_3, ckS_4, Option.bind_some, Option.isSome_some, psh, if_true, if_false, i10, not_true_eq_false, not_false_eq_true, Bool.false_eq_true, and_self, and_true, true_and, eq_self, qI_1_1, qI_1_2, qR_1_0, qRd_1_0, qO_1, tp_12, tp_11, t2, or_true]
  · have c2 : ¬ nI h = nI T := fun q => c ((nI_eq (by omega) (by omega)).mp q)
    simp only [r_MTa_isAtEnd_0, r_MTa_isAtEnd_1, r_MTa_isAtEnd_4, r_MTa_isAtEnd_5, r_MTa_isAtEnd_8, r_MTa_isAtEnd_11, r_MTa_isAtEnd_12, r_MTa_isAtEnd_15, r_MTa_isAtEnd_16, sL_0, sL_1, sL_2, mk_i, mk_r, mk_f, mk_n, mk_u, mk_l, List.set_cons_succ, List.set_cons_zero, Nat.reduceAdd, ckS_0, ckS_1, ckS_2, ckS_3, ckS_4, Option.bind_some, Option.isSome_some, psh, if_true, if_false, i10, not_true_eq_false, not_false_eq_true, Bool.false_eq_true, and_self, and_true, true_and, eq_self, qI_1_1, qI_1_2, qR_1_0, qRd_1_0, qO_1, tp_12, tp_11, t2, c, c2, true_or]
-- against the model's bytes
theorem b255p : ∀ n, n < 128 → nI n &&& 255 = nI n := by decide +kernel
theorem b255n : ∀ n, n < 128 → (-1 - nI n) &&& 255 = nI (255 - n) := by decide +kernel
theorem by_c {x : Int32} (hx : x.toInt8.toInt32 = x) : (∃ n, n < 128 ∧ x = nI n) ∨ (∃ n, n < 128 ∧ x = -1 - nI n) := by
  have b1 := Int8.le_toInt x.toInt8
  have b2 := Int8.toInt_lt x.toInt8
  have e : x.toInt = x.toInt8.toInt := by
    have := congrArg Int32.toInt hx
    rw [Int8.toInt_toInt32] at this
    exact this.symm
  by_cases c : 0 ≤ x.toInt
  · exact .inl ⟨x.toInt.toNat, by omega, Int32.toInt_inj.mp (by rw [nI_toInt (by omega)]; omega)⟩
  · refine .inr ⟨(-1 - x.toInt).toNat, by omega, Int32.toInt_inj.mp ?_⟩
    rw [Int32.toInt_sub, nI_toInt (by omega), show (-1 : Int32).toInt = -1 from rfl, Int.bmod_eq_of_le (by omega) (by omega)]
    omega
theorem RT_C (hR : RT mu) : tC mu := by
  obtain ⟨T, t1, t2, _⟩ := hR
  exact ⟨T, t1, t2⟩
theorem RT_M (hR : RT mu) : tOK mu := by
  obtain ⟨T, t1, _, t2, _⟩ := hR
  exact ⟨T, t1, t2⟩
theorem RT_T (hR : RT mu) : Tcl mu = Tt mu := by
  obtain ⟨T, t1, t2, t3, _⟩ := hR
  unfold Tcl Tt
  rw [t2, t3]
theorem cb_k (hR : RT mu) {k : Int32} (hk : 0 ≤ k.toInt ∧ k.toInt ≤ 127) : (cb mu h = k) ↔ (bt mu h = k) := by
  obtain ⟨T, t1, t2, t3, t4⟩ := hR
  unfold cb bt
  rw [t2, t3]
  by_cases c : h < (nI T).toNatClampNeg
  · rw [if_pos c, if_pos c]
    rw [nI_clamp (by omega)] at c
    obtain ⟨e1, e2⟩ := t4 h c
    rw [e1]
    rcases by_c e2 with ⟨n, hn, e⟩ | ⟨n, hn, e⟩
    · rw [e, b255p n hn]
    · rw [e, b255n n hn]
      constructor
      · intro q
        have := congrArg Int32.toInt q
        rw [nI_toInt (by omega)] at this
        omega
      · intro q
        have := congrArg Int32.toInt q
        rw [Int32.toInt_sub, nI_toInt (by omega), show (-1 : Int32).toInt = -1 from rfl, Int.bmod_eq_of_le (by omega) (by omega)] at this
        omega
  · rw [if_neg c, if_neg c]
theorem cb_d (hR : RT mu) (hd : isD (bt mu h) = true) : cb mu h = bt mu h := by
  have q := of_decide_eq_true hd
  simp only [Int32.le_iff_toInt_le, show (48 : Int32).toInt = 48 from rfl, show (57 : Int32).toInt = 57 from rfl] at q
  exact (cb_k hR (k := bt mu h) (by omega)).mpr rfl
theorem dg_eq (hR : RT mu) : dgC mu 0 h = isD (bt mu h) := by
  by_cases c : isD (bt mu h) = true
  · rw [c]
    have e := cb_d hR c
    have q := of_decide_eq_true c
    refine decide_eq_true ?_
    rw [e]
    exact ⟨Int32.not_lt.mpr q.1, q.2⟩
  · by_cases c2 : dgC mu 0 h = true
    · obtain ⟨n, n1, n2, n3, n4⟩ := dg_n l00 c2
      have e := (cb_k hR (k := nI (48 + n)) (by rw [nI_toInt (by omega)]; omega)).mp n3
      exact absurd (decide_eq_true (by rw [e]; exact ⟨nI_le (a := 48) (b := 48 + n) (by omega) (by omega), nI_le (a := 48 + n) (b := 57) (by omega) (by omega)⟩)) c
    · rw [Bool.eq_false_iff.mpr c, Bool.eq_false_iff.mpr c2]
theorem nb_fg (hR : RT mu) : ∀ (r h : Nat) (v : Int32) (n : Nat), nbL mu r h v = ((fgL mu r h v n).1, (fgL mu r h v n).2.1)
  | 0, _, _, _ => rfl
  | r + 1, h, v, n => by
    rw [nbL, fgL, dg_eq hR]
    by_cases c : isD (bt mu h) = true
    · rw [if_pos c, if_pos c, nb_fg hR r (h + 1) _ (n + 1), cb_d hR c, Int32.sub_eq_add_neg, Int32.sub_eq_add_neg, Int32.add_assoc]
    · rw [if_neg c, if_neg c]
theorem nb_b : ∀ (r h v : Nat), ∃ w, (nbL mu r h (nI v)).2 = nI w ∧ w + 1 ≤ (v + 1) * 10 ^ r
  | 0, _, v => ⟨v, rfl, by omega⟩
  | r + 1, h, v => by
    rw [nbL]
    split
    · rename_i c
      obtain ⟨n, n1, n2, n3, n4⟩ := dg_n l00 c
      have e : 10 * nI v + nI n = nI (10 * v + n) := by rw [show (10 : Int32) * nI v = nI (10 * v) from (Int32.ofNat_mul 10 v).symm, nI_add]
      rw [n4, e]
      obtain ⟨w, w1, w2⟩ := nb_b r (h + 1) (10 * v + n)
      refine ⟨w, w1, Nat.le_trans w2 ?_⟩
      rw [Nat.pow_succ, Nat.mul_comm (10 ^ r) 10, ← Nat.mul_assoc]
      exact Nat.mul_le_mul_right _ (by omega)
    · refine ⟨v, rfl, ?_⟩
      have := Nat.mul_le_mul_left (v + 1) (Nat.one_le_pow (r + 1) 10 (by decide))
      omega
end
